noncomputable def q1_ (P : Prop) (v : Nat) : Nat := @ite Nat P (Classical.propDecidable P) v 0
theorem q1_t {P : Prop} {v : Nat} (h : P) : q1_ P v = v := by unfold q1_; exact if_pos h
theorem q1_f {P : Prop} {v : Nat} (h : ¬ P) : q1_ P v = 0 := by unfold q1_; exact if_neg h
theorem q1_e {P Q : Prop} {v w : Nat} (h : P ↔ Q) (e : P → v = w) : q1_ P v = q1_ Q w := by
  by_cases p : P
  · rw [q1_t p, q1_t (h.mp p), e p]
  · rw [q1_f p, q1_f (fun q => p (h.mpr q))]
/-- a sum over the groups behind t that a condition names -/
noncomputable def qs_ (C : Int → Prop) (V : Int → Nat) (t : Int) : Nat := q1_ (t < 0 ∧ C 0) (V 0) + q1_ (t < 1 ∧ C 1) (V 1) + q1_ (t < 2 ∧ C 2) (V 2) + q1_ (t < 3 ∧ C 3) (V 3)
theorem qs_n {C : Int → Prop} {V : Int → Nat} {t : Int} (h : ∀ g, t < g → 0 ≤ g → g < 4 → ¬ C g) : qs_ C V t = 0 := by
  unfold qs_
  rw [q1_f (fun q => h 0 q.1 (by decide) (by decide) q.2), q1_f (fun q => h 1 q.1 (by decide) (by decide) q.2), q1_f (fun q => h 2 q.1 (by decide) (by decide) q.2), q1_f (fun q => h 3 q.1 (by decide) (by decide) q.2)]
theorem qs_f {C : Int → Prop} {V : Int → Nat} {t g : Int} (h0 : 0 ≤ g) (h4 : g < 4) (ht : t < g) (c : C g) (no : ∀ u, t < u → 0 ≤ u → u < g → ¬ C u) : qs_ C V t = V g + qs_ C V g := by
  have lo : ∀ u, 0 ≤ u → u < g → q1_ (t < u ∧ C u) (V u) = 0 := fun u a b => q1_f (fun q => no u q.1 a b q.2)
  have lo2 : ∀ u, u ≤ g → q1_ (g < u ∧ C u) (V u) = 0 := fun u b => q1_f (fun q => by omega)
  have hi : ∀ u, g < u → q1_ (t < u ∧ C u) (V u) = q1_ (g < u ∧ C u) (V u) := fun u b => q1_e ⟨fun q => ⟨b, q.2⟩, fun q => ⟨by omega, q.2⟩⟩ (fun _ => rfl)
  have me : q1_ (t < g ∧ C g) (V g) = V g := q1_t ⟨ht, c⟩
  unfold qs_
  rcases (by omega : g = 0 ∨ g = 1 ∨ g = 2 ∨ g = 3) with z | z | z | z
  · subst z; rw [me, lo2 0 (by decide), hi 1 (by decide), hi 2 (by decide), hi 3 (by decide)]; omega
  · subst z; rw [me, lo 0 (by decide) (by decide), lo2 0 (by decide), lo2 1 (by decide), hi 2 (by decide), hi 3 (by decide)]; omega
  · subst z; rw [me, lo 0 (by decide) (by decide), lo 1 (by decide) (by decide), lo2 0 (by decide), lo2 1 (by decide), lo2 2 (by decide), hi 3 (by decide)]; omega
  · subst z; rw [me, lo 0 (by decide) (by decide), lo 1 (by decide) (by decide), lo 2 (by decide) (by decide), lo2 0 (by decide), lo2 1 (by decide), lo2 2 (by decide), lo2 3 (by decide)]; omega
theorem qs_e {C C' : Int → Prop} {V V' : Int → Nat} {t : Int} (h : ∀ g, 0 ≤ g → g < 4 → (C g ↔ C' g)) (hv : ∀ g, 0 ≤ g → g < 4 → C g → V g = V' g) : qs_ C V t = qs_ C' V' t := by
  have e : ∀ g, 0 ≤ g → g < 4 → q1_ (t < g ∧ C g) (V g) = q1_ (t < g ∧ C' g) (V' g) := fun g a b => q1_e ⟨fun q => ⟨q.1, (h g a b).mp q.2⟩, fun q => ⟨q.1, (h g a b).mpr q.2⟩⟩ (fun q => hv g a b q.2)
  unfold qs_
  rw [e 0 (by decide) (by decide), e 1 (by decide) (by decide), e 2 (by decide) (by decide), e 3 (by decide) (by decide)]
theorem q1_z {P : Prop} : q1_ P 0 = 0 := by
  by_cases p : P
  · exact q1_t p
  · exact q1_f p
theorem qs_1 {C : Int → Prop} {V : Int → Nat} {h : Int} (a : 0 ≤ h) (b : h < 4) : qs_ (fun g => g = h ∧ C g) V (-1) = qs_ (fun g => C g) (fun g => if g = h then V g else 0) (-1) := by
  have e : ∀ g, q1_ ((-1 : Int) < g ∧ g = h ∧ C g) (V g) = q1_ ((-1 : Int) < g ∧ C g) (if g = h then V g else 0) := fun g => by
    by_cases z : g = h
    · rw [if_pos z]; exact q1_e ⟨fun q => ⟨q.1, q.2.2⟩, fun q => ⟨q.1, z, q.2⟩⟩ (fun _ => rfl)
    · rw [if_neg z, q1_z]; exact q1_f (fun q => z q.2.1)
  unfold qs_
  rw [e 0, e 1, e 2, e 3]
theorem qs_a {C : Int → Prop} {V W : Int → Nat} {t : Int} : qs_ C (fun g => V g + W g) t = qs_ C V t + qs_ C W t := by
  have e : ∀ g, q1_ (t < g ∧ C g) (V g + W g) = q1_ (t < g ∧ C g) (V g) + q1_ (t < g ∧ C g) (W g) := fun g => by
    by_cases z : t < g ∧ C g
    · rw [q1_t z, q1_t z, q1_t z]
    · rw [q1_f z, q1_f z, q1_f z]
  unfold qs_
  rw [e 0, e 1, e 2, e 3]; omega
theorem qs_b {C F : Int → Prop} {V : Int → Nat} {M : Nat} (h : ∀ g, 0 ≤ g → g < 4 → C g → F g ∧ V g ≤ M) : qs_ C V (-1) ≤ qs_ F (fun _ => 1) (-1) * M := by
  have e : ∀ g : Int, 0 ≤ g → g < 4 → q1_ ((-1 : Int) < g ∧ C g) (V g) ≤ q1_ ((-1 : Int) < g ∧ F g) 1 * M := fun g a b => by
    by_cases c : C g
    · have := h g a b c
      rw [q1_t ⟨by omega, c⟩, q1_t ⟨by omega, this.1⟩]; omega
    · rw [q1_f (fun q => c q.2)]; omega
  have a0 := e 0 (by decide) (by decide)
  have a1 := e 1 (by decide) (by decide)
  have a2 := e 2 (by decide) (by decide)
  have a3 := e 3 (by decide) (by decide)
  unfold qs_
  rw [Nat.add_mul, Nat.add_mul, Nat.add_mul]
  exact Nat.add_le_add (Nat.add_le_add (Nat.add_le_add a0 a1) a2) a3
/-- one place changed -/
def fu_ (f : Int → Int) (x g : Int) : Int → Int := fun k => if k = x then g else f k
/-- how many in the group, of the clubs below k, are of the club's country -/
def alk_ (E C f : Int → Int) (x g : Int) : Nat → Int
  | 0 => 0
  | k + 1 => alk_ E C f x g k + (if (k : Int) ≠ x ∧ E k ≠ -1 ∧ f k = g ∧ C k = C x then 1 else 0)
/-- a draw: pots, countries, how many clubs, groups, the limit -/
abbrev Dr_ : Type := (Int → Int) × (Int → Int) × Int × Int × Int
def Dr_.E (d : Dr_) : Int → Int := d.1
def Dr_.C (d : Dr_) : Int → Int := d.2.1
def Dr_.n (d : Dr_) : Int := d.2.2.1
def Dr_.G (d : Dr_) : Int := d.2.2.2.1
def Dr_.L (d : Dr_) : Int := d.2.2.2.2
def ms_ (d : Dr_) (f : Int → Int) (x g : Int) : Prop := (∀ k, 0 ≤ k → k < d.n → k ≠ x → d.E k ≠ -1 → f k = g → d.E k ≠ d.E x) ∧ alk_ d.E d.C f x g d.n.toNat < d.L
def ok_ (d : Dr_) (fx gp : Int) (f : Int → Int) (x g : Int) : Prop := g < d.G ∧ (x = fx → g = gp) ∧ ms_ d f x g
/-- the ways to place the clubs of a list -/
noncomputable def nw_ (d : Dr_) (fx gp : Int) : List Int → (Int → Int) → Nat
  | [], _ => 1
  | x :: l, f => qs_ (ok_ d fx gp f x) (fun g => nw_ d fx gp l (fu_ f x g)) (-1)
theorem nw_o {d : Dr_} {c g : Int} : ∀ (l : List Int) (f : Int → Int), (∀ x ∈ l, x ≠ c ∧ x ≠ -1) → nw_ d c g l f = nw_ d (-1) (-1) l f
  | [], _, _ => rfl
  | x :: l, f, h => by
      have hx := h x List.mem_cons_self
      unfold nw_
      exact qs_e (fun u _ _ => ⟨fun q => ⟨q.1, fun z => absurd z hx.2, q.2.2⟩, fun q => ⟨q.1, fun z => absurd z hx.1, q.2.2⟩⟩) (fun u _ _ _ => nw_o l _ (fun y hy => h y (List.mem_cons_of_mem _ hy)))
/-- the ways, by where one club goes -/
theorem nw_s {d : Dr_} {c : Int} (hc : c ≠ -1) : ∀ (l : List Int) (f : Int → Int), c ∈ l → l.Nodup → (∀ x ∈ l, x ≠ -1) → nw_ d c 0 l f + nw_ d c 1 l f + nw_ d c 2 l f + nw_ d c 3 l f = nw_ d (-1) (-1) l f
  | [], _, h, _, _ => absurd h List.not_mem_nil
  | x :: l, f, h, nd, hn => by
      have hx := hn x List.mem_cons_self
      rw [List.nodup_cons] at nd
      by_cases z : x = c
      · subst z
        have o : ∀ g f', nw_ d x g l f' = nw_ d (-1) (-1) l f' := fun g f' => nw_o l f' (fun y hy => ⟨fun e => nd.1 (e ▸ hy), hn y (List.mem_cons_of_mem _ hy)⟩)
        have e : ∀ g, 0 ≤ g → g < 4 → nw_ d x g (x :: l) f = qs_ (ok_ d (-1) (-1) f x) (fun u => if u = g then nw_ d (-1) (-1) l (fu_ f x u) else 0) (-1) := fun g a b => by
          show qs_ (ok_ d x g f x) (fun u => nw_ d x g l (fu_ f x u)) (-1) = _
          rw [← qs_1 a b]
          exact qs_e (fun u _ _ => ⟨fun q => ⟨q.2.1 rfl, q.1, fun z => absurd z hx, q.2.2⟩, fun q => ⟨q.2.1, fun _ => q.1, q.2.2.2⟩⟩) (fun u _ _ _ => o g _)
        rw [e 0 (by decide) (by decide), e 1 (by decide) (by decide), e 2 (by decide) (by decide), e 3 (by decide) (by decide), ← qs_a, ← qs_a, ← qs_a]
        show _ = qs_ (ok_ d (-1) (-1) f x) (fun u => nw_ d (-1) (-1) l (fu_ f x u)) (-1)
        refine qs_e (fun _ _ _ => Iff.rfl) (fun u a b _ => ?_)
        rcases (by omega : u = 0 ∨ u = 1 ∨ u = 2 ∨ u = 3) with z | z | z | z <;> subst z <;> simp
      · have hcl : c ∈ l := by
          rcases List.mem_cons.mp h with q | q
          · exact absurd q.symm z
          · exact q
        have e : ∀ g, nw_ d c g (x :: l) f = qs_ (ok_ d (-1) (-1) f x) (fun u => nw_ d c g l (fu_ f x u)) (-1) := fun g =>
          qs_e (fun u _ _ => ⟨fun q => ⟨q.1, fun z => absurd z hx, q.2.2⟩, fun q => ⟨q.1, fun y => absurd y z, q.2.2⟩⟩) (fun _ _ _ _ => rfl)
        rw [e 0, e 1, e 2, e 3, ← qs_a, ← qs_a, ← qs_a]
        exact qs_e (fun _ _ _ => Iff.rfl) (fun u _ _ _ => nw_s hc l _ hcl nd.2 (fun y hy => hn y (List.mem_cons_of_mem _ hy)))
def fc_ : Nat → Nat
  | 0 => 1
  | n + 1 => (n + 1) * fc_ n
theorem fc_p : ∀ n, 1 ≤ fc_ n
  | 0 => Nat.le_refl 1
  | n + 1 => Nat.mul_pos (Nat.succ_pos n) (fc_p n)
theorem fc_m {a b : Nat} (h : a ≤ b) : fc_ a ≤ fc_ b := by
  induction b with
  | zero => rw [show a = 0 by omega]; exact Nat.le_refl _
  | succ b i =>
    by_cases z : a = b + 1
    · rw [z]; exact Nat.le_refl _
    · exact Nat.le_trans (i (by omega)) (Nat.le_mul_of_pos_left _ (Nat.succ_pos b))
/-- how many groups have no club of pot p -/
noncomputable def ff_ (d : Dr_) (f : Int → Int) (p : Int) : Nat := qs_ (fun g => ∀ k, 0 ≤ k → k < d.n → d.E k = p → f k ≠ g) (fun _ => 1) (-1)
theorem q1_1 {P : Prop} : q1_ P 1 ≤ 1 := by
  by_cases p : P
  · rw [q1_t p]; exact Nat.le_refl _
  · rw [q1_f p]; exact Nat.zero_le _
theorem ff_4 (d : Dr_) (f : Int → Int) (p : Int) : ff_ d f p ≤ 4 := by
  unfold ff_ qs_
  exact Nat.add_le_add (Nat.add_le_add (Nat.add_le_add q1_1 q1_1) q1_1) q1_1
theorem ff_o {d : Dr_} {f : Int → Int} {x g p : Int} (h : d.E x ≠ p) : ff_ d (fu_ f x g) p = ff_ d f p := by
  unfold ff_
  refine qs_e (fun u _ _ => ?_) (fun _ _ _ _ => rfl)
  have e : ∀ k, d.E k = p → fu_ f x g k = f k := fun k hk => by
    unfold fu_; rw [if_neg (fun z => h (by rw [← z]; exact hk))]
  exact ⟨fun q k a b c => e k c ▸ q k a b c, fun q k a b c => by rw [e k c]; exact q k a b c⟩
theorem ff_s {d : Dr_} {f : Int → Int} {x g : Int} (hx : 0 ≤ x ∧ x < d.n) (hf : f x = -1) (h0 : 0 ≤ g) (h4 : g < 4) (fr : ∀ k, 0 ≤ k → k < d.n → d.E k = d.E x → f k ≠ g) : ff_ d (fu_ f x g) (d.E x) + 1 ≤ ff_ d f (d.E x) := by
  have ex : fu_ f x g x = g := by unfold fu_; rw [if_pos rfl]
  have e : ∀ u, 0 ≤ u → ((∀ k, 0 ≤ k → k < d.n → d.E k = d.E x → fu_ f x g k ≠ u) ↔ (u ≠ g ∧ ∀ k, 0 ≤ k → k < d.n → d.E k = d.E x → f k ≠ u)) := fun u hu => by
    constructor
    · intro q
      refine ⟨fun z => q x hx.1 hx.2 rfl (ex.trans z.symm), fun k a b c => ?_⟩
      by_cases y : k = x
      · rw [y, hf]; omega
      · have := q k a b c
        unfold fu_ at this
        rw [if_neg y] at this
        exact this
    · intro q k a b c
      by_cases y : k = x
      · rw [y, ex]; exact fun z => q.1 z.symm
      · unfold fu_; rw [if_neg y]; exact q.2 k a b c
  have k : ∀ u, 0 ≤ u → u < 4 → q1_ ((-1 : Int) < u ∧ ∀ k, 0 ≤ k → k < d.n → d.E k = d.E x → fu_ f x g k ≠ u) 1 + (if u = g then 1 else 0) ≤ q1_ ((-1 : Int) < u ∧ ∀ k, 0 ≤ k → k < d.n → d.E k = d.E x → f k ≠ u) 1 := fun u a b => by
    by_cases z : u = g
    · rw [if_pos z, q1_f (fun q => ((e u a).mp q.2).1 z), q1_t ⟨by omega, z ▸ fr⟩]; exact Nat.le_refl _
    · rw [if_neg z]
      refine Nat.le_of_eq (q1_e ⟨fun q => ⟨q.1, ((e u a).mp q.2).2⟩, fun q => ⟨q.1, (e u a).mpr ⟨z, q.2⟩⟩⟩ (fun _ => rfl))
  have k0 := k 0 (by decide) (by decide)
  have k1 := k 1 (by decide) (by decide)
  have k2 := k 2 (by decide) (by decide)
  have k3 := k 3 (by decide) (by decide)
  unfold ff_ qs_
  dsimp only
  rcases (by omega : g = 0 ∨ g = 1 ∨ g = 2 ∨ g = 3) with z | z | z | z <;> rw [z] at k0 k1 k2 k3 ⊢ <;> simp only [if_true, if_false, Nat.add_zero, show ((0 : Int) = 1) = False by simp, show ((0 : Int) = 2) = False by simp, show ((0 : Int) = 3) = False by simp, show ((1 : Int) = 0) = False by simp, show ((1 : Int) = 2) = False by simp, show ((1 : Int) = 3) = False by simp, show ((2 : Int) = 0) = False by simp, show ((2 : Int) = 1) = False by simp, show ((2 : Int) = 3) = False by simp, show ((3 : Int) = 0) = False by simp, show ((3 : Int) = 1) = False by simp, show ((3 : Int) = 2) = False by simp] at k0 k1 k2 k3 <;> omega
theorem nw_b {d : Dr_} {fx gp : Int} : ∀ (l : List Int) (f : Int → Int), l.Nodup → (∀ x ∈ l, 0 ≤ x ∧ x < d.n ∧ f x = -1 ∧ 0 ≤ d.E x ∧ d.E x ≤ 2) → nw_ d fx gp l f ≤ fc_ (ff_ d f 0) * fc_ (ff_ d f 1) * fc_ (ff_ d f 2)
  | [], f, _, _ => by
      show 1 ≤ _
      exact Nat.mul_pos (Nat.mul_pos (fc_p _) (fc_p _)) (fc_p _)
  | x :: l, f, nd, h => by
      have hx := h x List.mem_cons_self
      rw [List.nodup_cons] at nd
      have ih : ∀ g, nw_ d fx gp l (fu_ f x g) ≤ fc_ (ff_ d (fu_ f x g) 0) * fc_ (ff_ d (fu_ f x g) 1) * fc_ (ff_ d (fu_ f x g) 2) := fun g => nw_b l _ nd.2 (fun y hy => by
        have q := h y (List.mem_cons_of_mem _ hy)
        refine ⟨q.1, q.2.1, ?_, q.2.2.2⟩
        unfold fu_; rw [if_neg (fun z => nd.1 (by rw [← z]; exact hy))]; exact q.2.2.1)
      have fr : ∀ g, 0 ≤ g → ok_ d fx gp f x g → ∀ k, 0 ≤ k → k < d.n → d.E k = d.E x → f k ≠ g := fun g hg q k a b c => by
        by_cases y : k = x
        · rw [y, hx.2.2.1]; omega
        · exact fun z => q.2.2.1 k a b y (by omega) z c
      show qs_ (ok_ d fx gp f x) _ (-1) ≤ _
      rcases (by omega : d.E x = 0 ∨ d.E x = 1 ∨ d.E x = 2) with z | z | z
      · refine Nat.le_trans (qs_b (F := fun g => ∀ k, 0 ≤ k → k < d.n → d.E k = d.E x → f k ≠ g) (M := fc_ (ff_ d f 0 - 1) * fc_ (ff_ d f 1) * fc_ (ff_ d f 2)) (fun g a b c => ⟨fr g a c, ?_⟩)) ?_
        · refine Nat.le_trans (ih g) ?_
          rw [ff_o (by omega : d.E x ≠ 1), ff_o (by omega : d.E x ≠ 2)]
          have s := ff_s (d := d) (f := f) (x := x) (g := g) ⟨hx.1, hx.2.1⟩ hx.2.2.1 a b (fr g a c)
          rw [z] at s
          exact Nat.mul_le_mul_right _ (Nat.mul_le_mul_right _ (fc_m (by omega)))
        · rw [z]
          show ff_ d f 0 * _ ≤ _
          rw [← Nat.mul_assoc, ← Nat.mul_assoc]
          refine Nat.mul_le_mul_right _ (Nat.mul_le_mul_right _ ?_)
          cases ff_ d f 0 with
          | zero => rw [Nat.zero_mul]; exact Nat.zero_le _
          | succ m => exact Nat.le_refl _
      · refine Nat.le_trans (qs_b (F := fun g => ∀ k, 0 ≤ k → k < d.n → d.E k = d.E x → f k ≠ g) (M := fc_ (ff_ d f 0) * fc_ (ff_ d f 1 - 1) * fc_ (ff_ d f 2)) (fun g a b c => ⟨fr g a c, ?_⟩)) ?_
        · refine Nat.le_trans (ih g) ?_
          rw [ff_o (by omega : d.E x ≠ 0), ff_o (by omega : d.E x ≠ 2)]
          have s := ff_s (d := d) (f := f) (x := x) (g := g) ⟨hx.1, hx.2.1⟩ hx.2.2.1 a b (fr g a c)
          rw [z] at s
          exact Nat.mul_le_mul_right _ (Nat.mul_le_mul_left _ (fc_m (by omega)))
        · rw [z]
          show ff_ d f 1 * _ ≤ _
          rw [← Nat.mul_assoc, Nat.mul_left_comm]
          refine Nat.mul_le_mul_right _ (Nat.mul_le_mul_left _ ?_)
          cases ff_ d f 1 with
          | zero => rw [Nat.zero_mul]; exact Nat.zero_le _
          | succ m => exact Nat.le_refl _
      · refine Nat.le_trans (qs_b (F := fun g => ∀ k, 0 ≤ k → k < d.n → d.E k = d.E x → f k ≠ g) (M := fc_ (ff_ d f 0) * fc_ (ff_ d f 1) * fc_ (ff_ d f 2 - 1)) (fun g a b c => ⟨fr g a c, ?_⟩)) ?_
        · refine Nat.le_trans (ih g) ?_
          rw [ff_o (by omega : d.E x ≠ 0), ff_o (by omega : d.E x ≠ 1)]
          have s := ff_s (d := d) (f := f) (x := x) (g := g) ⟨hx.1, hx.2.1⟩ hx.2.2.1 a b (fr g a c)
          rw [z] at s
          exact Nat.mul_le_mul_left _ (fc_m (by omega))
        · rw [z]
          show ff_ d f 2 * _ ≤ _
          rw [Nat.mul_left_comm]
          refine Nat.mul_le_mul_left _ ?_
          cases ff_ d f 2 with
          | zero => rw [Nat.zero_mul]; exact Nat.zero_le _
          | succ m => exact Nat.le_refl _
theorem nw_m {d : Dr_} {fx gp : Int} {l : List Int} {f : Int → Int} (nd : l.Nodup) (h : ∀ x ∈ l, 0 ≤ x ∧ x < d.n ∧ f x = -1 ∧ 0 ≤ d.E x ∧ d.E x ≤ 2) : nw_ d fx gp l f ≤ 13824 := by
  refine Nat.le_trans (nw_b l f nd h) ?_
  have e : ∀ p, fc_ (ff_ d f p) ≤ 24 := fun p => fc_m (ff_4 d f p)
  exact Nat.mul_le_mul (Nat.mul_le_mul (e 0) (e 1)) (e 2)
noncomputable def pr_ (d : Dr_) (fx gp : Int) (l : List Int) (f : Int → Int) (x t : Int) : Nat := qs_ (ok_ d fx gp f x) (fun g => nw_ d fx gp l (fu_ f x g)) t
/-- where the clubs of a pile stand -/
def cf_ (b : Int → Int) : List (Int × Int) → Int → Int
  | [] => b
  | p :: st => fu_ (cf_ b st) p.1 p.2
/-- the ways still to come below a pile -/
noncomputable def rs_ (d : Dr_) (fx gp : Int) (b : Int → Int) : List (Int × Int) → List Int → Nat
  | [], _ => 0
  | p :: st, ys => pr_ d fx gp ys (cf_ b st) p.1 p.2 + rs_ d fx gp b st (p.1 :: ys)
/-- how far the search is from its end -/
def mz_ : List (Int × Int) → Nat
  | [] => 0
  | p :: st => (4 - p.2).toNat * 6 ^ (13 - st.length) + mz_ st
/-- the rows hold the pile -/
def RP_ (T : Zt) (G : Int) (b : Int → Int) : List (Int × Int) → Prop
  | [] => True
  | p :: st => T 304 0 (st.length : Int) = p.1 ∧ T 305 0 (st.length : Int) = p.2 ∧ (0 ≤ p.1 ∧ p.1 < 12) ∧ (0 ≤ p.2 ∧ p.2 < G) ∧ cf_ b st p.1 = -1 ∧ RP_ T G b st
def RQ_ (T : Zt) : Nat → List Int → Prop
  | _, [] => True
  | i, y :: ys => T 304 0 (i : Int) = y ∧ T 305 0 (i : Int) = -1 ∧ RQ_ T (i + 1) ys
theorem rp_e {T T1 : Zt} {G : Int} {b : Int → Int} : ∀ {st : List (Int × Int)}, RP_ T G b st → (∀ j, j < (st.length : Int) → T1 304 0 j = T 304 0 j ∧ T1 305 0 j = T 305 0 j) → RP_ T1 G b st
  | [], _, _ => trivial
  | p :: st, h, e => by
      have k := e (st.length : Int) (by rw [List.length_cons]; omega)
      exact ⟨k.1.trans h.1, k.2.trans h.2.1, h.2.2.1, h.2.2.2.1, h.2.2.2.2.1, rp_e h.2.2.2.2.2 (fun j hj => e j (by rw [List.length_cons]; omega))⟩
theorem rq_e {T T1 : Zt} : ∀ {i : Nat} {ys : List Int}, RQ_ T i ys → (∀ j : Int, (i : Int) ≤ j → T1 304 0 j = T 304 0 j ∧ T1 305 0 j = T 305 0 j) → RQ_ T1 i ys
  | _, [], _, _ => trivial
  | i, y :: ys, h, e => ⟨(e i (by omega)).1.trans h.1, (e i (by omega)).2.trans h.2.1, rq_e h.2.2 (fun j hj => e j (by omega))⟩
theorem rq_s {T : Zt} {x : Int} : ∀ {i : Nat} {ys : List Int}, RQ_ T i ys → T 304 0 ((i : Int) + ys.length) = x → T 305 0 ((i : Int) + ys.length) = -1 → RQ_ T i (ys ++ [x])
  | i, [], _, a, c => by
      rw [List.length_nil, show (i : Int) + ((0 : Nat) : Int) = i by omega] at a c
      exact ⟨a, c, trivial⟩
  | i, y :: ys, h, a, c => by
      rw [List.length_cons, show (i : Int) + ((ys.length + 1 : Nat) : Int) = ((i + 1 : Nat) : Int) + ys.length by omega] at a c
      exact ⟨h.1, h.2.1, rq_s h.2.2 a c⟩
theorem rq_l {T T1 : Zt} : ∀ {i : Nat} {ys : List Int}, RQ_ T i ys → (∀ j : Int, (i : Int) ≤ j → j < (i : Int) + ys.length → T1 304 0 j = T 304 0 j ∧ T1 305 0 j = T 305 0 j) → RQ_ T1 i ys
  | _, [], _, _ => trivial
  | i, y :: ys, h, e => by
      have k := e i (by omega) (by rw [List.length_cons]; omega)
      exact ⟨k.1.trans h.1, k.2.trans h.2.1, rq_l h.2.2 (fun j hj hk => e j (by omega) (by rw [List.length_cons]; omega))⟩
/-- the search's state -/
def WH_ (T : Zt) (d : Dr_) (fx gp : Int) (b : Int → Int) (n i w : Int) (N : Nat) (st : List (Int × Int)) (zs : List Int) (t : Int) : Prop :=
  (i = -1 ∧ w = N ∧ ∀ k, T 302 0 k = b k) ∨
  (i = st.length ∧ (st.length : Int) + zs.length = n ∧ RP_ T d.G b st ∧ 0 ≤ w ∧
    match zs with
    | [] => t = -1 ∧ (∀ k, T 302 0 k = cf_ b st k) ∧ w + 1 + (rs_ d fx gp b st [] : Nat) = N
    | x :: ys => T 304 0 i = x ∧ T 305 0 i = t ∧ (-1 ≤ t ∧ t < d.G) ∧ RQ_ T (st.length + 1) ys ∧ (∀ k, k ≠ x → T 302 0 k = cf_ b st k) ∧ (∀ z ∈ x :: ys, (0 ≤ z ∧ z < 12) ∧ cf_ b st z = -1) ∧ (x :: ys).Nodup ∧ w + (pr_ d fx gp ys (cf_ b st) x t : Nat) + (rs_ d fx gp b st (x :: ys) : Nat) = N)
def wm_ (i t : Int) (st : List (Int × Int)) : Nat := if i < 0 then 0 else 1 + mz_ ((0, t) :: st)
theorem fu_s (f : Int → Int) (x g : Int) : fu_ f x g x = g := if_pos rfl
theorem fu_n {f : Int → Int} {x g k : Int} (h : k ≠ x) : fu_ f x g k = f k := if_neg h
/-- from a pile back to the one below -/
theorem wh_p {T : Zt} {d : Dr_} {fx gp w : Int} {b : Int → Int} {n : Int} {N : Nat} {st : List (Int × Int)} {zs : List Int} {tt : Int} (hG : d.G ≤ 4) (hT : -1 ≤ tt ∧ tt < 4) (hn : (st.length : Int) + zs.length = n) (rp : RP_ T d.G b st) (hw : 0 ≤ w) (go : ∀ k, T 302 0 k = cf_ b st k) (rq : RQ_ T st.length zs) (fz : ∀ z ∈ zs, (0 ≤ z ∧ z < 12) ∧ cf_ b st z = -1) (nd : zs.Nodup) (e : w + (rs_ d fx gp b st zs : Nat) = N) :
    ∃ st' zs' t', WH_ T d fx gp b n ((st.length : Int) - 1) w N st' zs' t' ∧ wm_ ((st.length : Int) - 1) t' st' < wm_ (st.length : Int) tt st := by
  have hm : wm_ (st.length : Int) tt st = 1 + ((4 - tt).toNat * 6 ^ (13 - st.length) + mz_ st) := by unfold wm_; rw [if_neg (by omega)]; rfl
  have pp : 0 < (4 - tt).toNat * 6 ^ (13 - st.length) := Nat.mul_pos (by omega) (Nat.pow_pos (by decide))
  cases st with
  | nil =>
    refine ⟨[], [], -1, Or.inl ⟨rfl, ?_, go⟩, ?_⟩
    · have : (rs_ d fx gp b [] zs : Nat) = 0 := rfl
      omega
    · have : wm_ (((([] : List (Int × Int)).length : Nat) : Int) - 1) (-1) [] = 0 := rfl
      rw [this, hm]; omega
  | cons p st =>
    obtain ⟨r1, r2, r3, r4, r5, r6⟩ := rp
    have hp : ∀ z ∈ zs, z ≠ p.1 := fun z hz q => by
      have := (fz z hz).2
      rw [q] at this
      have k : cf_ b (p :: st) p.1 = p.2 := fu_s _ _ _
      omega
    have li : (((p :: st).length : Nat) : Int) - 1 = (st.length : Int) := by rw [List.length_cons]; omega
    refine ⟨st, p.1 :: zs, p.2, Or.inr ⟨li, ?_, r6, hw, ?_⟩, ?_⟩
    · rw [List.length_cons] at hn ⊢; omega
    · rw [li]
      refine ⟨r1, r2, by omega, rq, fun k hk => (go k).trans (fu_n hk), fun z hz => ?_, List.nodup_cons.mpr ⟨fun q => hp _ q rfl, nd⟩, ?_⟩
      · rcases List.mem_cons.mp hz with q | q
        · rw [q]; exact ⟨r3, r5⟩
        · have := fz z q
          refine ⟨this.1, ?_⟩
          have k : cf_ b (p :: st) z = cf_ b st z := fu_n (hp z q)
          rw [← k]; exact this.2
      · have k : rs_ d fx gp b (p :: st) zs = pr_ d fx gp zs (cf_ b st) p.1 p.2 + rs_ d fx gp b st (p.1 :: zs) := rfl
        rw [k] at e
        omega
    · rw [li, hm]
      have k : wm_ (st.length : Int) p.2 st = 1 + ((4 - p.2).toNat * 6 ^ (13 - st.length) + mz_ st) := by unfold wm_; rw [if_neg (by omega)]; rfl
      have k2 : mz_ (p :: st) = (4 - p.2).toNat * 6 ^ (13 - st.length) + mz_ st := rfl
      rw [k, k2]; omega
theorem wh_b {T : Zt} {d : Dr_} {fx gp i w n t : Int} {b : Int → Int} {N : Nat} {st : List (Int × Int)} {zs : List Int} (hG : d.G ≤ 4) (h : WH_ T d fx gp b n i w N st zs t) (hi : 0 ≤ i) (e : i = n) :
    w + 1 ≤ N ∧ 0 ≤ w ∧ ∃ st' zs' t', WH_ T d fx gp b n (i - 1) (w + 1) N st' zs' t' ∧ wm_ (i - 1) t' st' < wm_ i t st := by
  rcases h with h | ⟨h1, h2, h3, h4, h5⟩
  · omega
  · cases zs with
    | cons x ys => rw [List.length_cons] at h2; omega
    | nil =>
      obtain ⟨q1, q2, q3⟩ := h5
      refine ⟨by omega, h4, ?_⟩
      subst h1
      exact wh_p hG (by omega) h2 h3 (by omega) q2 trivial (fun z hz => absurd hz List.not_mem_nil) List.nodup_nil q3
theorem wh_x {T : Zt} {d : Dr_} {fx gp i w n t : Int} {b : Int → Int} {N : Nat} {st : List (Int × Int)} {zs : List Int} (h : WH_ T d fx gp b n i w N st zs t) (hi : 0 ≤ i) (e : i ≠ n) :
    ∃ x ys, zs = x :: ys ∧ T 304 0 i = x ∧ T 305 0 i = t ∧ (0 ≤ x ∧ x < 12) ∧ (-1 ≤ t ∧ t < d.G) ∧ i < n ∧ i = st.length := by
  rcases h with h | ⟨h1, h2, h3, h4, h5⟩
  · omega
  · cases zs with
    | nil => rw [List.length_nil] at h2; omega
    | cons x ys =>
      obtain ⟨q1, q2, q3, q4, q5, q6, q7, q8⟩ := h5
      exact ⟨x, ys, rfl, q1, q2, (q6 x List.mem_cons_self).1, q3, by rw [List.length_cons] at h2; omega, h1⟩
theorem wh_c {T T1 : Zt} {d : Dr_} {fx gp i w n t x : Int} {b : Int → Int} {N : Nat} {st : List (Int × Int)} {ys : List Int} (h : WH_ T d fx gp b n i w N st (x :: ys) t) (hi : 0 ≤ i) (e1 : T1 302 0 x = -1) (e2 : ∀ k, k ≠ x → T1 302 0 k = T 302 0 k) : (fun k => T1 302 0 k) = cf_ b st := by
  rcases h with h | ⟨h1, h2, h3, h4, h5⟩
  · omega
  · obtain ⟨q1, q2, q3, q4, q5, q6, q7, q8⟩ := h5
    funext k
    by_cases z : k = x
    · rw [z, e1]; exact ((q6 x List.mem_cons_self).2).symm
    · rw [e2 k z]; exact q5 k z
theorem wh_n {T T2 : Zt} {d : Dr_} {fx gp i w n t x : Int} {b : Int → Int} {N : Nat} {st : List (Int × Int)} {ys : List Int} (hG : d.G ≤ 4) (h : WH_ T d fx gp b n i w N st (x :: ys) t) (hi : 0 ≤ i)
    (go : (fun k => T2 302 0 k) = cf_ b st) (tr : ∀ j, T2 304 0 j = T 304 0 j) (ti : ∀ j, j ≠ i → T2 305 0 j = T 305 0 j) (t2 : T2 305 0 i = -1) (no : ∀ u, t < u → 0 ≤ u → u < d.G → ¬ ((x = fx → u = gp) ∧ ms_ d (cf_ b st) x u)) :
    ∃ st' zs' t', WH_ T2 d fx gp b n (i - 1) w N st' zs' t' ∧ wm_ (i - 1) t' st' < wm_ i t st := by
  rcases h with h | ⟨h1, h2, h3, h4, h5⟩
  · omega
  · obtain ⟨q1, q2, q3, q4, q5, q6, q7, q8⟩ := h5
    have z : pr_ d fx gp ys (cf_ b st) x t = 0 := qs_n (fun g a c _ k => no g a c k.1 k.2)
    subst h1
    refine wh_p hG (by omega) h2 (rp_e h3 (fun j hj => ⟨tr j, ti j (by omega)⟩)) h4 (fun k => congrFun go k) ⟨(tr _).trans q1, t2, rq_e q4 (fun j hj => ⟨tr j, ti j (by omega)⟩)⟩ q6 q7 (by omega)
theorem wh_g {T T2 : Zt} {d : Dr_} {fx gp i w n t x g : Int} {b : Int → Int} {N : Nat} {st : List (Int × Int)} {ys : List Int} (hG : d.G ≤ 4) (hn : n ≤ 12) (h : WH_ T d fx gp b n i w N st (x :: ys) t) (hi : 0 ≤ i)
    (go : ∀ k, T2 302 0 k = fu_ (cf_ b st) x g k) (tr : ∀ j, T2 304 0 j = T 304 0 j) (ti : ∀ j, j ≠ i → T2 305 0 j = T 305 0 j) (t2 : T2 305 0 i = g) (hg : t < g ∧ 0 ≤ g ∧ g < d.G) (ok : (x = fx → g = gp) ∧ ms_ d (cf_ b st) x g) (no : ∀ u, t < u → 0 ≤ u → u < g → ¬ ((x = fx → u = gp) ∧ ms_ d (cf_ b st) x u)) :
    ∃ st' zs' t', WH_ T2 d fx gp b n (i + 1) w N st' zs' t' ∧ wm_ (i + 1) t' st' < wm_ i t st := by
  rcases h with h | ⟨h1, h2, h3, h4, h5⟩
  · omega
  · obtain ⟨q1, q2, q3, q4, q5, q6, q7, q8⟩ := h5
    have z : pr_ d fx gp ys (cf_ b st) x t = nw_ d fx gp ys (fu_ (cf_ b st) x g) + pr_ d fx gp ys (cf_ b st) x g := qs_f (by omega) (by omega) hg.1 ⟨hg.2.2, ok⟩ (fun u a c k q => no u a c k q.2)
    have r : rs_ d fx gp b ((x, g) :: st) ys = pr_ d fx gp ys (cf_ b st) x g + rs_ d fx gp b st (x :: ys) := rfl
    have hx := q6 x List.mem_cons_self
    have li : i + 1 = ((((x, g) :: st).length : Nat) : Int) := by rw [List.length_cons]; omega
    have rp : RP_ T2 d.G b ((x, g) :: st) := ⟨by rw [← h1]; exact (tr _).trans q1, by rw [← h1]; exact t2, hx.1, ⟨hg.2.1, hg.2.2⟩, hx.2, rp_e h3 (fun j hj => ⟨tr j, ti j (by omega)⟩)⟩
    rw [List.length_cons] at h2
    have M : ∀ t', t' = -1 → wm_ (i + 1) t' ((x, g) :: st) < wm_ i t st := fun t' ht => by
      subst ht
      have a1 : wm_ (i + 1) (-1) ((x, g) :: st) = 1 + (5 * 6 ^ (13 - (st.length + 1)) + ((4 - g).toNat * 6 ^ (13 - st.length) + mz_ st)) := by unfold wm_; rw [if_neg (by omega)]; rfl
      have a2 : wm_ i t st = 1 + ((4 - t).toNat * 6 ^ (13 - st.length) + mz_ st) := by unfold wm_; rw [if_neg (by omega)]; rfl
      have a3 : (6 : Nat) ^ (13 - st.length) = 6 ^ (13 - (st.length + 1)) * 6 := by
        rw [← Nat.pow_succ]; congr 1; omega
      have a4 : 0 < 6 ^ (13 - (st.length + 1)) := Nat.pow_pos (by decide)
      have a5 : ((4 - g).toNat + 1) * 6 ^ (13 - st.length) ≤ (4 - t).toNat * 6 ^ (13 - st.length) := Nat.mul_le_mul_right _ (by omega)
      rw [a1, a2]
      rw [Nat.add_mul] at a5
      omega
    cases ys with
    | nil =>
      have o1 : nw_ d fx gp [] (fu_ (cf_ b st) x g) = 1 := rfl
      exact ⟨(x, g) :: st, [], -1, Or.inr ⟨li, by rw [List.length_cons]; rw [List.length_nil] at h2 ⊢; omega, rp, h4, rfl, go, by omega⟩, M _ rfl⟩
    | cons y zs =>
      obtain ⟨c1, c2, c3⟩ := q4
      have nd := List.nodup_cons.mp q7
      have o1 : nw_ d fx gp (y :: zs) (fu_ (cf_ b st) x g) = pr_ d fx gp zs (cf_ b ((x, g) :: st)) y (-1) := rfl
      have ei : i + 1 = ((st.length + 1 : Nat) : Int) := by omega
      refine ⟨(x, g) :: st, y :: zs, -1, Or.inr ⟨li, by rw [List.length_cons, List.length_cons]; rw [List.length_cons] at h2; omega, rp, h4, ?_⟩, M _ rfl⟩
      refine ⟨by rw [ei]; exact (tr _).trans c1, by rw [ei]; exact (ti _ (by omega)).trans c2, by omega, rq_e c3 (fun j hj => ⟨tr j, ti j (by omega)⟩), fun k _ => go k, fun z hz => ?_, nd.2, by omega⟩
      have := q6 z (List.mem_cons_of_mem _ hz)
      refine ⟨this.1, ?_⟩
      have k : cf_ b ((x, g) :: st) z = cf_ b st z := fu_n (show z ≠ x from fun q => nd.1 (by rw [← q]; exact hz))
      rw [k]; exact this.2
/-- the search's beginning -/
theorem wh_0 {T : Zt} {d : Dr_} {fx gp n : Int} {b : Int → Int} {l : List Int} (hG : 0 ≤ d.G) (hn : (l.length : Int) = n) (go : ∀ k, T 302 0 k = b k) (rq : RQ_ T 0 l) (fz : ∀ z ∈ l, (0 ≤ z ∧ z < 12) ∧ b z = -1) (nd : l.Nodup) : ∃ t, WH_ T d fx gp b n 0 0 (nw_ d fx gp l b) [] l t := by
  refine ⟨-1, Or.inr ⟨rfl, by rw [List.length_nil]; omega, trivial, by decide, ?_⟩⟩
  cases l with
  | nil => exact ⟨rfl, go, rfl⟩
  | cons x ys =>
    obtain ⟨a, c, e⟩ := rq
    have : nw_ d fx gp (x :: ys) b = pr_ d fx gp ys b x (-1) := rfl
    have k : (rs_ d fx gp b [] (x :: ys) : Nat) = 0 := rfl
    exact ⟨a, c, by omega, e, fun k _ => go k, fz, nd, by rw [k, this]; show 0 + _ + _ = _; simp [cf_]⟩
/-- the clubs of a pot, below k, that have no group -/
def lpk_ (E b : Int → Int) (p : Int) : Nat → List Int
  | 0 => []
  | k + 1 => lpk_ E b p k ++ (if E k = p ∧ b k = -1 then [(k : Int)] else [])
/-- the pots before the p-th -/
def lq_ (E b : Int → Int) (n : Nat) : Nat → List Int
  | 0 => []
  | p + 1 => lq_ E b n p ++ lpk_ E b p n
theorem lpk_m {E b : Int → Int} {p x : Int} : ∀ {k : Nat}, x ∈ lpk_ E b p k → 0 ≤ x ∧ x < k ∧ E x = p ∧ b x = -1
  | 0, h => absurd h List.not_mem_nil
  | k + 1, h => by
      unfold lpk_ at h
      rcases List.mem_append.mp h with q | q
      · have := lpk_m q
        omega
      · split at q
        · rename_i c
          rw [List.mem_singleton] at q
          subst q
          exact ⟨by omega, by omega, c.1, c.2⟩
        · exact absurd q List.not_mem_nil
theorem lpk_i {E b : Int → Int} {p x : Int} (h0 : 0 ≤ x) (he : E x = p) (hb : b x = -1) : ∀ {k : Nat}, x < k → x ∈ lpk_ E b p k
  | 0, h => by omega
  | k + 1, h => by
      unfold lpk_
      by_cases z : x = k
      · rw [← z, if_pos ⟨he, hb⟩]; exact List.mem_append.mpr (Or.inr List.mem_cons_self)
      · exact List.mem_append.mpr (Or.inl (lpk_i h0 he hb (by omega)))
theorem lpk_d (E b : Int → Int) (p : Int) : ∀ k : Nat, (lpk_ E b p k).Nodup
  | 0 => List.nodup_nil
  | k + 1 => by
      unfold lpk_
      rw [List.nodup_append]
      refine ⟨lpk_d E b p k, ?_, fun x hx y hy => ?_⟩
      · split
        · exact List.nodup_cons.mpr ⟨List.not_mem_nil, List.nodup_nil⟩
        · exact List.nodup_nil
      · have := lpk_m hx
        split at hy
        · rw [List.mem_singleton] at hy; omega
        · exact absurd hy List.not_mem_nil
theorem lq_m {E b : Int → Int} {n : Nat} {x : Int} : ∀ {p : Nat}, x ∈ lq_ E b n p → 0 ≤ x ∧ x < n ∧ 0 ≤ E x ∧ E x < p ∧ b x = -1
  | 0, h => absurd h List.not_mem_nil
  | p + 1, h => by
      unfold lq_ at h
      rcases List.mem_append.mp h with q | q
      · have := lq_m q
        omega
      · have := lpk_m q
        omega
theorem lq_i {E b : Int → Int} {n : Nat} {x : Int} (h0 : 0 ≤ x) (hn : x < n) (he : 0 ≤ E x) (hb : b x = -1) : ∀ {p : Nat}, E x < p → x ∈ lq_ E b n p
  | 0, h => by omega
  | p + 1, h => by
      unfold lq_
      by_cases z : E x = p
      · exact List.mem_append.mpr (Or.inr (lpk_i h0 z hb hn))
      · exact List.mem_append.mpr (Or.inl (lq_i h0 hn he hb (by omega)))
theorem lq_d (E b : Int → Int) (n : Nat) : ∀ p k : Nat, (lq_ E b n p ++ lpk_ E b p k).Nodup
  | 0, k => by
      show ([] ++ lpk_ E b _ k).Nodup
      rw [List.nil_append]; exact lpk_d _ _ _ _
  | p + 1, k => by
      rw [List.nodup_append]
      refine ⟨lq_d E b n p n, lpk_d _ _ _ _, fun x hx y hy => ?_⟩
      have a := lq_m hx
      have c := lpk_m hy
      intro q
      subst q
      omega
theorem lpk_t {E b : Int → Int} {p k : Int} (hk : 0 ≤ k) (c : E k = p ∧ b k = -1) : lpk_ E b p (k + 1).toNat = lpk_ E b p k.toNat ++ [k] := by
  rw [show (k + 1).toNat = k.toNat + 1 by omega]
  show lpk_ E b p k.toNat ++ _ = _
  rw [show ((k.toNat : Nat) : Int) = k by omega, if_pos c]
theorem lpk_f {E b : Int → Int} {p k : Int} (hk : 0 ≤ k) (c : ¬ (E k = p ∧ b k = -1)) : lpk_ E b p (k + 1).toNat = lpk_ E b p k.toNat := by
  rw [show (k + 1).toNat = k.toNat + 1 by omega]
  show lpk_ E b p k.toNat ++ _ = _
  rw [show ((k.toNat : Nat) : Int) = k by omega, if_neg c, List.append_nil]
theorem lq_t {E b : Int → Int} {n : Nat} {p : Int} (hp : 0 ≤ p) : lq_ E b n (p + 1).toNat = lq_ E b n p.toNat ++ lpk_ E b p n := by
  rw [show (p + 1).toNat = p.toNat + 1 by omega]
  show lq_ E b n p.toNat ++ lpk_ E b (p.toNat : Int) n = _
  rw [show ((p.toNat : Nat) : Int) = p by omega]
theorem lx_m {E b : Int → Int} {n : Nat} {p k x : Int} (hp : 0 ≤ p ∧ p ≤ 2) (hk : 0 ≤ k ∧ k ≤ n) (h : x ∈ lq_ E b n p.toNat ++ lpk_ E b p k.toNat) : 0 ≤ x ∧ x < n ∧ b x = -1 := by
  rcases List.mem_append.mp h with q | q
  · have := lq_m q
    omega
  · have := lpk_m q
    omega
theorem lx_d {E b : Int → Int} {n : Nat} {p k : Int} (hp : 0 ≤ p) : (lq_ E b n p.toNat ++ lpk_ E b p k.toNat).Nodup := by
  have := lq_d E b n p.toNat k.toNat
  rwa [show ((p.toNat : Nat) : Int) = p by omega] at this
theorem rq_m {T : Zt} {P : Int → Prop} : ∀ {i : Nat} {l : List Int}, RQ_ T i l → (∀ x ∈ l, P x) → ∀ j : Int, (i : Int) ≤ j → j < (i : Int) + l.length → P (T 304 0 j)
  | i, [], _, _, j, a, c => by rw [List.length_nil] at c; omega
  | i, y :: ys, h, hp, j, a, c => by
      by_cases z : j = i
      · rw [z, h.1]; exact hp y List.mem_cons_self
      · exact rq_m h.2.2 (fun x hx => hp x (List.mem_cons_of_mem _ hx)) j (by omega) (by rw [List.length_cons] at c; omega)
/-- the draw as it stands -/
def drw_ (T : Zt) : Dr_ := ⟨fun k => T 301 0 k, fun k => T 214 0 k, T 111 0 12, T 111 0 99, T 111 0 100⟩
def gf_ (T : Zt) : Int → Int := fun k => T 302 0 k
def ll_ (T : Zt) : List Int := lq_ (fun k => T 301 0 k) (gf_ T) (T 111 0 12).toNat 3
theorem drw_e {T T1 : Zt} (a : ∀ k, T1 301 0 k = T 301 0 k) (b : ∀ k, T1 214 0 k = T 214 0 k) (c : T1 111 0 12 = T 111 0 12) (d : T1 111 0 99 = T 111 0 99) (e : T1 111 0 100 = T 111 0 100) : drw_ T1 = drw_ T := by
  unfold drw_
  rw [c, d, e, show (fun k => T1 301 0 k) = (fun k => T 301 0 k) from funext a, show (fun k => T1 214 0 k) = (fun k => T 214 0 k) from funext b]
theorem gf_e {T T1 : Zt} (a : ∀ k, T1 302 0 k = T 302 0 k) : gf_ T1 = gf_ T := funext a
theorem ll_e {T T1 : Zt} (a : ∀ k, T1 301 0 k = T 301 0 k) (b : ∀ k, T1 302 0 k = T 302 0 k) (c : T1 111 0 12 = T 111 0 12) : ll_ T1 = ll_ T := by
  unfold ll_
  rw [c, gf_e b, show (fun k => T1 301 0 k) = (fun k => T 301 0 k) from funext a]
theorem ll_m {T : Zt} {x : Int} (h0 : 0 ≤ T 111 0 12) (h : x ∈ ll_ T) : 0 ≤ x ∧ x < T 111 0 12 ∧ T 302 0 x = -1 ∧ 0 ≤ T 301 0 x ∧ T 301 0 x ≤ 2 := by
  have q := lq_m h
  have r : T 302 0 x = -1 := q.2.2.2.2
  have r2 : T 301 0 x < ((3 : Nat) : Int) := q.2.2.2.1
  have r3 := q.2.1
  exact ⟨q.1, by omega, r, q.2.2.1, by omega⟩
theorem ll_d (T : Zt) : (ll_ T).Nodup := by
  have := lq_d (fun k => T 301 0 k) (gf_ T) (T 111 0 12).toNat 3 0
  have e : lpk_ (fun k => T 301 0 k) (gf_ T) ((3 : Nat) : Int) 0 = [] := rfl
  rw [e, List.append_nil] at this
  exact this
theorem ll_i {T : Zt} {x : Int} (h0 : 0 ≤ x) (hn : x < T 111 0 12) (hg : T 302 0 x = -1) (h1 : 0 ≤ T 301 0 x) (h2 : T 301 0 x ≤ 2) : x ∈ ll_ T := lq_i h0 (by omega) h1 hg (by show T 301 0 x < 3; omega)
theorem ll_b {T : Zt} {fx gp : Int} (h0 : 0 ≤ T 111 0 12) : nw_ (drw_ T) fx gp (ll_ T) (gf_ T) ≤ 13824 := nw_m (ll_d T) (fun x hx => by
  have q := ll_m h0 hx
  exact ⟨q.1, q.2.1, q.2.2.1, q.2.2.2.1, q.2.2.2.2⟩)
abbrev cX11_pot : ByteArray := prog_13_method_113_code
def yX11_pot : MethodName := ⟨RX11, "pot", "(II)I"⟩
def zX11_pot : Zm := (RX11, cX11_pot, 6, (some .int), { frames := 2, cells := 0, slots := 0, locals := 43 })
set_option maxRecDepth 100000 in
theorem cl_X11_585 : cv_ RX11 585 yX11_isInDraw zX11_isInDraw 11 1 := ⟨gi_V (lwq_10 (dqc_m (dqa_m (List.mem_of_getElem? (i := 7) rfl))) rfl : Cond.methodLink RX11 585 yX11_isInDraw ∈ lw_g) (lwq_10 (dqc_m (dqa_m (dqa_m (List.mem_of_getElem? (i := 1) rfl)))) rfl : Cond.instanceMethod yX11_isInDraw ∈ lw_g) (lw_sel 24 rfl : Cond.selects yX11_isInDraw.cls yX11_isInDraw yX11_isInDraw ∈ lw_g) (lwq_1 (dqa_m (List.mem_of_getElem? (i := 2) rfl)) rfl : Cond.initialized yX11_isInDraw.cls ∈ lw_g) (lwq_10 (dqc_m (dqa_m (dqa_m (List.mem_of_getElem? (i := 2) rfl)))) rfl : Cond.code yX11_isInDraw cX11_isInDraw 2 (some .boolean) ∈ lw_g), ⟨nmh_1.1, nmh_1.2, pdq_7⟩, ⟨_, _, rfl⟩⟩
abbrev po_X11_pot (T : Zt) (cl p : Int) : Zt → Option Zv → Prop := fun T' r => ∃ x : Int, r = some (vI x) ∧ fr_ [(301, [])] T T' ∧ (x = x)
/-- what mayStand has seen, below k -/
def MT_ (T : Zt) (x g k : Int) : Prop := ∃ j, 0 ≤ j ∧ j < k ∧ j ≠ x ∧ T 301 0 j ≠ -1 ∧ T 302 0 j = g ∧ T 301 0 j = T 301 0 x
theorem mt_s {T : Zt} {x g k : Int} (hk : 0 ≤ k) : MT_ T x g (k + 1) ↔ MT_ T x g k ∨ (k ≠ x ∧ T 301 0 k ≠ -1 ∧ T 302 0 k = g ∧ T 301 0 k = T 301 0 x) := by
  constructor
  · rintro ⟨j, a, b, c⟩
    by_cases z : j = k
    · exact Or.inr (z ▸ c)
    · exact Or.inl ⟨j, a, by omega, c⟩
  · rintro (⟨j, a, b, c⟩ | c)
    · exact ⟨j, a, by omega, c⟩
    · exact ⟨k, hk, by omega, c⟩
def ma_ (T : Zt) (x g k : Int) : Int := alk_ (fun k => T 301 0 k) (fun k => T 214 0 k) (gf_ T) x g k.toNat
theorem ma_t {T : Zt} {x g k : Int} (hk : 0 ≤ k) (c : k ≠ x ∧ T 301 0 k ≠ -1 ∧ T 302 0 k = g ∧ T 214 0 k = T 214 0 x) : ma_ T x g (k + 1) = ma_ T x g k + 1 := by
  unfold ma_
  rw [show (k + 1).toNat = k.toNat + 1 by omega]
  show _ + (if ((k.toNat : Nat) : Int) ≠ x ∧ T 301 0 ((k.toNat : Nat) : Int) ≠ -1 ∧ T 302 0 ((k.toNat : Nat) : Int) = g ∧ T 214 0 ((k.toNat : Nat) : Int) = T 214 0 x then (1 : Int) else 0) = _
  rw [show ((k.toNat : Nat) : Int) = k by omega, if_pos c]
theorem ma_f {T : Zt} {x g k : Int} (hk : 0 ≤ k) (c : ¬ (k ≠ x ∧ T 301 0 k ≠ -1 ∧ T 302 0 k = g ∧ T 214 0 k = T 214 0 x)) : ma_ T x g (k + 1) = ma_ T x g k := by
  unfold ma_
  rw [show (k + 1).toNat = k.toNat + 1 by omega]
  show _ + (if ((k.toNat : Nat) : Int) ≠ x ∧ T 301 0 ((k.toNat : Nat) : Int) ≠ -1 ∧ T 302 0 ((k.toNat : Nat) : Int) = g ∧ T 214 0 ((k.toNat : Nat) : Int) = T 214 0 x then (1 : Int) else 0) = _
  rw [show ((k.toNat : Nat) : Int) = k by omega, if_neg c, Int.add_zero]
theorem ms_i {T : Zt} {x g k a t : Int} (e : k = T 111 0 12) (ht : (t = 1 ∧ MT_ T x g k) ∨ (t = 0 ∧ ¬ MT_ T x g k)) (ha : a = ma_ T x g k) : ms_ (drw_ T) (gf_ T) x g ↔ (t = 0 ∧ a < T 111 0 100) := by
  subst e
  constructor
  · intro h
    refine ⟨?_, by rw [ha]; exact h.2⟩
    rcases ht with ⟨_, j, p, q, r, s, u, v⟩ | z
    · exact absurd v (h.1 j p q r s u)
    · exact z.1
  · intro h
    refine ⟨fun j p q r s u v => ?_, by rw [ha] at h; exact h.2⟩
    rcases ht with z | z
    · omega
    · exact z.2 ⟨j, p, q, r, s, u, v⟩
abbrev cX11_mayStand : ByteArray := prog_13_method_114_code
def yX11_mayStand : MethodName := ⟨RX11, "mayStand", "(II)Z"⟩
def zX11_mayStand : Zm := (RX11, cX11_mayStand, 6, (some .boolean), { frames := 0, cells := 0, slots := 0, locals := 0 })
theorem bk_X11_mayStand_8 : ck_ fX11 (some .boolean) cX11_mayStand 8 [.iload 5, .aload 0, .tableswitch 0 11 12 #[], .if_icmp .ge 103, .iload 5, .iload 1, .if_icmp .eq 97, .aload 0, .tableswitch 0 11 101 #[], .iload 5, .iaload, .iconst (-1), .if_icmp .eq 97, .aload 0, .tableswitch 0 11 102 #[], .iload 5, .iaload, .iload 2, .if_icmp .ne 97, .iload 4, .ifCond .ne 66, .aload 0, .tableswitch 0 11 101 #[], .iload 5, .iaload, .aload 0, .tableswitch 0 11 101 #[], .iload 1, .iaload, .if_icmp .ne 70, .iconst 1, .goto 71] 70 = true := qck_r (nn_ _) (by decide +kernel)
theorem bs_X11_mayStand_8 {P : Zt → Option Zv → Prop} (K : Int → Zl → List Zv → Zt → Prop) : sx_ K P [.iload 5, .aload 0, .tableswitch 0 11 12 #[], .if_icmp .ge 103, .iload 5, .iload 1, .if_icmp .eq 97, .aload 0, .tableswitch 0 11 101 #[], .iload 5, .iaload, .iconst (-1), .if_icmp .eq 97, .aload 0, .tableswitch 0 11 102 #[], .iload 5, .iaload, .iload 2, .if_icmp .ne 97, .iload 4, .ifCond .ne 66, .aload 0, .tableswitch 0 11 101 #[], .iload 5, .iaload, .aload 0, .tableswitch 0 11 101 #[], .iload 1, .iaload, .if_icmp .ne 70, .iconst 1, .goto 71] 70 = x_iload 5 (x_aload 0 (x_g0 111 12 0 12 (x_if_icmp .ge 103 K (x_iload 5 (x_iload 1 (x_if_icmp .eq 97 K (x_aload 0 (x_g1 111 301 (x_iload 5 (x_iaload (x_iconst (-1) (x_if_icmp .eq 97 K (x_aload 0 (x_g1 111 302 (x_iload 5 (x_iaload (x_iload 2 (x_if_icmp .ne 97 K (x_iload 4 (x_ifCond .ne 66 K (x_aload 0 (x_g1 111 301 (x_iload 5 (x_iaload (x_aload 0 (x_g1 111 301 (x_iload 1 (x_iaload (x_if_icmp .ne 70 K (x_iconst 1 (x_goto 71 K))))))))))))))))))))))))))))))) := ((xe_iload 5).trans (congrArg (x_iload 5) ((xe_aload 0).trans (congrArg (x_aload 0) ((xe_g0 (kk := 111) rfl tl_11_12).trans (congrArg (x_g0 111 12 0 12) ((xe_if_icmp .ge 103).trans (congrArg (x_if_icmp .ge 103 K) ((xe_iload 5).trans (congrArg (x_iload 5) ((xe_iload 1).trans (congrArg (x_iload 1) ((xe_if_icmp .eq 97).trans (congrArg (x_if_icmp .eq 97 K) ((xe_aload 0).trans (congrArg (x_aload 0) ((xe_g1 (kk := 111) rfl tl_11_101).trans (congrArg (x_g1 111 301) ((xe_iload 5).trans (congrArg (x_iload 5) ((xe_iaload).trans (congrArg (x_iaload) ((xe_iconst (-1)).trans (congrArg (x_iconst (-1)) ((xe_if_icmp .eq 97).trans (congrArg (x_if_icmp .eq 97 K) ((xe_aload 0).trans (congrArg (x_aload 0) ((xe_g1 (kk := 111) rfl tl_11_102).trans (congrArg (x_g1 111 302) ((xe_iload 5).trans (congrArg (x_iload 5) ((xe_iaload).trans (congrArg (x_iaload) ((xe_iload 2).trans (congrArg (x_iload 2) ((xe_if_icmp .ne 97).trans (congrArg (x_if_icmp .ne 97 K) ((xe_iload 4).trans (congrArg (x_iload 4) ((xe_ifCond .ne 66).trans (congrArg (x_ifCond .ne 66 K) ((xe_aload 0).trans (congrArg (x_aload 0) ((xe_g1 (kk := 111) rfl tl_11_101).trans (congrArg (x_g1 111 301) ((xe_iload 5).trans (congrArg (x_iload 5) ((xe_iaload).trans (congrArg (x_iaload) ((xe_aload 0).trans (congrArg (x_aload 0) ((xe_g1 (kk := 111) rfl tl_11_101).trans (congrArg (x_g1 111 301) ((xe_iload 1).trans (congrArg (x_iload 1) ((xe_iaload).trans (congrArg (x_iaload) ((xe_if_icmp .ne 70).trans (congrArg (x_if_icmp .ne 70 K) ((xe_iconst 1).trans (congrArg (x_iconst 1) (xe_goto 71)))))))))))))))))))))))))))))))))))))))))))))))))))))))))))))))
theorem bk_X11_mayStand_103 : ck_ fX11 (some .boolean) cX11_mayStand 103 [.iload 4, .ifCond .ne 120, .iload 3, .aload 0, .tableswitch 0 11 100 #[], .if_icmp .ge 120, .iconst 1, .goto 121] 120 = true := qck_r (nn_ _) (by decide +kernel)
theorem bs_X11_mayStand_103 {P : Zt → Option Zv → Prop} (K : Int → Zl → List Zv → Zt → Prop) : sx_ K P [.iload 4, .ifCond .ne 120, .iload 3, .aload 0, .tableswitch 0 11 100 #[], .if_icmp .ge 120, .iconst 1, .goto 121] 120 = x_iload 4 (x_ifCond .ne 120 K (x_iload 3 (x_aload 0 (x_g0 111 100 0 3 (x_if_icmp .ge 120 K (x_iconst 1 (x_goto 121 K))))))) := ((xe_iload 4).trans (congrArg (x_iload 4) ((xe_ifCond .ne 120).trans (congrArg (x_ifCond .ne 120 K) ((xe_iload 3).trans (congrArg (x_iload 3) ((xe_aload 0).trans (congrArg (x_aload 0) ((xe_g0 (kk := 111) rfl tl_11_100).trans (congrArg (x_g0 111 100 0 3) ((xe_if_icmp .ge 120).trans (congrArg (x_if_icmp .ge 120 K) ((xe_iconst 1).trans (congrArg (x_iconst 1) (xe_goto 121)))))))))))))))
theorem bk_X11_mayStand_120 : ck_ fX11 (some .boolean) cX11_mayStand 120 [.iconst 0, .ireturn] 122 = true := qck_r (nn_ _) (by decide +kernel)
theorem bs_X11_mayStand_120 {P : Zt → Option Zv → Prop} (K : Int → Zl → List Zv → Zt → Prop) : sx_ K P [.iconst 0, .ireturn] 122 = x_iconst 0 (x_ireturn P) := ((xe_iconst 0).trans (congrArg (x_iconst 0) (xe_ireturn)))
theorem bk_X11_mayStand_121 : ck_ fX11 (some .boolean) cX11_mayStand 121 [.ireturn] 122 = true := qck_r (nn_ _) (by decide +kernel)
theorem bs_X11_mayStand_121 {P : Zt → Option Zv → Prop} (K : Int → Zl → List Zv → Zt → Prop) : sx_ K P [.ireturn] 122 = x_ireturn P := (xe_ireturn)
theorem bk_X11_mayStand_97 : ck_ fX11 (some .boolean) cX11_mayStand 97 [.iinc 5 1, .goto 8] 103 = true := qck_r (nn_ _) (by decide +kernel)
theorem bs_X11_mayStand_97 {P : Zt → Option Zv → Prop} (K : Int → Zl → List Zv → Zt → Prop) : sx_ K P [.iinc 5 1, .goto 8] 103 = x_iinc 5 1 (x_goto 8 K) := ((xe_iinc 5 1).trans (congrArg (x_iinc 5 1) (xe_goto 8)))
theorem bk_X11_mayStand_66 : ck_ fX11 (some .boolean) cX11_mayStand 66 [.iconst 1, .goto 71] 70 = true := qck_r (nn_ _) (by decide +kernel)
theorem bs_X11_mayStand_66 {P : Zt → Option Zv → Prop} (K : Int → Zl → List Zv → Zt → Prop) : sx_ K P [.iconst 1, .goto 71] 70 = x_iconst 1 (x_goto 71 K) := ((xe_iconst 1).trans (congrArg (x_iconst 1) (xe_goto 71)))
theorem bk_X11_mayStand_71 : ck_ fX11 (some .boolean) cX11_mayStand 71 [.istore 4, .iload 3, .aload 0, .tableswitch 0 11 14 #[], .iload 5, .iaload, .aload 0, .tableswitch 0 11 14 #[], .iload 1, .iaload, .if_icmp .ne 94, .iconst 1, .goto 95] 94 = true := qck_r (nn_ _) (by decide +kernel)
theorem bs_X11_mayStand_71 {P : Zt → Option Zv → Prop} (K : Int → Zl → List Zv → Zt → Prop) : sx_ K P [.istore 4, .iload 3, .aload 0, .tableswitch 0 11 14 #[], .iload 5, .iaload, .aload 0, .tableswitch 0 11 14 #[], .iload 1, .iaload, .if_icmp .ne 94, .iconst 1, .goto 95] 94 = x_istore 4 (x_iload 3 (x_aload 0 (x_g1 111 214 (x_iload 5 (x_iaload (x_aload 0 (x_g1 111 214 (x_iload 1 (x_iaload (x_if_icmp .ne 94 K (x_iconst 1 (x_goto 95 K)))))))))))) := ((xe_istore 4).trans (congrArg (x_istore 4) ((xe_iload 3).trans (congrArg (x_iload 3) ((xe_aload 0).trans (congrArg (x_aload 0) ((xe_g1 (kk := 111) rfl tl_11_14).trans (congrArg (x_g1 111 214) ((xe_iload 5).trans (congrArg (x_iload 5) ((xe_iaload).trans (congrArg (x_iaload) ((xe_aload 0).trans (congrArg (x_aload 0) ((xe_g1 (kk := 111) rfl tl_11_14).trans (congrArg (x_g1 111 214) ((xe_iload 1).trans (congrArg (x_iload 1) ((xe_iaload).trans (congrArg (x_iaload) ((xe_if_icmp .ne 94).trans (congrArg (x_if_icmp .ne 94 K) ((xe_iconst 1).trans (congrArg (x_iconst 1) (xe_goto 95)))))))))))))))))))))))))
theorem bk_X11_mayStand_94 : ck_ fX11 (some .boolean) cX11_mayStand 94 [.iconst 0, .iadd, .istore 3, .iinc 5 1, .goto 8] 103 = true := qck_r (nn_ _) (by decide +kernel)
theorem bs_X11_mayStand_94 {P : Zt → Option Zv → Prop} (K : Int → Zl → List Zv → Zt → Prop) : sx_ K P [.iconst 0, .iadd, .istore 3, .iinc 5 1, .goto 8] 103 = x_iconst 0 (x_iadd (x_istore 3 (x_iinc 5 1 (x_goto 8 K)))) := ((xe_iconst 0).trans (congrArg (x_iconst 0) ((xe_iadd).trans (congrArg (x_iadd) ((xe_istore 3).trans (congrArg (x_istore 3) ((xe_iinc 5 1).trans (congrArg (x_iinc 5 1) (xe_goto 8)))))))))
theorem bk_X11_mayStand_95 : ck_ fX11 (some .boolean) cX11_mayStand 95 [.iadd, .istore 3, .iinc 5 1, .goto 8] 103 = true := qck_r (nn_ _) (by decide +kernel)
theorem bs_X11_mayStand_95 {P : Zt → Option Zv → Prop} (K : Int → Zl → List Zv → Zt → Prop) : sx_ K P [.iadd, .istore 3, .iinc 5 1, .goto 8] 103 = x_iadd (x_istore 3 (x_iinc 5 1 (x_goto 8 K))) := ((xe_iadd).trans (congrArg (x_iadd) ((xe_istore 3).trans (congrArg (x_istore 3) ((xe_iinc 5 1).trans (congrArg (x_iinc 5 1) (xe_goto 8)))))))
theorem bk_X11_mayStand_70 : ck_ fX11 (some .boolean) cX11_mayStand 70 [.iconst 0, .istore 4, .iload 3, .aload 0, .tableswitch 0 11 14 #[], .iload 5, .iaload, .aload 0, .tableswitch 0 11 14 #[], .iload 1, .iaload, .if_icmp .ne 94, .iconst 1, .goto 95] 94 = true := qck_r (nn_ _) (by decide +kernel)
theorem bs_X11_mayStand_70 {P : Zt → Option Zv → Prop} (K : Int → Zl → List Zv → Zt → Prop) : sx_ K P [.iconst 0, .istore 4, .iload 3, .aload 0, .tableswitch 0 11 14 #[], .iload 5, .iaload, .aload 0, .tableswitch 0 11 14 #[], .iload 1, .iaload, .if_icmp .ne 94, .iconst 1, .goto 95] 94 = x_iconst 0 (x_istore 4 (x_iload 3 (x_aload 0 (x_g1 111 214 (x_iload 5 (x_iaload (x_aload 0 (x_g1 111 214 (x_iload 1 (x_iaload (x_if_icmp .ne 94 K (x_iconst 1 (x_goto 95 K))))))))))))) := ((xe_iconst 0).trans (congrArg (x_iconst 0) ((xe_istore 4).trans (congrArg (x_istore 4) ((xe_iload 3).trans (congrArg (x_iload 3) ((xe_aload 0).trans (congrArg (x_aload 0) ((xe_g1 (kk := 111) rfl tl_11_14).trans (congrArg (x_g1 111 214) ((xe_iload 5).trans (congrArg (x_iload 5) ((xe_iaload).trans (congrArg (x_iaload) ((xe_aload 0).trans (congrArg (x_aload 0) ((xe_g1 (kk := 111) rfl tl_11_14).trans (congrArg (x_g1 111 214) ((xe_iload 1).trans (congrArg (x_iload 1) ((xe_iaload).trans (congrArg (x_iaload) ((xe_if_icmp .ne 94).trans (congrArg (x_if_icmp .ne 94 K) ((xe_iconst 1).trans (congrArg (x_iconst 1) (xe_goto 95)))))))))))))))))))))))))))
theorem bk_X11_mayStand_0 : ck_ fX11 (some .boolean) cX11_mayStand 0 [.iconst 0, .istore 3, .iconst 0, .istore 4, .iconst 0, .istore 5] 8 = true := qck_r (nn_ _) (by decide +kernel)
theorem bs_X11_mayStand_0 {P : Zt → Option Zv → Prop} (K : Int → Zl → List Zv → Zt → Prop) : sx_ K P [.iconst 0, .istore 3, .iconst 0, .istore 4, .iconst 0, .istore 5] 8 = x_iconst 0 (x_istore 3 (x_iconst 0 (x_istore 4 (x_iconst 0 (x_istore 5 (K 8)))))) := ((xe_iconst 0).trans (congrArg (x_iconst 0) ((xe_istore 3).trans (congrArg (x_istore 3) ((xe_iconst 0).trans (congrArg (x_iconst 0) ((xe_istore 4).trans (congrArg (x_istore 4) ((xe_iconst 0).trans (congrArg (x_iconst 0) ((xe_istore 5).trans (congrArg (x_istore 5) xe_nil))))))))))))
abbrev po_X11_mayStand (T : Zt) (cl g : Int) : Zt → Option Zv → Prop := fun T' r => T = T' ∧ ∃ x : Int, r = some (vI x) ∧ ((x = 1 ∧ ms_ (drw_ T) (gf_ T) cl g) ∨ (x = 0 ∧ ¬ ms_ (drw_ T) (gf_ T) cl g))
set_option maxHeartbeats 4000000 in
theorem ct_X11_mayStand {T : Zt} {cl g : Int} (h1 : 0 ≤ cl ∧ cl < 12) : Ct_ yX11_mayStand zX11_mayStand T [vR 111 0, vI cl, vI g] (po_X11_mayStand T cl g) := by
  refine ct_of pn_11 rfl rfl (Nat.le_of_ble_eq_true rfl) (fun hT hav => ?_)
  have hr_cl : -2147483648 ≤ cl ∧ cl ≤ 2147483647 := hav (vI cl) (List.mem_cons_of_mem _ List.mem_cons_self)
  have hr_g : -2147483648 ≤ g ∧ g ≤ 2147483647 := hav (vI g) (List.mem_cons_of_mem _ (List.mem_cons_of_mem _ List.mem_cons_self))
  have hz : zX11_mayStand.2.2.2.1 = some .boolean → ∀ (T' : Zt) (x : Int), po_X11_mayStand T cl g T' (some (vI x)) → 0 ≤ x ∧ x ≤ 1 := fun _ T' x h => by obtain ⟨-, y, e, hy⟩ := h; cases e; rcases hy with z | z <;> omega
  have hb_12 : 0 ≤ T 111 0 12 ∧ T 111 0 12 ≤ 12 := bd_f hT 111 12 tl_11_12 0
  show J_ zX11_mayStand T (po_X11_mayStand T cl g) 0 0 0 [some (vR 111 0), some (vI cl), some (vI g), none, none, none] [] T
  have c_8 : ∀ (nn : Nat) (a : Int) (t : Int) (k : Int), ((12 - k).toNat) ≤ nn → (0 ≤ k ∧ k ≤ T 111 0 12 ∧ 0 ≤ a ∧ a ≤ k) → ((t = 1 ∧ MT_ T cl g k) ∨ (t = 0 ∧ ¬ MT_ T cl g k)) → (a = ma_ T cl g k) → J_ zX11_mayStand T (po_X11_mayStand T cl g) 0 0 8 [some (vR 111 0), some (vI cl), some (vI g), some (vI a), some (vI t), some (vI k)] [] T := by
    intro nn
    induction nn using Nat.strongRecOn with
    | _ nn ih_8 =>
      intro a t k hm_8 i1 ht ha
      replace hm_8 := fun (_ : Unit) => hm_8
      refine j_blx (F := fX11) tb_X11 (nn_ _) bk_X11_mayStand_8 bs_X11_mayStand_8 hz (fun K hK => ?_)
      intro b1 b1b
      refine And.intro (fun c2 => ?_) (fun c2 => ?_)
      · refine hK 103 _ [] T ?_
        refine j_blx (F := fX11) tb_X11 (nn_ _) bk_X11_mayStand_103 bs_X11_mayStand_103 hz (fun K hK => ?_)
        refine And.intro (fun c3 => ?_) (fun c3 => ?_)
        · refine hK 120 _ [] T ?_
          refine j_blx (F := fX11) tb_X11 (nn_ _) bk_X11_mayStand_120 bs_X11_mayStand_120 hz (fun K hK => ?_)
          refine (show po_X11_mayStand T cl g T (some (vI 0)) from ?_)
          refine ⟨rfl, _, rfl, ?_⟩
          have hm := ms_i (show k = T 111 0 12 by omega) ht ha
          exact Or.inr ⟨rfl, fun h9 => by have := hm.mp h9; omega⟩
        · intro b4 b4b
          refine And.intro (fun c5 => ?_) (fun c5 => ?_)
          · refine hK 120 _ [] T ?_
            refine j_blx (F := fX11) tb_X11 (nn_ _) bk_X11_mayStand_120 bs_X11_mayStand_120 hz (fun K hK => ?_)
            refine (show po_X11_mayStand T cl g T (some (vI 0)) from ?_)
            refine ⟨rfl, _, rfl, ?_⟩
            have hm := ms_i (show k = T 111 0 12 by omega) ht ha
            exact Or.inr ⟨rfl, fun h9 => by have := hm.mp h9; omega⟩
          · refine hK 121 _ [vI 1] T ?_
            refine j_blx (F := fX11) tb_X11 (nn_ _) bk_X11_mayStand_121 bs_X11_mayStand_121 hz (fun K hK => ?_)
            refine (show po_X11_mayStand T cl g T (some (vI 1)) from ?_)
            refine ⟨rfl, _, rfl, ?_⟩
            have hm := ms_i (show k = T 111 0 12 by omega) ht ha
            exact Or.inl ⟨rfl, hm.mpr (by rcases ht with z | z <;> omega)⟩
      · refine And.intro (fun c6 => ?_) (fun c6 => ?_)
        · refine hK 97 _ [] T ?_
          refine j_blx (F := fX11) tb_X11 (nn_ _) bk_X11_mayStand_97 bs_X11_mayStand_97 hz (fun K hK => ?_)
          refine rg_i (by omega) ?_
          refine hK 8 [some (vR 111 0), some (vI cl), some (vI g), some (vI a), some (vI t), some (vI (k + 1))] [] T ?_
          refine ih_8 _ ?_ a t (k + 1) (Nat.le_refl _) ?_ ?_ ?_
          · have hm_8 := hm_8 (); omega
          · omega
          · rw [mt_s (by omega)]
            rcases ht with ⟨z1, z2⟩ | ⟨z1, z2⟩
            · first
              | exact Or.inl ⟨rfl, Or.inl z2⟩
              | exact Or.inl ⟨z1, Or.inl z2⟩
              | (exfalso; omega)
            · first
              | exact Or.inl ⟨rfl, Or.inr ⟨by omega, by omega, by omega, by omega⟩⟩
              | exact Or.inr ⟨rfl, fun q => q.elim z2 (fun q => by omega)⟩
              | exact Or.inr ⟨z1, fun q => q.elim z2 (fun q => by omega)⟩
              | (exfalso; omega)
          · first
            | (rw [ma_f (by omega) (by omega)]; omega)
            | (rw [ma_t (by omega) (by omega)]; omega)
        · refine ix_i (by omega) ?_
          intro b7 b7b
          refine And.intro (fun c8 => ?_) (fun c8 => ?_)
          · refine hK 97 [some (vR 111 0), some (vI cl), some (vI g), some (vI a), some (vI t), some (vI k)] [] T ?_
            refine j_blx (F := fX11) tb_X11 (nn_ _) bk_X11_mayStand_97 bs_X11_mayStand_97 hz (fun K hK => ?_)
            refine rg_i (by omega) ?_
            refine hK 8 [some (vR 111 0), some (vI cl), some (vI g), some (vI a), some (vI t), some (vI (k + 1))] [] T ?_
            refine ih_8 _ ?_ a t (k + 1) (Nat.le_refl _) ?_ ?_ ?_
            · have hm_8 := hm_8 (); omega
            · omega
            · rw [mt_s (by omega)]
              rcases ht with ⟨z1, z2⟩ | ⟨z1, z2⟩
              · first
                | exact Or.inl ⟨rfl, Or.inl z2⟩
                | exact Or.inl ⟨z1, Or.inl z2⟩
                | (exfalso; omega)
              · first
                | exact Or.inl ⟨rfl, Or.inr ⟨by omega, by omega, by omega, by omega⟩⟩
                | exact Or.inr ⟨rfl, fun q => q.elim z2 (fun q => by omega)⟩
                | exact Or.inr ⟨z1, fun q => q.elim z2 (fun q => by omega)⟩
                | (exfalso; omega)
            · first
              | (rw [ma_f (by omega) (by omega)]; omega)
              | (rw [ma_t (by omega) (by omega)]; omega)
          · refine ix_i (by omega) ?_
            intro b9 b9b
            refine And.intro (fun c10 => ?_) (fun c10 => ?_)
            · refine hK 97 [some (vR 111 0), some (vI cl), some (vI g), some (vI a), some (vI t), some (vI k)] [] T ?_
              refine j_blx (F := fX11) tb_X11 (nn_ _) bk_X11_mayStand_97 bs_X11_mayStand_97 hz (fun K hK => ?_)
              refine rg_i (by omega) ?_
              refine hK 8 [some (vR 111 0), some (vI cl), some (vI g), some (vI a), some (vI t), some (vI (k + 1))] [] T ?_
              refine ih_8 _ ?_ a t (k + 1) (Nat.le_refl _) ?_ ?_ ?_
              · have hm_8 := hm_8 (); omega
              · omega
              · rw [mt_s (by omega)]
                rcases ht with ⟨z1, z2⟩ | ⟨z1, z2⟩
                · first
                  | exact Or.inl ⟨rfl, Or.inl z2⟩
                  | exact Or.inl ⟨z1, Or.inl z2⟩
                  | (exfalso; omega)
                · first
                  | exact Or.inl ⟨rfl, Or.inr ⟨by omega, by omega, by omega, by omega⟩⟩
                  | exact Or.inr ⟨rfl, fun q => q.elim z2 (fun q => by omega)⟩
                  | exact Or.inr ⟨z1, fun q => q.elim z2 (fun q => by omega)⟩
                  | (exfalso; omega)
              · first
                | (rw [ma_f (by omega) (by omega)]; omega)
                | (rw [ma_t (by omega) (by omega)]; omega)
            · refine And.intro (fun c11 => ?_) (fun c11 => ?_)
              · refine hK 66 [some (vR 111 0), some (vI cl), some (vI g), some (vI a), some (vI t), some (vI k)] [] T ?_
                refine j_blx (F := fX11) tb_X11 (nn_ _) bk_X11_mayStand_66 bs_X11_mayStand_66 hz (fun K hK => ?_)
                refine hK 71 _ [vI 1] T ?_
                refine j_blx (F := fX11) tb_X11 (nn_ _) bk_X11_mayStand_71 bs_X11_mayStand_71 hz (fun K hK => ?_)
                refine ix_i (by omega) ?_
                intro b12 b12b
                refine ix_i (by omega) ?_
                intro b13 b13b
                refine And.intro (fun c14 => ?_) (fun c14 => ?_)
                · refine hK 94 [some (vR 111 0), some (vI cl), some (vI g), some (vI a), some (vI 1), some (vI k)] [vI a] T ?_
                  refine j_blx (F := fX11) tb_X11 (nn_ _) bk_X11_mayStand_94 bs_X11_mayStand_94 hz (fun K hK => ?_)
                  refine rg_i (by omega) ?_
                  refine rg_i (by omega) ?_
                  refine hK 8 [some (vR 111 0), some (vI cl), some (vI g), some (vI (a + 0)), some (vI 1), some (vI (k + 1))] [] T ?_
                  refine ih_8 _ ?_ (a + 0) 1 (k + 1) (Nat.le_refl _) ?_ ?_ ?_
                  · have hm_8 := hm_8 (); omega
                  · omega
                  · rw [mt_s (by omega)]
                    rcases ht with ⟨z1, z2⟩ | ⟨z1, z2⟩
                    · first
                      | exact Or.inl ⟨rfl, Or.inl z2⟩
                      | exact Or.inl ⟨z1, Or.inl z2⟩
                      | (exfalso; omega)
                    · first
                      | exact Or.inl ⟨rfl, Or.inr ⟨by omega, by omega, by omega, by omega⟩⟩
                      | exact Or.inr ⟨rfl, fun q => q.elim z2 (fun q => by omega)⟩
                      | exact Or.inr ⟨z1, fun q => q.elim z2 (fun q => by omega)⟩
                      | (exfalso; omega)
                  · first
                    | (rw [ma_f (by omega) (by omega)]; omega)
                    | (rw [ma_t (by omega) (by omega)]; omega)
                · refine hK 95 [some (vR 111 0), some (vI cl), some (vI g), some (vI a), some (vI 1), some (vI k)] [vI 1, vI a] T ?_
                  refine j_blx (F := fX11) tb_X11 (nn_ _) bk_X11_mayStand_95 bs_X11_mayStand_95 hz (fun K hK => ?_)
                  refine rg_i (by omega) ?_
                  refine rg_i (by omega) ?_
                  refine hK 8 [some (vR 111 0), some (vI cl), some (vI g), some (vI (a + 1)), some (vI 1), some (vI (k + 1))] [] T ?_
                  refine ih_8 _ ?_ (a + 1) 1 (k + 1) (Nat.le_refl _) ?_ ?_ ?_
                  · have hm_8 := hm_8 (); omega
                  · omega
                  · rw [mt_s (by omega)]
                    rcases ht with ⟨z1, z2⟩ | ⟨z1, z2⟩
                    · first
                      | exact Or.inl ⟨rfl, Or.inl z2⟩
                      | exact Or.inl ⟨z1, Or.inl z2⟩
                      | (exfalso; omega)
                    · first
                      | exact Or.inl ⟨rfl, Or.inr ⟨by omega, by omega, by omega, by omega⟩⟩
                      | exact Or.inr ⟨rfl, fun q => q.elim z2 (fun q => by omega)⟩
                      | exact Or.inr ⟨z1, fun q => q.elim z2 (fun q => by omega)⟩
                      | (exfalso; omega)
                  · first
                    | (rw [ma_f (by omega) (by omega)]; omega)
                    | (rw [ma_t (by omega) (by omega)]; omega)
              · refine ix_i (by omega) ?_
                intro b15 b15b
                refine ix_i (by omega) ?_
                intro b16 b16b
                refine And.intro (fun c17 => ?_) (fun c17 => ?_)
                · refine hK 70 _ [] T ?_
                  refine j_blx (F := fX11) tb_X11 (nn_ _) bk_X11_mayStand_70 bs_X11_mayStand_70 hz (fun K hK => ?_)
                  refine ix_i (by omega) ?_
                  intro b18 b18b
                  refine ix_i (by omega) ?_
                  intro b19 b19b
                  refine And.intro (fun c20 => ?_) (fun c20 => ?_)
                  · refine hK 94 [some (vR 111 0), some (vI cl), some (vI g), some (vI a), some (vI 0), some (vI k)] [vI a] T ?_
                    refine j_blx (F := fX11) tb_X11 (nn_ _) bk_X11_mayStand_94 bs_X11_mayStand_94 hz (fun K hK => ?_)
                    refine rg_i (by omega) ?_
                    refine rg_i (by omega) ?_
                    refine hK 8 [some (vR 111 0), some (vI cl), some (vI g), some (vI (a + 0)), some (vI 0), some (vI (k + 1))] [] T ?_
                    refine ih_8 _ ?_ (a + 0) 0 (k + 1) (Nat.le_refl _) ?_ ?_ ?_
                    · have hm_8 := hm_8 (); omega
                    · omega
                    · rw [mt_s (by omega)]
                      rcases ht with ⟨z1, z2⟩ | ⟨z1, z2⟩
                      · first
                        | exact Or.inl ⟨rfl, Or.inl z2⟩
                        | exact Or.inl ⟨z1, Or.inl z2⟩
                        | (exfalso; omega)
                      · first
                        | exact Or.inl ⟨rfl, Or.inr ⟨by omega, by omega, by omega, by omega⟩⟩
                        | exact Or.inr ⟨rfl, fun q => q.elim z2 (fun q => by omega)⟩
                        | exact Or.inr ⟨z1, fun q => q.elim z2 (fun q => by omega)⟩
                        | (exfalso; omega)
                    · first
                      | (rw [ma_f (by omega) (by omega)]; omega)
                      | (rw [ma_t (by omega) (by omega)]; omega)
                  · refine hK 95 [some (vR 111 0), some (vI cl), some (vI g), some (vI a), some (vI 0), some (vI k)] [vI 1, vI a] T ?_
                    refine j_blx (F := fX11) tb_X11 (nn_ _) bk_X11_mayStand_95 bs_X11_mayStand_95 hz (fun K hK => ?_)
                    refine rg_i (by omega) ?_
                    refine rg_i (by omega) ?_
                    refine hK 8 [some (vR 111 0), some (vI cl), some (vI g), some (vI (a + 1)), some (vI 0), some (vI (k + 1))] [] T ?_
                    refine ih_8 _ ?_ (a + 1) 0 (k + 1) (Nat.le_refl _) ?_ ?_ ?_
                    · have hm_8 := hm_8 (); omega
                    · omega
                    · rw [mt_s (by omega)]
                      rcases ht with ⟨z1, z2⟩ | ⟨z1, z2⟩
                      · first
                        | exact Or.inl ⟨rfl, Or.inl z2⟩
                        | exact Or.inl ⟨z1, Or.inl z2⟩
                        | (exfalso; omega)
                      · first
                        | exact Or.inl ⟨rfl, Or.inr ⟨by omega, by omega, by omega, by omega⟩⟩
                        | exact Or.inr ⟨rfl, fun q => q.elim z2 (fun q => by omega)⟩
                        | exact Or.inr ⟨z1, fun q => q.elim z2 (fun q => by omega)⟩
                        | (exfalso; omega)
                    · first
                      | (rw [ma_f (by omega) (by omega)]; omega)
                      | (rw [ma_t (by omega) (by omega)]; omega)
                · refine hK 71 _ [vI 1] T ?_
                  refine j_blx (F := fX11) tb_X11 (nn_ _) bk_X11_mayStand_71 bs_X11_mayStand_71 hz (fun K hK => ?_)
                  refine ix_i (by omega) ?_
                  intro b21 b21b
                  refine ix_i (by omega) ?_
                  intro b22 b22b
                  refine And.intro (fun c23 => ?_) (fun c23 => ?_)
                  · refine hK 94 [some (vR 111 0), some (vI cl), some (vI g), some (vI a), some (vI 1), some (vI k)] [vI a] T ?_
                    refine j_blx (F := fX11) tb_X11 (nn_ _) bk_X11_mayStand_94 bs_X11_mayStand_94 hz (fun K hK => ?_)
                    refine rg_i (by omega) ?_
                    refine rg_i (by omega) ?_
                    refine hK 8 [some (vR 111 0), some (vI cl), some (vI g), some (vI (a + 0)), some (vI 1), some (vI (k + 1))] [] T ?_
                    refine ih_8 _ ?_ (a + 0) 1 (k + 1) (Nat.le_refl _) ?_ ?_ ?_
                    · have hm_8 := hm_8 (); omega
                    · omega
                    · rw [mt_s (by omega)]
                      rcases ht with ⟨z1, z2⟩ | ⟨z1, z2⟩
                      · first
                        | exact Or.inl ⟨rfl, Or.inl z2⟩
                        | exact Or.inl ⟨z1, Or.inl z2⟩
                        | (exfalso; omega)
                      · first
                        | exact Or.inl ⟨rfl, Or.inr ⟨by omega, by omega, by omega, by omega⟩⟩
                        | exact Or.inr ⟨rfl, fun q => q.elim z2 (fun q => by omega)⟩
                        | exact Or.inr ⟨z1, fun q => q.elim z2 (fun q => by omega)⟩
                        | (exfalso; omega)
                    · first
                      | (rw [ma_f (by omega) (by omega)]; omega)
                      | (rw [ma_t (by omega) (by omega)]; omega)
                  · refine hK 95 [some (vR 111 0), some (vI cl), some (vI g), some (vI a), some (vI 1), some (vI k)] [vI 1, vI a] T ?_
                    refine j_blx (F := fX11) tb_X11 (nn_ _) bk_X11_mayStand_95 bs_X11_mayStand_95 hz (fun K hK => ?_)
                    refine rg_i (by omega) ?_
                    refine rg_i (by omega) ?_
                    refine hK 8 [some (vR 111 0), some (vI cl), some (vI g), some (vI (a + 1)), some (vI 1), some (vI (k + 1))] [] T ?_
                    refine ih_8 _ ?_ (a + 1) 1 (k + 1) (Nat.le_refl _) ?_ ?_ ?_
                    · have hm_8 := hm_8 (); omega
                    · omega
                    · rw [mt_s (by omega)]
                      rcases ht with ⟨z1, z2⟩ | ⟨z1, z2⟩
                      · first
                        | exact Or.inl ⟨rfl, Or.inl z2⟩
                        | exact Or.inl ⟨z1, Or.inl z2⟩
                        | (exfalso; omega)
                      · first
                        | exact Or.inl ⟨rfl, Or.inr ⟨by omega, by omega, by omega, by omega⟩⟩
                        | exact Or.inr ⟨rfl, fun q => q.elim z2 (fun q => by omega)⟩
                        | exact Or.inr ⟨z1, fun q => q.elim z2 (fun q => by omega)⟩
                        | (exfalso; omega)
                    · first
                      | (rw [ma_f (by omega) (by omega)]; omega)
                      | (rw [ma_t (by omega) (by omega)]; omega)
  refine j_blx (F := fX11) tb_X11 (nn_ _) bk_X11_mayStand_0 bs_X11_mayStand_0 hz (fun K hK => ?_)
  refine hK 8 [some (vR 111 0), some (vI cl), some (vI g), some (vI 0), some (vI 0), some (vI 0)] [] T ?_
  refine c_8 _ 0 0 0 (Nat.le_refl _) ?_ ?_ ?_
  · omega
  · exact Or.inr ⟨rfl, fun ⟨j, a, b, _⟩ => by omega⟩
  · rfl
theorem wh_z {T : Zt} {d : Dr_} {fx gp i w n t : Int} {b : Int → Int} {N : Nat} {st : List (Int × Int)} {zs : List Int} (h : WH_ T d fx gp b n i w N st zs t) (hi : i < 0) : w = N ∧ ∀ k, T 302 0 k = b k := by
  rcases h with h | ⟨h1, _⟩
  · exact h.2
  · omega
abbrev cX11_countWays : ByteArray := prog_13_method_115_code
def yX11_countWays : MethodName := ⟨RX11, "countWays", "(II)I"⟩
def zX11_countWays : Zm := (RX11, cX11_countWays, 8, (some .int), { frames := 1, cells := 0, slots := 0, locals := 25 })
theorem bk_X11_countWays_223 : ck_ fX11 (some .int) cX11_countWays 223 [.iload 6, .iload 3, .if_icmp .ge 248, .aload 0, .tableswitch 0 11 102 #[], .aload 0, .tableswitch 0 11 104 #[], .iload 6, .iaload, .iconst (-1), .iastore, .iinc 6 1, .goto 223] 248 = true := qck_r (nn_ _) (by decide +kernel)
theorem bs_X11_countWays_223 {P : Zt → Option Zv → Prop} (K : Int → Zl → List Zv → Zt → Prop) : sx_ K P [.iload 6, .iload 3, .if_icmp .ge 248, .aload 0, .tableswitch 0 11 102 #[], .aload 0, .tableswitch 0 11 104 #[], .iload 6, .iaload, .iconst (-1), .iastore, .iinc 6 1, .goto 223] 248 = x_iload 6 (x_iload 3 (x_if_icmp .ge 248 K (x_aload 0 (x_g1 111 302 (x_aload 0 (x_g1 111 304 (x_iload 6 (x_iaload (x_iconst (-1) (x_iastore (x_iinc 6 1 (x_goto 223 K)))))))))))) := ((xe_iload 6).trans (congrArg (x_iload 6) ((xe_iload 3).trans (congrArg (x_iload 3) ((xe_if_icmp .ge 248).trans (congrArg (x_if_icmp .ge 248 K) ((xe_aload 0).trans (congrArg (x_aload 0) ((xe_g1 (kk := 111) rfl tl_11_102).trans (congrArg (x_g1 111 302) ((xe_aload 0).trans (congrArg (x_aload 0) ((xe_g1 (kk := 111) rfl tl_11_104).trans (congrArg (x_g1 111 304) ((xe_iload 6).trans (congrArg (x_iload 6) ((xe_iaload).trans (congrArg (x_iaload) ((xe_iconst (-1)).trans (congrArg (x_iconst (-1)) ((xe_iastore).trans (congrArg (x_iastore) ((xe_iinc 6 1).trans (congrArg (x_iinc 6 1) (xe_goto 223)))))))))))))))))))))))))
theorem bk_X11_countWays_248 : ck_ fX11 (some .int) cX11_countWays 248 [.iload 4, .ireturn] 251 = true := qck_r (nn_ _) (by decide +kernel)
theorem bs_X11_countWays_248 {P : Zt → Option Zv → Prop} (K : Int → Zl → List Zv → Zt → Prop) : sx_ K P [.iload 4, .ireturn] 251 = x_iload 4 (x_ireturn P) := ((xe_iload 4).trans (congrArg (x_iload 4) (xe_ireturn)))
theorem bk_X11_countWays_130 : ck_ fX11 (some .int) cX11_countWays 130 [.iload 7, .aload 0, .tableswitch 0 11 99 #[], .if_icmp .ge 168, .iload 6, .iload 1, .if_icmp .ne 151, .iload 7, .iload 2, .if_icmp .ne 162, .aload 0, .iload 6, .iload 7] 156 = true := qck_r (nn_ _) (by decide +kernel)
theorem bs_X11_countWays_130 {P : Zt → Option Zv → Prop} (K : Int → Zl → List Zv → Zt → Prop) : sx_ K P [.iload 7, .aload 0, .tableswitch 0 11 99 #[], .if_icmp .ge 168, .iload 6, .iload 1, .if_icmp .ne 151, .iload 7, .iload 2, .if_icmp .ne 162, .aload 0, .iload 6, .iload 7] 156 = x_iload 7 (x_aload 0 (x_g0 111 99 0 4 (x_if_icmp .ge 168 K (x_iload 6 (x_iload 1 (x_if_icmp .ne 151 K (x_iload 7 (x_iload 2 (x_if_icmp .ne 162 K (x_aload 0 (x_iload 6 (x_iload 7 (K 156))))))))))))) := ((xe_iload 7).trans (congrArg (x_iload 7) ((xe_aload 0).trans (congrArg (x_aload 0) ((xe_g0 (kk := 111) rfl tl_11_99).trans (congrArg (x_g0 111 99 0 4) ((xe_if_icmp .ge 168).trans (congrArg (x_if_icmp .ge 168 K) ((xe_iload 6).trans (congrArg (x_iload 6) ((xe_iload 1).trans (congrArg (x_iload 1) ((xe_if_icmp .ne 151).trans (congrArg (x_if_icmp .ne 151 K) ((xe_iload 7).trans (congrArg (x_iload 7) ((xe_iload 2).trans (congrArg (x_iload 2) ((xe_if_icmp .ne 162).trans (congrArg (x_if_icmp .ne 162 K) ((xe_aload 0).trans (congrArg (x_aload 0) ((xe_iload 6).trans (congrArg (x_iload 6) ((xe_iload 7).trans (congrArg (x_iload 7) xe_nil))))))))))))))))))))))))))
theorem bk_X11_countWays_168 : ck_ fX11 (some .int) cX11_countWays 168 [.aload 0, .tableswitch 0 11 105 #[], .iload 5, .iload 7, .aload 0, .tableswitch 0 11 99 #[], .if_icmp .ge 188, .iload 7, .goto 189] 188 = true := qck_r (nn_ _) (by decide +kernel)
theorem bs_X11_countWays_168 {P : Zt → Option Zv → Prop} (K : Int → Zl → List Zv → Zt → Prop) : sx_ K P [.aload 0, .tableswitch 0 11 105 #[], .iload 5, .iload 7, .aload 0, .tableswitch 0 11 99 #[], .if_icmp .ge 188, .iload 7, .goto 189] 188 = x_aload 0 (x_g1 111 305 (x_iload 5 (x_iload 7 (x_aload 0 (x_g0 111 99 0 4 (x_if_icmp .ge 188 K (x_iload 7 (x_goto 189 K)))))))) := ((xe_aload 0).trans (congrArg (x_aload 0) ((xe_g1 (kk := 111) rfl tl_11_105).trans (congrArg (x_g1 111 305) ((xe_iload 5).trans (congrArg (x_iload 5) ((xe_iload 7).trans (congrArg (x_iload 7) ((xe_aload 0).trans (congrArg (x_aload 0) ((xe_g0 (kk := 111) rfl tl_11_99).trans (congrArg (x_g0 111 99 0 4) ((xe_if_icmp .ge 188).trans (congrArg (x_if_icmp .ge 188 K) ((xe_iload 7).trans (congrArg (x_iload 7) (xe_goto 189)))))))))))))))))
theorem bk_X11_countWays_188 : ck_ fX11 (some .int) cX11_countWays 188 [.iconst (-1), .iastore, .iload 7, .aload 0, .tableswitch 0 11 99 #[], .if_icmp .ge 214, .aload 0, .tableswitch 0 11 102 #[], .iload 6, .iload 7, .iastore, .iinc 5 1, .goto 217] 214 = true := qck_r (nn_ _) (by decide +kernel)
theorem bs_X11_countWays_188 {P : Zt → Option Zv → Prop} (K : Int → Zl → List Zv → Zt → Prop) : sx_ K P [.iconst (-1), .iastore, .iload 7, .aload 0, .tableswitch 0 11 99 #[], .if_icmp .ge 214, .aload 0, .tableswitch 0 11 102 #[], .iload 6, .iload 7, .iastore, .iinc 5 1, .goto 217] 214 = x_iconst (-1) (x_iastore (x_iload 7 (x_aload 0 (x_g0 111 99 0 4 (x_if_icmp .ge 214 K (x_aload 0 (x_g1 111 302 (x_iload 6 (x_iload 7 (x_iastore (x_iinc 5 1 (x_goto 217 K)))))))))))) := ((xe_iconst (-1)).trans (congrArg (x_iconst (-1)) ((xe_iastore).trans (congrArg (x_iastore) ((xe_iload 7).trans (congrArg (x_iload 7) ((xe_aload 0).trans (congrArg (x_aload 0) ((xe_g0 (kk := 111) rfl tl_11_99).trans (congrArg (x_g0 111 99 0 4) ((xe_if_icmp .ge 214).trans (congrArg (x_if_icmp .ge 214 K) ((xe_aload 0).trans (congrArg (x_aload 0) ((xe_g1 (kk := 111) rfl tl_11_102).trans (congrArg (x_g1 111 302) ((xe_iload 6).trans (congrArg (x_iload 6) ((xe_iload 7).trans (congrArg (x_iload 7) ((xe_iastore).trans (congrArg (x_iastore) ((xe_iinc 5 1).trans (congrArg (x_iinc 5 1) (xe_goto 217)))))))))))))))))))))))))
theorem bk_X11_countWays_214 : ck_ fX11 (some .int) cX11_countWays 214 [.iinc 5 (-1), .goto 82] 220 = true := qck_r (nn_ _) (by decide +kernel)
theorem bs_X11_countWays_214 {P : Zt → Option Zv → Prop} (K : Int → Zl → List Zv → Zt → Prop) : sx_ K P [.iinc 5 (-1), .goto 82] 220 = x_iinc 5 (-1) (x_goto 82 K) := ((xe_iinc 5 (-1)).trans (congrArg (x_iinc 5 (-1)) (xe_goto 82)))
theorem bk_X11_countWays_151 : ck_ fX11 (some .int) cX11_countWays 151 [.aload 0, .iload 6, .iload 7] 156 = true := qck_r (nn_ _) (by decide +kernel)
theorem bs_X11_countWays_151 {P : Zt → Option Zv → Prop} (K : Int → Zl → List Zv → Zt → Prop) : sx_ K P [.aload 0, .iload 6, .iload 7] 156 = x_aload 0 (x_iload 6 (x_iload 7 (K 156))) := ((xe_aload 0).trans (congrArg (x_aload 0) ((xe_iload 6).trans (congrArg (x_iload 6) ((xe_iload 7).trans (congrArg (x_iload 7) xe_nil))))))
set_option maxRecDepth 100000 in
theorem cl_X11_588 : cv_ RX11 588 yX11_mayStand zX11_mayStand 11 2 := ⟨gi_V (lwq_10 (dqc_m (dqa_m (dqa_m (dqa_m (List.mem_of_getElem? (i := 3) rfl))))) rfl : Cond.methodLink RX11 588 yX11_mayStand ∈ lw_g) (lwq_10 (dqc_m (dqa_m (dqa_m (dqa_m (List.mem_of_getElem? (i := 5) rfl))))) rfl : Cond.instanceMethod yX11_mayStand ∈ lw_g) (lw_sel 38 rfl : Cond.selects yX11_mayStand.cls yX11_mayStand yX11_mayStand ∈ lw_g) (lwq_1 (dqa_m (List.mem_of_getElem? (i := 2) rfl)) rfl : Cond.initialized yX11_mayStand.cls ∈ lw_g) (lwq_10 (dqc_m (dqa_m (dqa_m (dqa_m (List.mem_of_getElem? (i := 6) rfl))))) rfl : Cond.code yX11_mayStand cX11_mayStand 6 (some .boolean) ∈ lw_g), ⟨nmh_1.1, nmh_1.2, pdq_5⟩, ⟨_, _, rfl⟩⟩
theorem bk_X11_countWays_159 : ck_ fX11 (some .int) cX11_countWays 159 [.ifCond .ne 168, .iinc 7 1, .goto 130] 168 = true := qck_r (nn_ _) (by decide +kernel)
theorem bs_X11_countWays_159 {P : Zt → Option Zv → Prop} (K : Int → Zl → List Zv → Zt → Prop) : sx_ K P [.ifCond .ne 168, .iinc 7 1, .goto 130] 168 = x_ifCond .ne 168 K (x_iinc 7 1 (x_goto 130 K)) := ((xe_ifCond .ne 168).trans (congrArg (x_ifCond .ne 168 K) ((xe_iinc 7 1).trans (congrArg (x_iinc 7 1) (xe_goto 130)))))
theorem bk_X11_countWays_189 : ck_ fX11 (some .int) cX11_countWays 189 [.iastore, .iload 7, .aload 0, .tableswitch 0 11 99 #[], .if_icmp .ge 214, .aload 0, .tableswitch 0 11 102 #[], .iload 6, .iload 7, .iastore, .iinc 5 1, .goto 217] 214 = true := qck_r (nn_ _) (by decide +kernel)
theorem bs_X11_countWays_189 {P : Zt → Option Zv → Prop} (K : Int → Zl → List Zv → Zt → Prop) : sx_ K P [.iastore, .iload 7, .aload 0, .tableswitch 0 11 99 #[], .if_icmp .ge 214, .aload 0, .tableswitch 0 11 102 #[], .iload 6, .iload 7, .iastore, .iinc 5 1, .goto 217] 214 = x_iastore (x_iload 7 (x_aload 0 (x_g0 111 99 0 4 (x_if_icmp .ge 214 K (x_aload 0 (x_g1 111 302 (x_iload 6 (x_iload 7 (x_iastore (x_iinc 5 1 (x_goto 217 K))))))))))) := ((xe_iastore).trans (congrArg (x_iastore) ((xe_iload 7).trans (congrArg (x_iload 7) ((xe_aload 0).trans (congrArg (x_aload 0) ((xe_g0 (kk := 111) rfl tl_11_99).trans (congrArg (x_g0 111 99 0 4) ((xe_if_icmp .ge 214).trans (congrArg (x_if_icmp .ge 214 K) ((xe_aload 0).trans (congrArg (x_aload 0) ((xe_g1 (kk := 111) rfl tl_11_102).trans (congrArg (x_g1 111 302) ((xe_iload 6).trans (congrArg (x_iload 6) ((xe_iload 7).trans (congrArg (x_iload 7) ((xe_iastore).trans (congrArg (x_iastore) ((xe_iinc 5 1).trans (congrArg (x_iinc 5 1) (xe_goto 217)))))))))))))))))))))))
theorem bk_X11_countWays_217 : ck_ fX11 (some .int) cX11_countWays 217 [.goto 82] 220 = true := qck_r (nn_ _) (by decide +kernel)
theorem bs_X11_countWays_217 {P : Zt → Option Zv → Prop} (K : Int → Zl → List Zv → Zt → Prop) : sx_ K P [.goto 82] 220 = x_goto 82 K := (xe_goto 82)
theorem bk_X11_countWays_162 : ck_ fX11 (some .int) cX11_countWays 162 [.iinc 7 1, .goto 130] 168 = true := qck_r (nn_ _) (by decide +kernel)
theorem bs_X11_countWays_162 {P : Zt → Option Zv → Prop} (K : Int → Zl → List Zv → Zt → Prop) : sx_ K P [.iinc 7 1, .goto 130] 168 = x_iinc 7 1 (x_goto 130 K) := ((xe_iinc 7 1).trans (congrArg (x_iinc 7 1) (xe_goto 130)))
theorem bk_X11_countWays_82 : ck_ fX11 (some .int) cX11_countWays 82 [.iload 5, .ifCond .lt 220, .iload 5, .iload 3, .if_icmp .ne 102, .iinc 4 1, .iinc 5 (-1), .goto 82] 102 = true := qck_r (nn_ _) (by decide +kernel)
theorem bs_X11_countWays_82 {P : Zt → Option Zv → Prop} (K : Int → Zl → List Zv → Zt → Prop) : sx_ K P [.iload 5, .ifCond .lt 220, .iload 5, .iload 3, .if_icmp .ne 102, .iinc 4 1, .iinc 5 (-1), .goto 82] 102 = x_iload 5 (x_ifCond .lt 220 K (x_iload 5 (x_iload 3 (x_if_icmp .ne 102 K (x_iinc 4 1 (x_iinc 5 (-1) (x_goto 82 K))))))) := ((xe_iload 5).trans (congrArg (x_iload 5) ((xe_ifCond .lt 220).trans (congrArg (x_ifCond .lt 220 K) ((xe_iload 5).trans (congrArg (x_iload 5) ((xe_iload 3).trans (congrArg (x_iload 3) ((xe_if_icmp .ne 102).trans (congrArg (x_if_icmp .ne 102 K) ((xe_iinc 4 1).trans (congrArg (x_iinc 4 1) ((xe_iinc 5 (-1)).trans (congrArg (x_iinc 5 (-1)) (xe_goto 82)))))))))))))))
theorem bk_X11_countWays_220 : ck_ fX11 (some .int) cX11_countWays 220 [.iconst 0, .istore 6] 223 = true := qck_r (nn_ _) (by decide +kernel)
theorem bs_X11_countWays_220 {P : Zt → Option Zv → Prop} (K : Int → Zl → List Zv → Zt → Prop) : sx_ K P [.iconst 0, .istore 6] 223 = x_iconst 0 (x_istore 6 (K 223)) := ((xe_iconst 0).trans (congrArg (x_iconst 0) ((xe_istore 6).trans (congrArg (x_istore 6) xe_nil))))
theorem bk_X11_countWays_102 : ck_ fX11 (some .int) cX11_countWays 102 [.aload 0, .tableswitch 0 11 104 #[], .iload 5, .iaload, .istore 6, .aload 0, .tableswitch 0 11 102 #[], .iload 6, .iconst (-1), .iastore, .aload 0, .tableswitch 0 11 105 #[], .iload 5, .iaload, .iconst 1, .iadd, .istore 7] 130 = true := qck_r (nn_ _) (by decide +kernel)
theorem bs_X11_countWays_102 {P : Zt → Option Zv → Prop} (K : Int → Zl → List Zv → Zt → Prop) : sx_ K P [.aload 0, .tableswitch 0 11 104 #[], .iload 5, .iaload, .istore 6, .aload 0, .tableswitch 0 11 102 #[], .iload 6, .iconst (-1), .iastore, .aload 0, .tableswitch 0 11 105 #[], .iload 5, .iaload, .iconst 1, .iadd, .istore 7] 130 = x_aload 0 (x_g1 111 304 (x_iload 5 (x_iaload (x_istore 6 (x_aload 0 (x_g1 111 302 (x_iload 6 (x_iconst (-1) (x_iastore (x_aload 0 (x_g1 111 305 (x_iload 5 (x_iaload (x_iconst 1 (x_iadd (x_istore 7 (K 130))))))))))))))))) := ((xe_aload 0).trans (congrArg (x_aload 0) ((xe_g1 (kk := 111) rfl tl_11_104).trans (congrArg (x_g1 111 304) ((xe_iload 5).trans (congrArg (x_iload 5) ((xe_iaload).trans (congrArg (x_iaload) ((xe_istore 6).trans (congrArg (x_istore 6) ((xe_aload 0).trans (congrArg (x_aload 0) ((xe_g1 (kk := 111) rfl tl_11_102).trans (congrArg (x_g1 111 302) ((xe_iload 6).trans (congrArg (x_iload 6) ((xe_iconst (-1)).trans (congrArg (x_iconst (-1)) ((xe_iastore).trans (congrArg (x_iastore) ((xe_aload 0).trans (congrArg (x_aload 0) ((xe_g1 (kk := 111) rfl tl_11_105).trans (congrArg (x_g1 111 305) ((xe_iload 5).trans (congrArg (x_iload 5) ((xe_iaload).trans (congrArg (x_iaload) ((xe_iconst 1).trans (congrArg (x_iconst 1) ((xe_iadd).trans (congrArg (x_iadd) ((xe_istore 7).trans (congrArg (x_istore 7) xe_nil))))))))))))))))))))))))))))))))))
theorem bk_X11_countWays_14 : ck_ fX11 (some .int) cX11_countWays 14 [.iload 5, .aload 0, .tableswitch 0 11 12 #[], .if_icmp .ge 70, .aload 0, .tableswitch 0 11 101 #[], .iload 5, .iaload, .iload 4, .if_icmp .ne 64, .aload 0, .tableswitch 0 11 102 #[], .iload 5, .iaload, .iconst (-1), .if_icmp .ne 64, .aload 0, .tableswitch 0 11 104 #[], .iload 3, .iload 5, .iastore, .aload 0, .tableswitch 0 11 105 #[], .iload 3, .iconst (-1), .iastore, .iinc 3 1, .iinc 5 1, .goto 14] 70 = true := qck_r (nn_ _) (by decide +kernel)
theorem bs_X11_countWays_14 {P : Zt → Option Zv → Prop} (K : Int → Zl → List Zv → Zt → Prop) : sx_ K P [.iload 5, .aload 0, .tableswitch 0 11 12 #[], .if_icmp .ge 70, .aload 0, .tableswitch 0 11 101 #[], .iload 5, .iaload, .iload 4, .if_icmp .ne 64, .aload 0, .tableswitch 0 11 102 #[], .iload 5, .iaload, .iconst (-1), .if_icmp .ne 64, .aload 0, .tableswitch 0 11 104 #[], .iload 3, .iload 5, .iastore, .aload 0, .tableswitch 0 11 105 #[], .iload 3, .iconst (-1), .iastore, .iinc 3 1, .iinc 5 1, .goto 14] 70 = x_iload 5 (x_aload 0 (x_g0 111 12 0 12 (x_if_icmp .ge 70 K (x_aload 0 (x_g1 111 301 (x_iload 5 (x_iaload (x_iload 4 (x_if_icmp .ne 64 K (x_aload 0 (x_g1 111 302 (x_iload 5 (x_iaload (x_iconst (-1) (x_if_icmp .ne 64 K (x_aload 0 (x_g1 111 304 (x_iload 3 (x_iload 5 (x_iastore (x_aload 0 (x_g1 111 305 (x_iload 3 (x_iconst (-1) (x_iastore (x_iinc 3 1 (x_iinc 5 1 (x_goto 14 K)))))))))))))))))))))))))))) := ((xe_iload 5).trans (congrArg (x_iload 5) ((xe_aload 0).trans (congrArg (x_aload 0) ((xe_g0 (kk := 111) rfl tl_11_12).trans (congrArg (x_g0 111 12 0 12) ((xe_if_icmp .ge 70).trans (congrArg (x_if_icmp .ge 70 K) ((xe_aload 0).trans (congrArg (x_aload 0) ((xe_g1 (kk := 111) rfl tl_11_101).trans (congrArg (x_g1 111 301) ((xe_iload 5).trans (congrArg (x_iload 5) ((xe_iaload).trans (congrArg (x_iaload) ((xe_iload 4).trans (congrArg (x_iload 4) ((xe_if_icmp .ne 64).trans (congrArg (x_if_icmp .ne 64 K) ((xe_aload 0).trans (congrArg (x_aload 0) ((xe_g1 (kk := 111) rfl tl_11_102).trans (congrArg (x_g1 111 302) ((xe_iload 5).trans (congrArg (x_iload 5) ((xe_iaload).trans (congrArg (x_iaload) ((xe_iconst (-1)).trans (congrArg (x_iconst (-1)) ((xe_if_icmp .ne 64).trans (congrArg (x_if_icmp .ne 64 K) ((xe_aload 0).trans (congrArg (x_aload 0) ((xe_g1 (kk := 111) rfl tl_11_104).trans (congrArg (x_g1 111 304) ((xe_iload 3).trans (congrArg (x_iload 3) ((xe_iload 5).trans (congrArg (x_iload 5) ((xe_iastore).trans (congrArg (x_iastore) ((xe_aload 0).trans (congrArg (x_aload 0) ((xe_g1 (kk := 111) rfl tl_11_105).trans (congrArg (x_g1 111 305) ((xe_iload 3).trans (congrArg (x_iload 3) ((xe_iconst (-1)).trans (congrArg (x_iconst (-1)) ((xe_iastore).trans (congrArg (x_iastore) ((xe_iinc 3 1).trans (congrArg (x_iinc 3 1) ((xe_iinc 5 1).trans (congrArg (x_iinc 5 1) (xe_goto 14)))))))))))))))))))))))))))))))))))))))))))))))))))))))))
theorem bk_X11_countWays_70 : ck_ fX11 (some .int) cX11_countWays 70 [.iinc 4 1, .goto 5] 76 = true := qck_r (nn_ _) (by decide +kernel)
theorem bs_X11_countWays_70 {P : Zt → Option Zv → Prop} (K : Int → Zl → List Zv → Zt → Prop) : sx_ K P [.iinc 4 1, .goto 5] 76 = x_iinc 4 1 (x_goto 5 K) := ((xe_iinc 4 1).trans (congrArg (x_iinc 4 1) (xe_goto 5)))
theorem bk_X11_countWays_64 : ck_ fX11 (some .int) cX11_countWays 64 [.iinc 5 1, .goto 14] 70 = true := qck_r (nn_ _) (by decide +kernel)
theorem bs_X11_countWays_64 {P : Zt → Option Zv → Prop} (K : Int → Zl → List Zv → Zt → Prop) : sx_ K P [.iinc 5 1, .goto 14] 70 = x_iinc 5 1 (x_goto 14 K) := ((xe_iinc 5 1).trans (congrArg (x_iinc 5 1) (xe_goto 14)))
theorem bk_X11_countWays_5 : ck_ fX11 (some .int) cX11_countWays 5 [.iload 4, .iconst 2, .if_icmp .gt 76, .iconst 0, .istore 5] 14 = true := qck_r (nn_ _) (by decide +kernel)
theorem bs_X11_countWays_5 {P : Zt → Option Zv → Prop} (K : Int → Zl → List Zv → Zt → Prop) : sx_ K P [.iload 4, .iconst 2, .if_icmp .gt 76, .iconst 0, .istore 5] 14 = x_iload 4 (x_iconst 2 (x_if_icmp .gt 76 K (x_iconst 0 (x_istore 5 (K 14))))) := ((xe_iload 4).trans (congrArg (x_iload 4) ((xe_iconst 2).trans (congrArg (x_iconst 2) ((xe_if_icmp .gt 76).trans (congrArg (x_if_icmp .gt 76 K) ((xe_iconst 0).trans (congrArg (x_iconst 0) ((xe_istore 5).trans (congrArg (x_istore 5) xe_nil))))))))))
theorem bk_X11_countWays_76 : ck_ fX11 (some .int) cX11_countWays 76 [.iconst 0, .istore 4, .iconst 0, .istore 5] 82 = true := qck_r (nn_ _) (by decide +kernel)
theorem bs_X11_countWays_76 {P : Zt → Option Zv → Prop} (K : Int → Zl → List Zv → Zt → Prop) : sx_ K P [.iconst 0, .istore 4, .iconst 0, .istore 5] 82 = x_iconst 0 (x_istore 4 (x_iconst 0 (x_istore 5 (K 82)))) := ((xe_iconst 0).trans (congrArg (x_iconst 0) ((xe_istore 4).trans (congrArg (x_istore 4) ((xe_iconst 0).trans (congrArg (x_iconst 0) ((xe_istore 5).trans (congrArg (x_istore 5) xe_nil))))))))
theorem bk_X11_countWays_0 : ck_ fX11 (some .int) cX11_countWays 0 [.iconst 0, .istore 3, .iconst 0, .istore 4] 5 = true := qck_r (nn_ _) (by decide +kernel)
theorem bs_X11_countWays_0 {P : Zt → Option Zv → Prop} (K : Int → Zl → List Zv → Zt → Prop) : sx_ K P [.iconst 0, .istore 3, .iconst 0, .istore 4] 5 = x_iconst 0 (x_istore 3 (x_iconst 0 (x_istore 4 (K 5)))) := ((xe_iconst 0).trans (congrArg (x_iconst 0) ((xe_istore 3).trans (congrArg (x_istore 3) ((xe_iconst 0).trans (congrArg (x_iconst 0) ((xe_istore 4).trans (congrArg (x_istore 4) xe_nil))))))))
abbrev po_X11_countWays (T : Zt) (fx gp : Int) : Zt → Option Zv → Prop := fun T' r => ∃ x : Int, r = some (vI x) ∧ fr_ [(304, []), (305, []), (302, [])] T T' ∧ (x = (nw_ (drw_ T) fx gp (ll_ T) (gf_ T) : Nat) ∧ (∀ k, T' 302 0 k = T 302 0 k) ∧ 0 ≤ x ∧ x ≤ 13824)
set_option maxHeartbeats 4000000 in
theorem ct_X11_countWays {T : Zt} {fx gp : Int} : Ct_ yX11_countWays zX11_countWays T [vR 111 0, vI fx, vI gp] (po_X11_countWays T fx gp) := by
  refine ct_of pn_11 rfl rfl (Nat.le_of_ble_eq_true rfl) (fun hT hav => ?_)
  have hr_fx : -2147483648 ≤ fx ∧ fx ≤ 2147483647 := hav (vI fx) (List.mem_cons_of_mem _ List.mem_cons_self)
  have hr_gp : -2147483648 ≤ gp ∧ gp ≤ 2147483647 := hav (vI gp) (List.mem_cons_of_mem _ (List.mem_cons_of_mem _ List.mem_cons_self))
  have hz : zX11_countWays.2.2.2.1 = some .boolean → ∀ (T' : Zt) (x : Int), po_X11_countWays T fx gp T' (some (vI x)) → 0 ≤ x ∧ x ≤ 1 := fun h => by cases h
  have hb_12 : 0 ≤ T 111 0 12 ∧ T 111 0 12 ≤ 12 := bd_f hT 111 12 tl_11_12 0
  have hb_99 : 0 ≤ T 111 0 99 ∧ T 111 0 99 ≤ 4 := bd_f hT 111 99 tl_11_99 0
  have hN := ll_b (T := T) (fx := fx) (gp := gp) (by omega)
  have hG : (drw_ T).G ≤ 4 := show T 111 0 99 ≤ 4 by omega
  show J_ zX11_countWays T (po_X11_countWays T fx gp) 0 0 0 [some (vR 111 0), some (vI fx), some (vI gp), none, none, none, none, none] [] T
  have c_223 : ∀ (nn : Nat) (k : Int) (mn : Int) (w : Int) (T5 : Zt), ((mn - k).toNat) ≤ nn → (fr_ [(304, []), (305, []), (302, [])] T T5) → (0 ≤ k ∧ mn ≤ 12 ∧ w = (nw_ (drw_ T) fx gp (ll_ T) (gf_ T) : Nat)) → (∀ k, T5 302 0 k = T 302 0 k) → (∀ j, 0 ≤ j → j < mn → (0 ≤ T5 304 0 j ∧ T5 304 0 j < 12) ∧ T 302 0 (T5 304 0 j) = -1) → J_ zX11_countWays T (po_X11_countWays T fx gp) 0 0 223 [some (vR 111 0), some (vI fx), some (vI gp), some (vI mn), some (vI w), none, some (vI k), none] [] T5 := by
    intro nn
    induction nn using Nat.strongRecOn with
    | _ nn ih_223 =>
      intro k mn w T5 hm_223 hf_223 i5 go5 ta5
      replace hm_223 := fun (_ : Unit) => hm_223
      refine j_blx (F := fX11) tb_X11 (nn_ _) bk_X11_countWays_223 bs_X11_countWays_223 hz (fun K hK => ?_)
      refine And.intro (fun c1 => ?_) (fun c1 => ?_)
      · refine hK 248 _ [] T5 ?_
        refine j_blx (F := fX11) tb_X11 (nn_ _) bk_X11_countWays_248 bs_X11_countWays_248 hz (fun K hK => ?_)
        refine (show po_X11_countWays T fx gp T5 (some (vI w)) from ?_)
        exact ⟨_, rfl, fr_t (fr_0 _ _) (fr_s hf_223 rfl), i5.2.2, go5, by omega, by omega⟩
      · refine ix_i (by omega) ?_
        intro b2 b2b
        refine iy_i (by omega) (by omega) ?_
        refine x_nm (fun U3 hU3 => ?_)
        have e4 := up_f hU3
        refine rg_i (by omega) ?_
        refine hK 223 [some (vR 111 0), some (vI fx), some (vI gp), some (vI mn), some (vI w), none, some (vI (k + 1)), none] [] U3 ?_
        refine ih_223 _ ?_ (k + 1) mn w U3 (Nat.le_refl _) ?_ ?_ ?_ ?_
        · have hm_223 := hm_223 (); omega
        · exact fr_u (fr_t (fr_0 _ _) (fr_s hf_223 rfl)) hU3 rfl
        · exact ⟨by omega, i5.2⟩
        · intro j
          by_cases z : j = T5 304 0 k
          · rw [z, up_f hU3]; exact ((ta5 k (by omega) (by omega)).2).symm
          · rw [up_g hU3 (fun q => z q.2.2)]; exact go5 j
        · intro j a b
          rw [up_k hU3 (by exact Nat.ne_of_beq_eq_false rfl)]
          exact ta5 j a b
  have c_82 : ∀ (nn : Nat) (w : Int) (i : Int) (mn : Int) (st : List (Int × Int)) (zs : List Int) (t : Int) (T3 : Zt), (wm_ i t st) ≤ nn → (fr_ [(304, []), (305, []), (302, [])] T T3) → (-1 ≤ i ∧ i ≤ mn ∧ 0 ≤ mn ∧ mn ≤ 12) → (WH_ T3 (drw_ T) fx gp (gf_ T) mn i w (nw_ (drw_ T) fx gp (ll_ T) (gf_ T)) st zs t) → (∀ j, 0 ≤ j → j < mn → (0 ≤ T3 304 0 j ∧ T3 304 0 j < 12) ∧ T 302 0 (T3 304 0 j) = -1) → J_ zX11_countWays T (po_X11_countWays T fx gp) 0 0 82 [some (vR 111 0), some (vI fx), some (vI gp), some (vI mn), some (vI w), some (vI i), none, none] [] T3 := by
    intro nn
    induction nn using Nat.strongRecOn with
    | _ nn ih_82 =>
      intro w i mn st zs t T3 hm_82 hf_82 i3 wh ta
      replace hm_82 := fun (_ : Unit) => hm_82
      have c_130 : ∀ (nn : Nat) (g : Int) (ys : List Int) (T4 : Zt), ((T 111 0 99 - g).toNat) ≤ nn → (fr_ [(302, [])] T3 T4) → (zs = (T3 304 0 i) :: ys) → (0 ≤ i ∧ i < mn ∧ t < g ∧ -1 ≤ t ∧ g ≤ T 111 0 99 ∧ 0 ≤ T3 304 0 i ∧ T3 304 0 i < 12 ∧ T3 305 0 i = t) → ((fun k => T4 302 0 k) = cf_ (gf_ T) st) → (∀ u, t < u → 0 ≤ u → u < g → ¬ (((T3 304 0 i) = fx → u = gp) ∧ ms_ (drw_ T) (cf_ (gf_ T) st) (T3 304 0 i) u)) → J_ zX11_countWays T (po_X11_countWays T fx gp) 0 0 130 [some (vR 111 0), some (vI fx), some (vI gp), some (vI mn), some (vI w), some (vI i), some (vI (T3 304 0 i)), some (vI g)] [] T4 := by
        intro nn
        induction nn using Nat.strongRecOn with
        | _ nn ih_130 =>
          intro g ys T4 hm_130 hf_130 ez hc go4 no4
          replace hm_130 := fun (_ : Unit) => hm_130
          refine j_blx (F := fX11) tb_X11 (nn_ _) bk_X11_countWays_130 bs_X11_countWays_130 hz (fun K hK => ?_)
          intro b5 b5b
          have e6 : T4 111 0 99 = T 111 0 99 := (hf_130 111 0 99 rfl).trans (hf_82 111 0 99 rfl)
          rw [e6] at b5 b5b ⊢
          refine And.intro (fun c7 => ?_) (fun c7 => ?_)
          · refine hK 168 _ [] T4 ?_
            refine j_blx (F := fX11) tb_X11 (nn_ _) bk_X11_countWays_168 bs_X11_countWays_168 hz (fun K hK => ?_)
            intro b8 b8b
            have e9 : T4 111 0 99 = T 111 0 99 := (hf_130 111 0 99 rfl).trans (hf_82 111 0 99 rfl)
            rw [e9] at b8 b8b ⊢
            refine And.intro (fun c10 => ?_) (fun c10 => ?_)
            · refine hK 188 _ [vI i, vR 305 0] T4 ?_
              refine j_blx (F := fX11) tb_X11 (nn_ _) bk_X11_countWays_188 bs_X11_countWays_188 hz (fun K hK => ?_)
              refine iy_i (by omega) (by omega) ?_
              refine x_nm (fun U11 hU11 => ?_)
              have e12 := up_f hU11
              intro b13 b13b
              have e14 : U11 111 0 99 = T 111 0 99 := (up_k hU11 (by exact Nat.ne_of_beq_eq_false rfl) 0 99).trans ((hf_130 111 0 99 rfl).trans (hf_82 111 0 99 rfl))
              rw [e14] at b13 b13b ⊢
              refine And.intro (fun c15 => ?_) (fun c15 => ?_)
              · refine hK 214 _ [] U11 ?_
                refine j_blx (F := fX11) tb_X11 (nn_ _) bk_X11_countWays_214 bs_X11_countWays_214 hz (fun K hK => ?_)
                have eg : (fun k => U11 302 0 k) = cf_ (gf_ T) st := by rw [show (fun k => U11 302 0 k) = (fun k => T4 302 0 k) from funext (fun k => up_k hU11 (by exact Nat.ne_of_beq_eq_false rfl) 0 k)]; exact go4
                obtain ⟨st', zs', t', wh', hm'⟩ := wh_n (T2 := U11) (n := mn) hG (by rw [ez] at wh; exact wh) (by omega) eg (fun j => (up_k hU11 (by exact Nat.ne_of_beq_eq_false rfl) 0 j).trans (hf_130 304 0 j rfl)) (fun j hj => (up_g hU11 (by omega)).trans (hf_130 305 0 j rfl)) (up_f hU11) (fun u a b (c : u < T 111 0 99) => no4 u a b (by omega))
                refine rg_i (by omega) ?_
                refine hK 82 [some (vR 111 0), some (vI fx), some (vI gp), some (vI mn), some (vI w), some (vI (i + (-1))), some (vI (T3 304 0 i)), some (vI g)] [] U11 ?_
                refine j_drop [some (vR 111 0), some (vI fx), some (vI gp), some (vI mn), some (vI w), some (vI (i + (-1))), none, none] (fun k v hk => ?_) rfl ?_
                · match k, hk with
                  | 0, hk => exact hk
                  | 1, hk => exact hk
                  | 2, hk => exact hk
                  | 3, hk => exact hk
                  | 4, hk => exact hk
                  | 5, hk => exact hk
                  | 6, hk => cases hk
                  | 7, hk => cases hk
                  | k + 8, hk => cases hk
                refine ih_82 _ ?_ w (i + (-1)) mn (st') (zs') (t') U11 (Nat.le_refl _) ?_ ?_ ?_ ?_
                · have hm_82 := hm_82 (); exact Nat.lt_of_lt_of_le hm' hm_82
                · exact fr_u (fr_t (fr_t (fr_0 _ _) (fr_s hf_82 rfl)) (fr_s hf_130 rfl)) hU11 rfl
                · omega
                · exact wh'
                · intro j a b
                  rw [(up_k hU11 (by exact Nat.ne_of_beq_eq_false rfl) 0 j).trans (hf_130 304 0 j rfl)]
                  exact ta j a b
              · exfalso; omega
            · exfalso; omega
          · refine And.intro (fun c16 => ?_) (fun c16 => ?_)
            · refine hK 151 _ [] T4 ?_
              refine j_blx (F := fX11) tb_X11 (nn_ _) bk_X11_countWays_151 bs_X11_countWays_151 hz (fun K hK => ?_)
              refine hK 156 _ [vI g, vI (T3 304 0 i), vR 111 0] T4 ?_
              refine j_callV (y := yX11_mayStand) (Yc := zX11_mayStand) (rest := []) [vI (T3 304 0 i), vI g] (ct_X11_mayStand (T := T4) (by omega)) cl_X11_588 (qd_c (by decide +kernel)) (nn_ _) rfl (rf_of rfl) (Nat.le_of_ble_eq_true rfl) (Nat.le_of_ble_eq_true rfl) (Nat.le_of_ble_eq_true rfl) rfl ?_
              rintro _ _ ⟨rfl, x17, rfl, hx17⟩
              show J_ zX11_countWays T (po_X11_countWays T fx gp) 0 0 159 _ [vI x17] T4
              have ed : drw_ T4 = drw_ T := drw_e (fun k => (hf_130 301 0 k rfl).trans (hf_82 301 0 k rfl)) (fun k => (hf_130 214 0 k rfl).trans (hf_82 214 0 k rfl)) ((hf_130 111 0 12 rfl).trans (hf_82 111 0 12 rfl)) ((hf_130 111 0 99 rfl).trans (hf_82 111 0 99 rfl)) ((hf_130 111 0 100 rfl).trans (hf_82 111 0 100 rfl))
              have hms := hx17
              rw [ed, show gf_ T4 = cf_ (gf_ T) st from go4] at hms
              refine j_blx (F := fX11) tb_X11 (nn_ _) bk_X11_countWays_159 bs_X11_countWays_159 hz (fun K hK => ?_)
              refine And.intro (fun c18 => ?_) (fun c18 => ?_)
              · refine hK 168 _ [] T4 ?_
                refine j_blx (F := fX11) tb_X11 (nn_ _) bk_X11_countWays_168 bs_X11_countWays_168 hz (fun K hK => ?_)
                intro b19 b19b
                have e20 : T4 111 0 99 = T 111 0 99 := (hf_130 111 0 99 rfl).trans (hf_82 111 0 99 rfl)
                rw [e20] at b19 b19b ⊢
                refine And.intro (fun c21 => ?_) (fun c21 => ?_)
                · exfalso; omega
                · refine hK 189 _ [vI g, vI i, vR 305 0] T4 ?_
                  refine j_blx (F := fX11) tb_X11 (nn_ _) bk_X11_countWays_189 bs_X11_countWays_189 hz (fun K hK => ?_)
                  refine iy_i (by omega) (by omega) ?_
                  refine x_nm (fun U22 hU22 => ?_)
                  have e23 := up_f hU22
                  intro b24 b24b
                  have e25 : U22 111 0 99 = T 111 0 99 := (up_k hU22 (by exact Nat.ne_of_beq_eq_false rfl) 0 99).trans ((hf_130 111 0 99 rfl).trans (hf_82 111 0 99 rfl))
                  rw [e25] at b24 b24b ⊢
                  refine And.intro (fun c26 => ?_) (fun c26 => ?_)
                  · exfalso; omega
                  · refine iy_i (by omega) (by omega) ?_
                    refine x_nm (fun U27 hU27 => ?_)
                    have e28 := up_f hU27
                    refine rg_i (by omega) ?_
                    have eg : ∀ k, U27 302 0 k = fu_ (cf_ (gf_ T) st) (T3 304 0 i) g k := fun k => by
                      by_cases z : k = (T3 304 0 i)
                      · rw [z, up_f hU27]; exact (fu_s _ _ _).symm
                      · rw [up_g hU27 (fun q => z q.2.2), up_k hU22 (by exact Nat.ne_of_beq_eq_false rfl), fu_n z]; exact congrFun go4 k
                    obtain ⟨st', zs', t', wh', hm'⟩ := wh_g (T2 := U27) (g := g) (n := mn) hG (by omega) (by rw [ez] at wh; exact wh) (by omega) eg (fun j => (up_k hU27 (by exact Nat.ne_of_beq_eq_false rfl) 0 j).trans ((up_k hU22 (by exact Nat.ne_of_beq_eq_false rfl) 0 j).trans (hf_130 304 0 j rfl))) (fun j hj => (up_k hU27 (by exact Nat.ne_of_beq_eq_false rfl) 0 j).trans ((up_g hU22 (by omega)).trans (hf_130 305 0 j rfl))) ((up_k hU27 (by exact Nat.ne_of_beq_eq_false rfl) 0 i).trans (up_f hU22)) (show t < g ∧ 0 ≤ g ∧ g < T 111 0 99 by omega) ⟨fun z => by omega, (hms.resolve_right (fun z => absurd z.1 (by omega))).2⟩ no4
                    refine hK 217 [some (vR 111 0), some (vI fx), some (vI gp), some (vI mn), some (vI w), some (vI (i + 1)), some (vI (T3 304 0 i)), some (vI g)] [] U27 ?_
                    refine j_blx (F := fX11) tb_X11 (nn_ _) bk_X11_countWays_217 bs_X11_countWays_217 hz (fun K hK => ?_)
                    refine hK 82 _ [] U27 ?_
                    refine j_drop [some (vR 111 0), some (vI fx), some (vI gp), some (vI mn), some (vI w), some (vI (i + 1)), none, none] (fun k v hk => ?_) rfl ?_
                    · match k, hk with
                      | 0, hk => exact hk
                      | 1, hk => exact hk
                      | 2, hk => exact hk
                      | 3, hk => exact hk
                      | 4, hk => exact hk
                      | 5, hk => exact hk
                      | 6, hk => cases hk
                      | 7, hk => cases hk
                      | k + 8, hk => cases hk
                    refine ih_82 _ ?_ w (i + 1) mn (st') (zs') (t') U27 (Nat.le_refl _) ?_ ?_ ?_ ?_
                    · have hm_82 := hm_82 (); exact Nat.lt_of_lt_of_le hm' hm_82
                    · exact fr_u (fr_u (fr_t (fr_t (fr_0 _ _) (fr_s hf_82 rfl)) (fr_s hf_130 rfl)) hU22 rfl) hU27 rfl
                    · omega
                    · exact wh'
                    · intro j a b
                      rw [(up_k hU27 (by exact Nat.ne_of_beq_eq_false rfl) 0 j).trans ((up_k hU22 (by exact Nat.ne_of_beq_eq_false rfl) 0 j).trans (hf_130 304 0 j rfl))]
                      exact ta j a b
              · refine rg_i (by omega) ?_
                refine hK 130 [some (vR 111 0), some (vI fx), some (vI gp), some (vI mn), some (vI w), some (vI i), some (vI (T3 304 0 i)), some (vI (g + 1))] [] T4 ?_
                refine ih_130 _ ?_ (g + 1) ys T4 (Nat.le_refl _) ?_ ?_ ?_ ?_ ?_
                · have hm_130 := hm_130 (); omega
                · exact fr_t (fr_0 _ _) (fr_s hf_130 rfl)
                · first
                  | exact ez
                  | rfl
                · omega
                · exact go4
                · intro u a b c q
                  by_cases z : u = g
                  · rw [z] at q
                    first
                    | exact absurd (q.1 (by omega)) (by omega)
                    | (rcases hms with y | y
                       · exact absurd y.1 (by omega)
                       · exact y.2 q.2)
                  · exact no4 u a b (by omega) q
            · refine And.intro (fun c29 => ?_) (fun c29 => ?_)
              · refine hK 162 _ [] T4 ?_
                refine j_blx (F := fX11) tb_X11 (nn_ _) bk_X11_countWays_162 bs_X11_countWays_162 hz (fun K hK => ?_)
                refine rg_i (by omega) ?_
                refine hK 130 [some (vR 111 0), some (vI fx), some (vI gp), some (vI mn), some (vI w), some (vI i), some (vI (T3 304 0 i)), some (vI (g + 1))] [] T4 ?_
                refine ih_130 _ ?_ (g + 1) ys T4 (Nat.le_refl _) ?_ ?_ ?_ ?_ ?_
                · have hm_130 := hm_130 (); omega
                · exact fr_t (fr_0 _ _) (fr_s hf_130 rfl)
                · first
                  | exact ez
                  | rfl
                · omega
                · exact go4
                · intro u a b c q
                  by_cases z : u = g
                  · rw [z] at q
                    first
                    | exact absurd (q.1 (by omega)) (by omega)
                    | (rcases hms with y | y
                       · exact absurd y.1 (by omega)
                       · exact y.2 q.2)
                  · exact no4 u a b (by omega) q
              · refine hK 156 [some (vR 111 0), some (vI fx), some (vI gp), some (vI mn), some (vI w), some (vI i), some (vI (T3 304 0 i)), some (vI g)] [vI g, vI (T3 304 0 i), vR 111 0] T4 ?_
                refine j_callV (y := yX11_mayStand) (Yc := zX11_mayStand) (rest := []) [vI (T3 304 0 i), vI g] (ct_X11_mayStand (T := T4) (by omega)) cl_X11_588 (qd_c (by decide +kernel)) (nn_ _) rfl (rf_of rfl) (Nat.le_of_ble_eq_true rfl) (Nat.le_of_ble_eq_true rfl) (Nat.le_of_ble_eq_true rfl) rfl ?_
                rintro _ _ ⟨rfl, x30, rfl, hx30⟩
                show J_ zX11_countWays T (po_X11_countWays T fx gp) 0 0 159 _ [vI x30] T4
                have ed : drw_ T4 = drw_ T := drw_e (fun k => (hf_130 301 0 k rfl).trans (hf_82 301 0 k rfl)) (fun k => (hf_130 214 0 k rfl).trans (hf_82 214 0 k rfl)) ((hf_130 111 0 12 rfl).trans (hf_82 111 0 12 rfl)) ((hf_130 111 0 99 rfl).trans (hf_82 111 0 99 rfl)) ((hf_130 111 0 100 rfl).trans (hf_82 111 0 100 rfl))
                have hms := hx30
                rw [ed, show gf_ T4 = cf_ (gf_ T) st from go4] at hms
                refine j_blx (F := fX11) tb_X11 (nn_ _) bk_X11_countWays_159 bs_X11_countWays_159 hz (fun K hK => ?_)
                refine And.intro (fun c31 => ?_) (fun c31 => ?_)
                · refine hK 168 _ [] T4 ?_
                  refine j_blx (F := fX11) tb_X11 (nn_ _) bk_X11_countWays_168 bs_X11_countWays_168 hz (fun K hK => ?_)
                  intro b32 b32b
                  have e33 : T4 111 0 99 = T 111 0 99 := (hf_130 111 0 99 rfl).trans (hf_82 111 0 99 rfl)
                  rw [e33] at b32 b32b ⊢
                  refine And.intro (fun c34 => ?_) (fun c34 => ?_)
                  · exfalso; omega
                  · refine hK 189 _ [vI g, vI i, vR 305 0] T4 ?_
                    refine j_blx (F := fX11) tb_X11 (nn_ _) bk_X11_countWays_189 bs_X11_countWays_189 hz (fun K hK => ?_)
                    refine iy_i (by omega) (by omega) ?_
                    refine x_nm (fun U35 hU35 => ?_)
                    have e36 := up_f hU35
                    intro b37 b37b
                    have e38 : U35 111 0 99 = T 111 0 99 := (up_k hU35 (by exact Nat.ne_of_beq_eq_false rfl) 0 99).trans ((hf_130 111 0 99 rfl).trans (hf_82 111 0 99 rfl))
                    rw [e38] at b37 b37b ⊢
                    refine And.intro (fun c39 => ?_) (fun c39 => ?_)
                    · exfalso; omega
                    · refine iy_i (by omega) (by omega) ?_
                      refine x_nm (fun U40 hU40 => ?_)
                      have e41 := up_f hU40
                      refine rg_i (by omega) ?_
                      have eg : ∀ k, U40 302 0 k = fu_ (cf_ (gf_ T) st) (T3 304 0 i) g k := fun k => by
                        by_cases z : k = (T3 304 0 i)
                        · rw [z, up_f hU40]; exact (fu_s _ _ _).symm
                        · rw [up_g hU40 (fun q => z q.2.2), up_k hU35 (by exact Nat.ne_of_beq_eq_false rfl), fu_n z]; exact congrFun go4 k
                      obtain ⟨st', zs', t', wh', hm'⟩ := wh_g (T2 := U40) (g := g) (n := mn) hG (by omega) (by rw [ez] at wh; exact wh) (by omega) eg (fun j => (up_k hU40 (by exact Nat.ne_of_beq_eq_false rfl) 0 j).trans ((up_k hU35 (by exact Nat.ne_of_beq_eq_false rfl) 0 j).trans (hf_130 304 0 j rfl))) (fun j hj => (up_k hU40 (by exact Nat.ne_of_beq_eq_false rfl) 0 j).trans ((up_g hU35 (by omega)).trans (hf_130 305 0 j rfl))) ((up_k hU40 (by exact Nat.ne_of_beq_eq_false rfl) 0 i).trans (up_f hU35)) (show t < g ∧ 0 ≤ g ∧ g < T 111 0 99 by omega) ⟨fun z => by omega, (hms.resolve_right (fun z => absurd z.1 (by omega))).2⟩ no4
                      refine hK 217 [some (vR 111 0), some (vI fx), some (vI gp), some (vI mn), some (vI w), some (vI (i + 1)), some (vI (T3 304 0 i)), some (vI g)] [] U40 ?_
                      refine j_blx (F := fX11) tb_X11 (nn_ _) bk_X11_countWays_217 bs_X11_countWays_217 hz (fun K hK => ?_)
                      refine hK 82 _ [] U40 ?_
                      refine j_drop [some (vR 111 0), some (vI fx), some (vI gp), some (vI mn), some (vI w), some (vI (i + 1)), none, none] (fun k v hk => ?_) rfl ?_
                      · match k, hk with
                        | 0, hk => exact hk
                        | 1, hk => exact hk
                        | 2, hk => exact hk
                        | 3, hk => exact hk
                        | 4, hk => exact hk
                        | 5, hk => exact hk
                        | 6, hk => cases hk
                        | 7, hk => cases hk
                        | k + 8, hk => cases hk
                      refine ih_82 _ ?_ w (i + 1) mn (st') (zs') (t') U40 (Nat.le_refl _) ?_ ?_ ?_ ?_
                      · have hm_82 := hm_82 (); exact Nat.lt_of_lt_of_le hm' hm_82
                      · exact fr_u (fr_u (fr_t (fr_t (fr_0 _ _) (fr_s hf_82 rfl)) (fr_s hf_130 rfl)) hU35 rfl) hU40 rfl
                      · omega
                      · exact wh'
                      · intro j a b
                        rw [(up_k hU40 (by exact Nat.ne_of_beq_eq_false rfl) 0 j).trans ((up_k hU35 (by exact Nat.ne_of_beq_eq_false rfl) 0 j).trans (hf_130 304 0 j rfl))]
                        exact ta j a b
                · refine rg_i (by omega) ?_
                  refine hK 130 [some (vR 111 0), some (vI fx), some (vI gp), some (vI mn), some (vI w), some (vI i), some (vI (T3 304 0 i)), some (vI (g + 1))] [] T4 ?_
                  refine ih_130 _ ?_ (g + 1) ys T4 (Nat.le_refl _) ?_ ?_ ?_ ?_ ?_
                  · have hm_130 := hm_130 (); omega
                  · exact fr_t (fr_0 _ _) (fr_s hf_130 rfl)
                  · first
                    | exact ez
                    | rfl
                  · omega
                  · exact go4
                  · intro u a b c q
                    by_cases z : u = g
                    · rw [z] at q
                      first
                      | exact absurd (q.1 (by omega)) (by omega)
                      | (rcases hms with y | y
                         · exact absurd y.1 (by omega)
                         · exact y.2 q.2)
                    · exact no4 u a b (by omega) q
      refine j_blx (F := fX11) tb_X11 (nn_ _) bk_X11_countWays_82 bs_X11_countWays_82 hz (fun K hK => ?_)
      refine And.intro (fun c42 => ?_) (fun c42 => ?_)
      · have hen := wh_z wh (by omega)
        refine hK 220 _ [] T3 ?_
        refine j_blx (F := fX11) tb_X11 (nn_ _) bk_X11_countWays_220 bs_X11_countWays_220 hz (fun K hK => ?_)
        refine hK 223 [some (vR 111 0), some (vI fx), some (vI gp), some (vI mn), some (vI w), some (vI i), some (vI 0), none] [] T3 ?_
        refine j_drop [some (vR 111 0), some (vI fx), some (vI gp), some (vI mn), some (vI w), none, some (vI 0), none] (fun k v hk => ?_) rfl ?_
        · match k, hk with
          | 0, hk => exact hk
          | 1, hk => exact hk
          | 2, hk => exact hk
          | 3, hk => exact hk
          | 4, hk => exact hk
          | 5, hk => cases hk
          | 6, hk => exact hk
          | 7, hk => cases hk
          | k + 8, hk => cases hk
        refine c_223 _ 0 mn w T3 (Nat.le_refl _) ?_ ?_ ?_ ?_
        · exact fr_t (fr_0 _ _) (fr_s hf_82 rfl)
        · exact ⟨by omega, by omega, hen.1⟩
        · exact hen.2
        · exact ta
      · refine And.intro (fun c43 => ?_) (fun c43 => ?_)
        · refine hK 102 [some (vR 111 0), some (vI fx), some (vI gp), some (vI mn), some (vI w), some (vI i), none, none] [] T3 ?_
          obtain ⟨x0, ys, ez, tx, tt, hx0, ht, hin, hil⟩ := wh_x wh (by omega) (by omega)
          have ht2 : t < T 111 0 99 := ht.2
          subst tx
          subst ez
          refine j_blx (F := fX11) tb_X11 (nn_ _) bk_X11_countWays_102 bs_X11_countWays_102 hz (fun K hK => ?_)
          refine ix_i (by omega) ?_
          intro b44 b44b
          refine iy_i (by omega) (by omega) ?_
          refine x_nm (fun U45 hU45 => ?_)
          have e46 := up_f hU45
          refine ix_i (by omega) ?_
          intro b47 b47b
          have e48 : U45 305 0 i = T3 305 0 i := up_k hU45 (by exact Nat.ne_of_beq_eq_false rfl) 0 i
          rw [e48] at b47 b47b ⊢
          refine rg_i (by omega) ?_
          refine hK 130 [some (vR 111 0), some (vI fx), some (vI gp), some (vI mn), some (vI w), some (vI i), some (vI (T3 304 0 i)), some (vI ((T3 305 0 i) + 1))] [] U45 ?_
          refine c_130 _ ((T3 305 0 i) + 1) ys U45 (Nat.le_refl _) ?_ ?_ ?_ ?_ ?_
          · exact fr_u (fr_0 _ _) hU45 rfl
          · first
            | exact ez
            | rfl
          · omega
          · exact wh_c wh (by omega) (up_f hU45) (fun k hk => up_g hU45 (fun q => hk q.2.2))
          · intro u a b c; omega
        · have hwb := wh_b hG wh (by omega) (by omega)
          have hw1 := hwb.1
          have hw0 := hwb.2.1
          refine rg_i (by omega) ?_
          refine rg_i (by omega) ?_
          obtain ⟨hw1, hw0, st', zs', t', wh', hm'⟩ := wh_b hG wh (by omega) (by omega)
          refine hK 82 [some (vR 111 0), some (vI fx), some (vI gp), some (vI mn), some (vI (w + 1)), some (vI (i + (-1))), none, none] [] T3 ?_
          refine ih_82 _ ?_ (w + 1) (i + (-1)) mn (st') (zs') (t') T3 (Nat.le_refl _) ?_ ?_ ?_ ?_
          · have hm_82 := hm_82 (); exact Nat.lt_of_lt_of_le hm' hm_82
          · exact fr_t (fr_0 _ _) (fr_s hf_82 rfl)
          · omega
          · exact wh'
          · exact ta
  have c_5 : ∀ (nn : Nat) (p : Int) (mn : Int) (T1 : Zt), ((3 - p).toNat) ≤ nn → (fr_ [(304, []), (305, [])] T T1) → (0 ≤ p ∧ p ≤ 3 ∧ mn = ((lq_ (fun k => T 301 0 k) (gf_ T) (T 111 0 12).toNat p.toNat).length : Int)) → (RQ_ T1 0 (lq_ (fun k => T 301 0 k) (gf_ T) (T 111 0 12).toNat p.toNat)) → J_ zX11_countWays T (po_X11_countWays T fx gp) 0 0 5 [some (vR 111 0), some (vI fx), some (vI gp), some (vI mn), some (vI p), none, none, none] [] T1 := by
    intro nn
    induction nn using Nat.strongRecOn with
    | _ nn ih_5 =>
      intro p mn T1 hm_5 hf_5 i1 rq1
      replace hm_5 := fun (_ : Unit) => hm_5
      have c_14 : ∀ (nn : Nat) (k : Int) (mn2 : Int) (T2 : Zt), ((12 - k).toNat) ≤ nn → (fr_ [(304, []), (305, [])] T T2) → (0 ≤ k ∧ k ≤ T 111 0 12 ∧ p ≤ 2 ∧ mn2 = ((lq_ (fun k => T 301 0 k) (gf_ T) (T 111 0 12).toNat p.toNat ++ lpk_ (fun k => T 301 0 k) (gf_ T) p k.toNat).length : Int)) → (RQ_ T2 0 (lq_ (fun k => T 301 0 k) (gf_ T) (T 111 0 12).toNat p.toNat ++ lpk_ (fun k => T 301 0 k) (gf_ T) p k.toNat)) → J_ zX11_countWays T (po_X11_countWays T fx gp) 0 0 14 [some (vR 111 0), some (vI fx), some (vI gp), some (vI mn2), some (vI p), some (vI k), none, none] [] T2 := by
        intro nn
        induction nn using Nat.strongRecOn with
        | _ nn ih_14 =>
          intro k mn2 T2 hm_14 hf_14 i2 rq2
          replace hm_14 := fun (_ : Unit) => hm_14
          refine j_blx (F := fX11) tb_X11 (nn_ _) bk_X11_countWays_14 bs_X11_countWays_14 hz (fun K hK => ?_)
          intro b49 b49b
          have e50 : T2 111 0 12 = T 111 0 12 := hf_14 111 0 12 rfl
          rw [e50] at b49 b49b ⊢
          refine And.intro (fun c51 => ?_) (fun c51 => ?_)
          · refine hK 70 _ [] T2 ?_
            refine j_blx (F := fX11) tb_X11 (nn_ _) bk_X11_countWays_70 bs_X11_countWays_70 hz (fun K hK => ?_)
            refine rg_i (by omega) ?_
            refine hK 5 [some (vR 111 0), some (vI fx), some (vI gp), some (vI mn2), some (vI (p + 1)), some (vI k), none, none] [] T2 ?_
            refine j_drop [some (vR 111 0), some (vI fx), some (vI gp), some (vI mn2), some (vI (p + 1)), none, none, none] (fun k v hk => ?_) rfl ?_
            · match k, hk with
              | 0, hk => exact hk
              | 1, hk => exact hk
              | 2, hk => exact hk
              | 3, hk => exact hk
              | 4, hk => exact hk
              | 5, hk => cases hk
              | 6, hk => cases hk
              | 7, hk => cases hk
              | k + 8, hk => cases hk
            refine ih_5 _ ?_ (p + 1) mn2 T2 (Nat.le_refl _) ?_ ?_ ?_
            · have hm_5 := hm_5 (); omega
            · exact fr_t (fr_0 _ _) (fr_s hf_14 rfl)
            · refine ⟨by omega, by omega, ?_⟩
              rw [lq_t (by omega)]
              have h9 := i2.2.2.2
              rw [show k.toNat = (T 111 0 12).toNat by omega] at h9
              exact h9
            · rw [lq_t (by omega)]
              have h9 := rq2
              rw [show k.toNat = (T 111 0 12).toNat by omega] at h9
              exact h9
          · refine ix_i (by omega) ?_
            intro b52 b52b
            have e53 : T2 301 0 k = T 301 0 k := hf_14 301 0 k rfl
            rw [e53] at b52 b52b ⊢
            refine And.intro (fun c54 => ?_) (fun c54 => ?_)
            · refine hK 64 [some (vR 111 0), some (vI fx), some (vI gp), some (vI mn2), some (vI p), some (vI k), none, none] [] T2 ?_
              refine j_blx (F := fX11) tb_X11 (nn_ _) bk_X11_countWays_64 bs_X11_countWays_64 hz (fun K hK => ?_)
              refine rg_i (by omega) ?_
              refine hK 14 [some (vR 111 0), some (vI fx), some (vI gp), some (vI mn2), some (vI p), some (vI (k + 1)), none, none] [] T2 ?_
              refine ih_14 _ ?_ (k + 1) mn2 T2 (Nat.le_refl _) ?_ ?_ ?_
              · have hm_14 := hm_14 (); omega
              · exact fr_t (fr_0 _ _) (fr_s hf_14 rfl)
              · refine ⟨by omega, by omega, by omega, ?_⟩
                rw [lpk_f (E := fun k => T 301 0 k) (b := gf_ T) (by omega) (show ¬ (T 301 0 k = p ∧ T 302 0 k = -1) by omega)]
                exact i2.2.2.2
              · rw [lpk_f (E := fun k => T 301 0 k) (b := gf_ T) (by omega) (show ¬ (T 301 0 k = p ∧ T 302 0 k = -1) by omega)]
                exact rq2
            · refine ix_i (by omega) ?_
              intro b55 b55b
              have e56 : T2 302 0 k = T 302 0 k := hf_14 302 0 k rfl
              rw [e56] at b55 b55b ⊢
              refine And.intro (fun c57 => ?_) (fun c57 => ?_)
              · refine hK 64 [some (vR 111 0), some (vI fx), some (vI gp), some (vI mn2), some (vI p), some (vI k), none, none] [] T2 ?_
                refine j_blx (F := fX11) tb_X11 (nn_ _) bk_X11_countWays_64 bs_X11_countWays_64 hz (fun K hK => ?_)
                refine rg_i (by omega) ?_
                refine hK 14 [some (vR 111 0), some (vI fx), some (vI gp), some (vI mn2), some (vI p), some (vI (k + 1)), none, none] [] T2 ?_
                refine ih_14 _ ?_ (k + 1) mn2 T2 (Nat.le_refl _) ?_ ?_ ?_
                · have hm_14 := hm_14 (); omega
                · exact fr_t (fr_0 _ _) (fr_s hf_14 rfl)
                · refine ⟨by omega, by omega, by omega, ?_⟩
                  rw [lpk_f (E := fun k => T 301 0 k) (b := gf_ T) (by omega) (show ¬ (T 301 0 k = p ∧ T 302 0 k = -1) by omega)]
                  exact i2.2.2.2
                · rw [lpk_f (E := fun k => T 301 0 k) (b := gf_ T) (by omega) (show ¬ (T 301 0 k = p ∧ T 302 0 k = -1) by omega)]
                  exact rq2
              · have hnd := lx_d (E := (fun k => T 301 0 k)) (b := gf_ T) (n := (T 111 0 12).toNat) (p := p) (k := k + 1) (by omega)
                have hnm : ∀ x ∈ lq_ (fun k => T 301 0 k) (gf_ T) (T 111 0 12).toNat p.toNat ++ lpk_ (fun k => T 301 0 k) (gf_ T) p (k + 1).toNat, 0 ≤ x ∧ x < 12 := fun x hx => by have := lx_m (by omega) (by omega) hx; omega
                have hnl := nd_len (by decide) hnm hnd
                rw [lpk_t (E := fun k => T 301 0 k) (b := gf_ T) (by omega) (show T 301 0 k = p ∧ T 302 0 k = -1 by omega), ← List.append_assoc, List.length_append, List.length_singleton] at hnl
                refine iy_i (by omega) (by omega) ?_
                refine x_nm (fun U58 hU58 => ?_)
                have e59 := up_f hU58
                refine iy_i (by omega) (by omega) ?_
                refine x_nm (fun U60 hU60 => ?_)
                have e61 := up_f hU60
                refine rg_i (by omega) ?_
                refine rg_i (by omega) ?_
                refine hK 14 [some (vR 111 0), some (vI fx), some (vI gp), some (vI (mn2 + 1)), some (vI p), some (vI (k + 1)), none, none] [] U60 ?_
                refine ih_14 _ ?_ (k + 1) (mn2 + 1) U60 (Nat.le_refl _) ?_ ?_ ?_
                · have hm_14 := hm_14 (); omega
                · exact fr_u (fr_u (fr_t (fr_0 _ _) (fr_s hf_14 rfl)) hU58 rfl) hU60 rfl
                · refine ⟨by omega, by omega, by omega, ?_⟩
                  rw [lpk_t (E := fun k => T 301 0 k) (b := gf_ T) (by omega) (show T 301 0 k = p ∧ T 302 0 k = -1 by omega), ← List.append_assoc, List.length_append, List.length_singleton]
                  omega
                · rw [lpk_t (E := fun k => T 301 0 k) (b := gf_ T) (by omega) (show T 301 0 k = p ∧ T 302 0 k = -1 by omega), ← List.append_assoc]
                  refine rq_s (rq_l rq2 (fun j a b => ⟨(up_k hU60 (by exact Nat.ne_of_beq_eq_false rfl) 0 j).trans (up_g hU58 (by omega)), (up_g hU60 (by omega)).trans (up_k hU58 (by exact Nat.ne_of_beq_eq_false rfl) 0 j)⟩)) ?_ ?_
                  · rw [show ((0 : Nat) : Int) + ((lq_ (fun k => T 301 0 k) (gf_ T) (T 111 0 12).toNat p.toNat ++ lpk_ (fun k => T 301 0 k) (gf_ T) p k.toNat).length : Int) = mn2 by omega]
                    exact (up_k hU60 (by exact Nat.ne_of_beq_eq_false rfl) 0 _).trans (up_f hU58)
                  · rw [show ((0 : Nat) : Int) + ((lq_ (fun k => T 301 0 k) (gf_ T) (T 111 0 12).toNat p.toNat ++ lpk_ (fun k => T 301 0 k) (gf_ T) p k.toNat).length : Int) = mn2 by omega]
                    exact up_f hU60
      refine j_blx (F := fX11) tb_X11 (nn_ _) bk_X11_countWays_5 bs_X11_countWays_5 hz (fun K hK => ?_)
      refine And.intro (fun c62 => ?_) (fun c62 => ?_)
      · refine hK 76 _ [] T1 ?_
        have ep : p = 3 := by omega
        subst ep
        have hll : lq_ (fun k => T 301 0 k) (gf_ T) (T 111 0 12).toNat (3 : Int).toNat = ll_ T := rfl
        rw [hll] at rq1 i1
        have hlm : ∀ x ∈ ll_ T, (0 ≤ x ∧ x < 12) ∧ gf_ T x = -1 := fun x hx => by
          have := ll_m (T := T) (by omega) hx
          exact ⟨by omega, this.2.2.1⟩
        have hnl := nd_len (n := 12) (by decide) (fun x hx => (hlm x hx).1) (ll_d T)
        obtain ⟨t0, wh0⟩ := wh_0 (T := T1) (d := drw_ T) (fx := fx) (gp := gp) (n := mn) (b := gf_ T) (l := ll_ T) (show 0 ≤ T 111 0 99 by omega) (by omega) (fun k => hf_5 302 0 k rfl) rq1 hlm (ll_d T)
        refine j_blx (F := fX11) tb_X11 (nn_ _) bk_X11_countWays_76 bs_X11_countWays_76 hz (fun K hK => ?_)
        refine hK 82 [some (vR 111 0), some (vI fx), some (vI gp), some (vI mn), some (vI 0), some (vI 0), none, none] [] T1 ?_
        refine c_82 _ 0 0 mn ([]) (ll_ T) t0 T1 (Nat.le_refl _) ?_ ?_ ?_ ?_
        · exact fr_t (fr_0 _ _) (fr_s hf_5 rfl)
        · omega
        · exact wh0
        · intro j a b
          have h9 := rq_m (P := fun x => (0 ≤ x ∧ x < 12) ∧ gf_ T x = -1) rq1 hlm j (by omega) (by omega)
          exact h9
      · refine hK 14 [some (vR 111 0), some (vI fx), some (vI gp), some (vI mn), some (vI p), some (vI 0), none, none] [] T1 ?_
        refine c_14 _ 0 mn T1 (Nat.le_refl _) ?_ ?_ ?_
        · exact fr_t (fr_0 _ _) (fr_s hf_5 rfl)
        · refine ⟨by omega, by omega, by omega, ?_⟩
          show _ = ((lq_ (fun k => T 301 0 k) (gf_ T) (T 111 0 12).toNat p.toNat ++ []).length : Int)
          rw [List.append_nil]
          exact i1.2.2
        · show RQ_ T1 0 (lq_ (fun k => T 301 0 k) (gf_ T) (T 111 0 12).toNat p.toNat ++ [])
          rw [List.append_nil]
          exact rq1
  refine j_blx (F := fX11) tb_X11 (nn_ _) bk_X11_countWays_0 bs_X11_countWays_0 hz (fun K hK => ?_)
  refine hK 5 [some (vR 111 0), some (vI fx), some (vI gp), some (vI 0), some (vI 0), none, none, none] [] T ?_
  refine c_5 _ 0 0 T (Nat.le_refl _) ?_ ?_ ?_
  · exact fr_0 _ _
  · exact ⟨by decide, by decide, rfl⟩
  · exact trivial
theorem us_1 {x : Int} (h : -2147483648 ≤ x ∧ x ≤ 2147483647) : us_ x 1 = x % 4294967296 / 2 := by
  have a : ((Int32.ofInt x).toUInt32.toBitVec).toNat = (x % 4294967296).toNat := by
    show (BitVec.ofInt 32 x).toNat = _
    rw [BitVec.toNat_ofInt]; rfl
  have s : ((Int32.ofInt 1).toUInt32 &&& Int32.toUInt32 31) = 1 := by decide
  unfold us_
  rw [s]
  have b : (((Int32.ofInt x).toUInt32 >>> (1 : UInt32)).toBitVec).toNat = (x % 4294967296).toNat / 2 := by
    show ((Int32.ofInt x).toUInt32.toBitVec >>> (1 : BitVec 32)).toNat = _
    rw [BitVec.ushiftRight_eq', BitVec.toNat_ushiftRight, a]
    show (x % 4294967296).toNat >>> 1 = _
    rw [Nat.shiftRight_eq_div_pow]
  show (((Int32.ofInt x).toUInt32 >>> (1 : UInt32)).toBitVec).toInt = _
  rw [BitVec.toInt_eq_toNat_cond, b]
  split <;> omega
theorem tk_d : ∀ a : Fin 216, ∀ b : Fin 128, (4294967296 * 1664525 + 1013904223 - (128 * a.val + b.val + 1) * 1664525) % 4294967296 / 2 < 2147469824 := by decide +kernel
theorem tk_2 {s : Int} (h : -2147483648 ≤ s ∧ s ≤ 2147483647) (t : 2147469824 ≤ us_ s 1) : us_ (wr_ (wr_ (s * 1664525) + 1013904223)) 1 < 2147469824 := by
  rw [us_1 h] at t
  obtain ⟨n, hn, e⟩ : ∃ n : Nat, n < 27648 ∧ s = -((n : Int) + 1) := ⟨(-s - 1).toNat, by omega, by omega⟩
  have k := tk_d ⟨n / 128, by omega⟩ ⟨n % 128, by omega⟩
  have k' : (4294967296 * 1664525 + 1013904223 - (n + 1) * 1664525) % 4294967296 / 2 < 2147469824 := by
    have e2 : 128 * (n / 128) + n % 128 + 1 = n + 1 := by omega
    simp only [e2] at k
    exact k
  have w : wr_ (wr_ (s * 1664525) + 1013904223) = wr_ (s * 1664525 + 1013904223) := by unfold wr_; omega
  rw [w, us_1 (by unfold wr_; omega)]
  have m : wr_ (s * 1664525 + 1013904223) % 4294967296 = (s * 1664525 + 1013904223) % 4294967296 := by unfold wr_; omega
  rw [m, e]
  generalize hX : 4294967296 * 1664525 + 1013904223 - (n + 1) * 1664525 = X at k'
  have q : -((n : Int) + 1) * 1664525 + 1013904223 = (X : Int) + 4294967296 * (-1664525) := by omega
  rw [q, Int.add_mul_emod_self_left]
  omega
/-- there is a club of pot p, below k, without a group -/
def EL_ (T : Zt) (p k : Int) : Prop := (0 ≤ p ∧ p ≤ 2) ∧ ∃ j, 0 ≤ j ∧ j < k ∧ T 301 0 j = p ∧ T 302 0 j = -1
theorem el_m {T : Zt} {p k : Int} (h : EL_ T p k) : EL_ T p (k + 1) := by
  obtain ⟨a, j, b, c, d⟩ := h
  exact ⟨a, j, b, by omega, d⟩
theorem el_n {T : Zt} {p k : Int} (hk : 0 ≤ k) (hp : 0 ≤ p ∧ p ≤ 2) (h : T 301 0 k = p) (g : T 302 0 k = -1) : EL_ T p (k + 1) := ⟨hp, k, hk, by omega, h, g⟩
/-- how many clubs of pot p, below k, have no group -/
def cen_ (T : Zt) (p : Int) : Nat → Int
  | 0 => 0
  | k + 1 => cen_ T p k + (if T 301 0 (k : Int) = p ∧ T 302 0 (k : Int) = -1 then 1 else 0)
def cel_ (T : Zt) (p k : Int) : Int := cen_ T p k.toNat
theorem cel_t {T : Zt} {p k : Int} (hk : 0 ≤ k) (c : T 301 0 k = p ∧ T 302 0 k = -1) : cel_ T p (k + 1) = cel_ T p k + 1 := by
  unfold cel_
  rw [show (k + 1).toNat = k.toNat + 1 by omega]
  show _ + _ = _
  rw [show ((k.toNat : Nat) : Int) = k by omega, if_pos c]
theorem cel_f {T : Zt} {p k : Int} (hk : 0 ≤ k) (c : ¬ (T 301 0 k = p ∧ T 302 0 k = -1)) : cel_ T p (k + 1) = cel_ T p k := by
  unfold cel_
  rw [show (k + 1).toNat = k.toNat + 1 by omega]
  show _ + _ = _
  rw [show ((k.toNat : Nat) : Int) = k by omega, if_neg c, Int.add_zero]
theorem cen_b (T : Zt) (p : Int) : ∀ k : Nat, 0 ≤ cen_ T p k ∧ cen_ T p k ≤ k
  | 0 => by simp [cen_]
  | k + 1 => by
      have i := cen_b T p k
      unfold cen_
      split <;> omega
theorem cel_b {T : Zt} {p k : Int} (hk : 0 ≤ k) : 0 ≤ cel_ T p k ∧ cel_ T p k ≤ k := by
  have := cen_b T p k.toNat
  unfold cel_; omega
theorem cen_p {T : Zt} {p j : Int} (h0 : 0 ≤ j) (c : T 301 0 j = p ∧ T 302 0 j = -1) : ∀ k : Nat, j < k → 0 < cen_ T p k
  | 0, h => by omega
  | k + 1, h => by
      have b := cen_b T p k
      unfold cen_
      by_cases z : j = k
      · rw [← z, if_pos c]; omega
      · have := cen_p h0 c k (by omega)
        split <;> omega
theorem cel_p {T : Zt} {p k : Int} (h : EL_ T p k) : 0 < cel_ T p k := by
  obtain ⟨_, j, a, b, c⟩ := h
  exact cen_p a c _ (by omega)
/-- the ways with the club in one of the groups up to g -/
noncomputable def sgm_ (T : Zt) (c g : Int) : Int := (if 0 ≤ g then (nw_ (drw_ T) c 0 (ll_ T) (gf_ T) : Int) else 0) + (if 1 ≤ g then (nw_ (drw_ T) c 1 (ll_ T) (gf_ T) : Int) else 0) + (if 2 ≤ g then (nw_ (drw_ T) c 2 (ll_ T) (gf_ T) : Int) else 0) + (if 3 ≤ g then (nw_ (drw_ T) c 3 (ll_ T) (gf_ T) : Int) else 0)
theorem sgm_s {T : Zt} {c g : Int} (h : -1 ≤ g ∧ g < 3) : sgm_ T c (g + 1) = sgm_ T c g + (nw_ (drw_ T) c (g + 1) (ll_ T) (gf_ T) : Int) := by
  unfold sgm_
  rcases (by omega : g = -1 ∨ g = 0 ∨ g = 1 ∨ g = 2) with z | z | z | z <;> subst z <;> simp <;> omega
theorem sgm_3 {T : Zt} {c : Int} (h0 : 0 ≤ T 111 0 12) (hc : 0 ≤ c ∧ c < T 111 0 12) (hg : T 302 0 c = -1) (hp : 0 ≤ T 301 0 c ∧ T 301 0 c ≤ 2) : sgm_ T c 3 = (nw_ (drw_ T) (-1) (-1) (ll_ T) (gf_ T) : Int) := by
  have k := nw_s (d := drw_ T) (c := c) (by omega) (ll_ T) (gf_ T) (ll_i hc.1 hc.2 hg hp.1 hp.2) (ll_d T) (fun x hx => by have := ll_m h0 hx; omega)
  unfold sgm_
  simp
  omega
theorem sgm_0 {T : Zt} {c : Int} : sgm_ T c (-1) = 0 := by unfold sgm_; simp
abbrev cX11_ways : ByteArray := prog_13_method_116_code
def yX11_ways : MethodName := ⟨RX11, "ways", "()I"⟩
def zX11_ways : Zm := (RX11, cX11_ways, 1, (some .int), { frames := 2, cells := 0, slots := 0, locals := 52 })
set_option maxRecDepth 100000 in
theorem cl_X11_591 : cv_ RX11 591 yX11_countWays zX11_countWays 11 2 := ⟨gi_V (lwq_10 (dqc_m (dqa_m (dqa_m (List.mem_of_getElem? (i := 7) rfl)))) rfl : Cond.methodLink RX11 591 yX11_countWays ∈ lw_g) (lwq_10 (dqc_m (dqa_m (dqa_m (dqa_m (List.mem_of_getElem? (i := 1) rfl))))) rfl : Cond.instanceMethod yX11_countWays ∈ lw_g) (lw_sel 14 rfl : Cond.selects yX11_countWays.cls yX11_countWays yX11_countWays ∈ lw_g) (lwq_1 (dqa_m (List.mem_of_getElem? (i := 2) rfl)) rfl : Cond.initialized yX11_countWays.cls ∈ lw_g) (lwq_10 (dqc_m (dqa_m (dqa_m (dqa_m (List.mem_of_getElem? (i := 2) rfl))))) rfl : Cond.code yX11_countWays cX11_countWays 8 (some .int) ∈ lw_g), ⟨nmh_1.1, nmh_1.2, pdq_4⟩, ⟨_, _, rfl⟩⟩
abbrev po_X11_ways (T : Zt) : Zt → Option Zv → Prop := fun T' r => ∃ x : Int, r = some (vI x) ∧ fr_ [(304, []), (305, []), (302, [])] T T' ∧ (x = x)
abbrev cX11_chanceOf : ByteArray := prog_13_method_117_code
def yX11_chanceOf : MethodName := ⟨RX11, "chanceOf", "(II)I"⟩
def zX11_chanceOf : Zm := (RX11, cX11_chanceOf, 3, (some .int), { frames := 2, cells := 0, slots := 0, locals := 52 })
abbrev cX11_chance : ByteArray := prog_13_method_118_code
def yX11_chance : MethodName := ⟨RX11, "chance", "(II)I"⟩
def zX11_chance : Zm := (RX11, cX11_chance, 3, (some .int), { frames := 3, cells := 0, slots := 0, locals := 74 })
set_option maxRecDepth 100000 in
theorem cl_X11_594 : cv_ RX11 594 yX11_chanceOf zX11_chanceOf 11 2 := ⟨gi_V (lwq_10 (dqc_m (dqc_m (List.mem_of_getElem? (i := 3) rfl))) rfl : Cond.methodLink RX11 594 yX11_chanceOf ∈ lw_g) (lwq_10 (dqc_m (dqc_m (List.mem_of_getElem? (i := 5) rfl))) rfl : Cond.instanceMethod yX11_chanceOf ∈ lw_g) (lw_sel 10 rfl : Cond.selects yX11_chanceOf.cls yX11_chanceOf yX11_chanceOf ∈ lw_g) (lwq_1 (dqa_m (List.mem_of_getElem? (i := 2) rfl)) rfl : Cond.initialized yX11_chanceOf.cls ∈ lw_g) (lwq_10 (dqc_m (dqc_m (List.mem_of_getElem? (i := 6) rfl))) rfl : Cond.code yX11_chanceOf cX11_chanceOf 3 (some .int) ∈ lw_g), ⟨nmh_1.1, nmh_1.2, pdq_4⟩, ⟨_, _, rfl⟩⟩
abbrev po_X11_chance (T : Zt) (cl g : Int) : Zt → Option Zv → Prop := fun T' r => ∃ x : Int, r = some (vI x) ∧ fr_ [(304, []), (305, []), (302, [])] T T' ∧ (x = x)
abbrev cX11_takenBelow : ByteArray := prog_13_method_119_code
def yX11_takenBelow : MethodName := ⟨RX11, "takenBelow", "(I)I"⟩
def zX11_takenBelow : Zm := (RX11, cX11_takenBelow, 5, (some .int), { frames := 0, cells := 0, slots := 0, locals := 0 })
abbrev cX11_ball : ByteArray := prog_13_method_120_code
def yX11_ball : MethodName := ⟨RX11, "ball", "(IZ)I"⟩
def zX11_ball : Zm := (RX11, cX11_ball, 12, (some .int), { frames := 2, cells := 0, slots := 0, locals := 52 })
set_option maxRecDepth 100000 in
theorem cl_X11_604 : cv_ RX11 604 yX11_takenBelow zX11_takenBelow 11 1 := ⟨gi_V (lwq_10 (dqc_m (dqc_m (dqa_m (List.mem_of_getElem? (i := 3) rfl)))) rfl : Cond.methodLink RX11 604 yX11_takenBelow ∈ lw_g) (lwq_10 (dqc_m (dqc_m (dqa_m (List.mem_of_getElem? (i := 5) rfl)))) rfl : Cond.instanceMethod yX11_takenBelow ∈ lw_g) (lw_sel 73 rfl : Cond.selects yX11_takenBelow.cls yX11_takenBelow yX11_takenBelow ∈ lw_g) (lwq_1 (dqa_m (List.mem_of_getElem? (i := 2) rfl)) rfl : Cond.initialized yX11_takenBelow.cls ∈ lw_g) (lwq_10 (dqc_m (dqc_m (dqa_m (List.mem_of_getElem? (i := 6) rfl)))) rfl : Cond.code yX11_takenBelow cX11_takenBelow 5 (some .int) ∈ lw_g), ⟨nmh_1.1, nmh_1.2, pdq_15⟩, ⟨_, _, rfl⟩⟩
abbrev po_X11_ball (T : Zt) (ta fi : Int) : Zt → Option Zv → Prop := fun T' r => ∃ x : Int, r = some (vI x) ∧ fr_ [(304, []), (305, []), (302, []), (111, [103])] T T' ∧ (x = x)
/-- officials and the matches of a day: how far, who may, how many officials, from which match to which -/
abbrev Of_ : Type := (Int → Int → Int) × (Int → Int → Prop) × Int × Int × Int
def Of_.d (F : Of_) : Int → Int → Int := F.1
def Of_.A (F : Of_) : Int → Int → Prop := F.2.1
def Of_.n (F : Of_) : Int := F.2.2.1
def Of_.f (F : Of_) : Int := F.2.2.2.1
def Of_.e (F : Of_) : Int := F.2.2.2.2
def of_d (F : Of_) : Prop := ∀ i o, F.f ≤ i → i < F.e → 0 ≤ o → o < F.n → 0 ≤ F.d i o ∧ F.d i o ≤ 11
/-- the cost at which a match can pass its official on; -1 where there is none -/
def bs_ (F : Of_) (ho far : Int → Int) (i : Int) : Int := if ho i = -1 then 10000 else if far (ho i) < 0 then -1 else far (ho i) - F.d i (ho i)
/-- potentials: no way back is shorter than nothing -/
def po_ (F : Of_) (ho pi : Int → Int) : Prop := (∀ o, 0 ≤ o → o < F.n → 10000 ≤ pi o) ∧ (∀ i, F.f ≤ i → i < F.e → -1 ≤ ho i ∧ ho i < F.n) ∧
  (∀ i o, F.f ≤ i → i < F.e → 0 ≤ o → o < F.n → F.A i o → ho i ≠ o → (ho i = -1 → pi o ≤ 10000 + F.d i o) ∧ (ho i ≠ -1 → pi o ≤ pi (ho i) + F.d i o - F.d i (ho i)))
/-- what the search for ways has: each length stands over the potential, and over that of the official before -/
def fi_ (F : Of_) (ho pi far cb : Int → Int) (st : Int → Nat) (o : Int) : Prop := far o < 0 ∨ (pi o ≤ far o ∧ (F.f ≤ cb o ∧ cb o < F.e) ∧ F.A (cb o) o ∧ ho (cb o) ≠ o ∧
  ((ho (cb o) = -1 ∧ 10000 + F.d (cb o) o ≤ far o) ∨ (ho (cb o) ≠ -1 ∧ 0 ≤ far (ho (cb o)) ∧ far (ho (cb o)) - F.d (cb o) (ho (cb o)) + F.d (cb o) o ≤ far o ∧ (far (ho (cb o)) - F.d (cb o) (ho (cb o)) + F.d (cb o) o = far o → st (ho (cb o)) < st o))))
def fsn_ (f : Int → Nat) (x : Int) (g : Nat) : Int → Nat := fun k => if k = x then g else f k
theorem fsn_s (f : Int → Nat) (x : Int) (g : Nat) : fsn_ f x g x = g := if_pos rfl
theorem fsn_n {f : Int → Nat} {x k : Int} {g : Nat} (h : k ≠ x) : fsn_ f x g k = f k := if_neg h
/-- an official is reached, on a shorter way -/
theorem fi_u {F : Of_} {ho pi far cb : Int → Int} {st : Int → Nat} {c : Nat} {i o : Int} (P : po_ F ho pi) (H : ∀ q, 0 ≤ q → q < F.n → fi_ F ho pi far cb st q) (hc : ∀ q, st q ≤ c)
    (hi : F.f ≤ i ∧ i < F.e) (hA : F.A i o) (hn : ho i ≠ o) (ho0 : 0 ≤ o ∧ o < F.n) (hb : bs_ F ho far i ≠ -1) (hs : far o < 0 ∨ bs_ F ho far i + F.d i o < far o) :
    10000 ≤ bs_ F ho far i + F.d i o ∧ ∀ q, 0 ≤ q → q < F.n → fi_ F ho pi (fu_ far o (bs_ F ho far i + F.d i o)) (fu_ cb o i) (fsn_ st o (c + 1)) q := by
  have pe := P.2.2 i o hi.1 hi.2 ho0.1 ho0.2 hA hn
  have hr := P.2.1 i hi.1 hi.2
  have p0 := P.1 o ho0.1 ho0.2
  have hlen : pi o ≤ bs_ F ho far i + F.d i o ∧ ((ho i = -1 ∧ bs_ F ho far i = 10000) ∨ (ho i ≠ -1 ∧ 0 ≤ far (ho i) ∧ bs_ F ho far i = far (ho i) - F.d i (ho i))) := by
    unfold bs_ at hb ⊢
    by_cases z : ho i = -1
    · rw [if_pos z] at hb ⊢
      exact ⟨by have := pe.1 z; omega, Or.inl ⟨z, rfl⟩⟩
    · rw [if_neg z] at hb ⊢
      by_cases y : far (ho i) < 0
      · rw [if_pos y] at hb; exact absurd rfl hb
      · rw [if_neg y] at hb ⊢
        have q := pe.2 z
        rcases H (ho i) (by omega) (by omega) with w | w
        · exact absurd w y
        · exact ⟨by have := w.1; omega, Or.inr ⟨z, by omega, rfl⟩⟩
  refine ⟨by omega, fun q q0 q1 => ?_⟩
  by_cases z : q = o
  · subst z
    right
    rw [fu_s, fu_s, fsn_s]
    refine ⟨hlen.1, hi, hA, hn, ?_⟩
    rcases hlen.2 with w | w
    · exact Or.inl ⟨w.1, by omega⟩
    · refine Or.inr ⟨w.1, ?_, ?_, fun _ => ?_⟩
      · rw [fu_n hn]; exact w.2.1
      · rw [fu_n hn]; omega
      · rw [fsn_n hn]; have := hc (ho i); omega
  · rcases H q q0 q1 with w | ⟨w1, w2, w3, w4, w5⟩
    · left; rw [fu_n z]; exact w
    · right
      rw [fu_n z, fu_n z, fsn_n z]
      refine ⟨w1, w2, w3, w4, ?_⟩
      rcases w5 with y | ⟨y1, y2, y3, y4⟩
      · exact Or.inl y
      · by_cases x : ho (cb q) = o
        · rw [x] at y1 y2 y3 y4 ⊢
          rw [fu_s, fsn_s]
          refine Or.inr ⟨y1, by omega, by omega, fun h => by omega⟩
        · exact Or.inr ⟨y1, by rw [fu_n x]; exact y2, by rw [fu_n x]; exact y3, by rw [fu_n x, fsn_n x]; exact y4⟩
/-- nothing is left to shorten -/
def rx9_ (F : Of_) (ho far : Int → Int) (i o : Int) : Prop := F.A i o → ho i ≠ o → bs_ F ho far i ≠ -1 → 0 ≤ far o ∧ far o ≤ bs_ F ho far i + F.d i o
/-- all that the search leaves -/
def fx_ (F : Of_) (ho pi far cb : Int → Int) (st : Int → Nat) : Prop := po_ F ho pi ∧ (∀ q, 0 ≤ q → q < F.n → fi_ F ho pi far cb st q) ∧ ∀ i o, F.f ≤ i → i < F.e → 0 ≤ o → o < F.n → rx9_ F ho far i o
theorem bs_n {F : Of_} {ho far pi cb : Int → Int} {st : Int → Nat} (D : of_d F) (P : po_ F ho pi) (H : ∀ q, 0 ≤ q → q < F.n → fi_ F ho pi far cb st q) {i : Int} (hi : F.f ≤ i ∧ i < F.e) : bs_ F ho far i ≠ -1 ↔ (ho i = -1 ∨ 0 ≤ far (ho i)) := by
  have hr := P.2.1 i hi.1 hi.2
  unfold bs_
  by_cases z : ho i = -1
  · rw [if_pos z]; simp [z]
  · rw [if_neg z]
    by_cases y : far (ho i) < 0
    · rw [if_pos y]; constructor
      · intro h; exact absurd rfl h
      · intro h; omega
    · rw [if_neg y]
      rcases H (ho i) (by omega) (by omega) with w | w
      · exact absurd w y
      · have a := P.1 (ho i) (by omega) (by omega)
        have b := D i (ho i) hi.1 hi.2 (by omega) (by omega)
        have c := w.1
        constructor
        · intro _; right; omega
        · intro _; omega
theorem bs_l {F : Of_} {ho far pi cb : Int → Int} {st : Int → Nat} (D : of_d F) (P : po_ F ho pi) (H : ∀ q, 0 ≤ q → q < F.n → fi_ F ho pi far cb st q) {i : Int} (hi : F.f ≤ i ∧ i < F.e) (h : bs_ F ho far i ≠ -1) : 9989 ≤ bs_ F ho far i := by
  have hr := P.2.1 i hi.1 hi.2
  unfold bs_ at h ⊢
  by_cases z : ho i = -1
  · rw [if_pos z]; decide
  · rw [if_neg z] at h ⊢
    by_cases y : far (ho i) < 0
    · rw [if_pos y] at h; exact absurd rfl h
    · rw [if_neg y]
      rcases H (ho i) (by omega) (by omega) with w | w
      · exact absurd w y
      · have a := P.1 (ho i) (by omega) (by omega)
        have b := D i (ho i) hi.1 hi.2 (by omega) (by omega)
        have c := w.1
        omega
/-- an official that is reached: the way by which -/
theorem fx_t {F : Of_} {ho far pi cb : Int → Int} {st : Int → Nat} (D : of_d F) (X : fx_ F ho pi far cb st) {o : Int} (h : 0 ≤ o ∧ o < F.n) (hr : 0 ≤ far o) :
    pi o ≤ far o ∧ (F.f ≤ cb o ∧ cb o < F.e) ∧ F.A (cb o) o ∧ ho (cb o) ≠ o ∧ ((ho (cb o) = -1 ∧ far o = 10000 + F.d (cb o) o) ∨ ((0 ≤ ho (cb o) ∧ ho (cb o) < F.n) ∧ 0 ≤ far (ho (cb o)) ∧ far o = far (ho (cb o)) - F.d (cb o) (ho (cb o)) + F.d (cb o) o ∧ st (ho (cb o)) < st o)) := by
  obtain ⟨P, H, R⟩ := X
  rcases H o h.1 h.2 with w | ⟨w1, w2, w3, w4, w5⟩
  · omega
  · have hh := P.2.1 (cb o) w2.1 w2.2
    refine ⟨w1, w2, w3, w4, ?_⟩
    have r := R (cb o) o w2.1 w2.2 h.1 h.2 w3 w4
    rcases w5 with y | ⟨y1, y2, y3, y4⟩
    · have := r ((bs_n D P H w2).mpr (Or.inl y.1))
      unfold bs_ at this
      rw [if_pos y.1] at this
      exact Or.inl ⟨y.1, by omega⟩
    · have := r ((bs_n D P H w2).mpr (Or.inr y2))
      unfold bs_ at this
      rw [if_neg y1, if_neg (by omega)] at this
      exact Or.inr ⟨by omega, y2, by omega, y4 (by omega)⟩
/-- the new potentials -/
def pn_ (pi far : Int → Int) (D : Int) : Int → Int := fun o => if far o < 0 then pi o + D else if far o ≤ pi o + D then far o else pi o + D
/-- a match that got another official on the way -/
def chg_ (F : Of_) (ho h1 pi far : Int → Int) (D i : Int) : Prop := (0 ≤ h1 i ∧ h1 i < F.n) ∧ 0 ≤ far (h1 i) ∧ far (h1 i) ≤ pi (h1 i) + D ∧
  ((ho i = -1 ∧ far (h1 i) = 10000 + F.d i (h1 i)) ∨ (0 ≤ ho i ∧ 0 ≤ far (ho i) ∧ far (ho i) ≤ pi (ho i) + D ∧ far (h1 i) = far (ho i) - F.d i (ho i) + F.d i (h1 i)))
/-- the state while a way is gone back: o is the official still to be placed -/
def wy_ (F : Of_) (ho h1 pi far : Int → Int) (st : Int → Nat) (D o : Int) : Prop := (o = -1 ∨ ((0 ≤ o ∧ o < F.n) ∧ 0 ≤ far o ∧ far o ≤ pi o + D)) ∧
  ∀ i, F.f ≤ i → i < F.e → h1 i = ho i ∨ (chg_ F ho h1 pi far D i ∧ (o ≠ -1 → ho i ≠ -1 ∧ st o ≤ st (ho i)))
theorem wy_s {F : Of_} {ho h1 far pi cb : Int → Int} {st : Int → Nat} {D o : Int} (Q : of_d F) (X : fx_ F ho pi far cb st) (W : wy_ F ho h1 pi far st D o) (h : o ≠ -1) :
    (F.f ≤ cb o ∧ cb o < F.e) ∧ h1 (cb o) = ho (cb o) ∧ wy_ F ho (fu_ h1 (cb o) o) pi far st D (h1 (cb o)) ∧ (h1 (cb o) = -1 ∨ st (h1 (cb o)) < st o) := by
  obtain ⟨W1, W2⟩ := W
  obtain ⟨ho0, hf, hd⟩ := W1.resolve_left h
  obtain ⟨t1, t2, t3, t4, t5⟩ := fx_t Q X ho0 hf
  have e1 : h1 (cb o) = ho (cb o) := by
    rcases W2 (cb o) t2.1 t2.2 with w | ⟨_, w⟩
    · exact w
    · have := w h
      rcases t5 with y | y
      · exact absurd y.1 this.1
      · omega
  have pe := X.1.2.2 (cb o) o t2.1 t2.2 ho0.1 ho0.2 t3 t4
  refine ⟨t2, e1, ⟨?_, fun i a b => ?_⟩, ?_⟩
  · rw [e1]
    rcases t5 with y | y
    · exact Or.inl y.1
    · have := pe.2 (by omega)
      exact Or.inr ⟨y.1, y.2.1, by omega⟩
  · by_cases z : i = cb o
    · subst z
      right
      refine ⟨?_, fun q => ?_⟩
      · unfold chg_
        rw [fu_s]
        refine ⟨ho0, hf, hd, ?_⟩
        rcases t5 with y | y
        · exact Or.inl y
        · have := pe.2 (by omega)
          exact Or.inr ⟨y.1.1, y.2.1, by omega, y.2.2.1⟩
      · rw [e1] at q ⊢; exact ⟨q, Nat.le_refl _⟩
    · rcases W2 i a b with w | ⟨w1, w2⟩
      · left; rw [fu_n z]; exact w
      · right
        refine ⟨?_, fun q => ?_⟩
        · unfold chg_ at w1 ⊢
          rw [fu_n z]; exact w1
        · have k := w2 h
          refine ⟨k.1, ?_⟩
          rw [e1]
          rcases t5 with y | y
          · rw [e1] at q; exact absurd y.1 q
          · omega
  · rw [e1]
    rcases t5 with y | y
    · exact Or.inl y.1
    · exact Or.inr y.2.2.2
/-- the way is gone back: the new potentials hold -/
theorem wy_e {F : Of_} {ho h1 far pi cb : Int → Int} {st : Int → Nat} {D : Int} (Q : of_d F) (X : fx_ F ho pi far cb st) (hD : 0 ≤ D) (W : wy_ F ho h1 pi far st D (-1)) : po_ F h1 (pn_ pi far D) := by
  obtain ⟨P, H, R⟩ := X
  have pf : ∀ o, 0 ≤ far o → far o ≤ pi o + D → pn_ pi far D o = far o := fun o a b => by unfold pn_; rw [if_neg (by omega), if_pos b]
  have pl : ∀ o, pn_ pi far D o ≤ pi o + D ∧ (0 ≤ far o → pn_ pi far D o ≤ far o) := fun o => by
    unfold pn_
    split
    · exact ⟨by omega, fun h => by omega⟩
    · split <;> exact ⟨by omega, fun h => by omega⟩
  have pg : ∀ o, 0 ≤ o → o < F.n → pi o ≤ pn_ pi far D o := fun o a b => by
    unfold pn_
    split
    · omega
    · split
      · rcases H o a b with w | w
        · omega
        · exact w.1
      · omega
  -- the old way of passing on, under the new potentials
  have old : ∀ i o, F.f ≤ i → i < F.e → 0 ≤ o → o < F.n → F.A i o → ho i ≠ o → (ho i = -1 → pn_ pi far D o ≤ 10000 + F.d i o) ∧ (ho i ≠ -1 → pn_ pi far D o ≤ pn_ pi far D (ho i) + F.d i o - F.d i (ho i)) := fun i o a b c d hA hn => by
    have hr := P.2.1 i a b
    have pe := P.2.2 i o a b c d hA hn
    have r := R i o a b c d hA hn
    constructor
    · intro z
      have k := r ((bs_n Q P H ⟨a, b⟩).mpr (Or.inl z))
      unfold bs_ at k
      rw [if_pos z] at k
      have := (pl o).2 k.1
      omega
    · intro z
      have pe2 := pe.2 z
      have po := pl o
      by_cases y : far (ho i) < 0
      · have e : pn_ pi far D (ho i) = pi (ho i) + D := by unfold pn_; rw [if_pos y]
        rw [e]; omega
      · have k := r ((bs_n Q P H ⟨a, b⟩).mpr (Or.inr (by omega)))
        unfold bs_ at k
        rw [if_neg z, if_neg y] at k
        have po2 := po.2 k.1
        by_cases x : far (ho i) ≤ pi (ho i) + D
        · rw [pf (ho i) (by omega) x]; omega
        · have e : pn_ pi far D (ho i) = pi (ho i) + D := by unfold pn_; rw [if_neg y, if_neg x]
          rw [e]; omega
  refine ⟨fun o a b => Int.le_trans (P.1 o a b) (pg o a b), fun i a b => ?_, fun i o a b c d hA hn => ?_⟩
  · rcases W.2 i a b with w | ⟨w, _⟩
    · rw [w]; exact P.2.1 i a b
    · have := w.1; omega
  · rcases W.2 i a b with w | ⟨⟨w1, w2, w3, w4⟩, _⟩
    · rw [w] at hn ⊢; exact old i o a b c d hA hn
    · refine ⟨fun z => by omega, fun _ => ?_⟩
      rw [pf (h1 i) w2 w3]
      rcases w4 with y | y
      · have := (old i o a b c d hA (by omega)).1 y.1
        omega
      · by_cases x : ho i = o
        · rw [← x, pf (ho i) y.2.1 y.2.2.1]; omega
        · have := (old i o a b c d hA x).2 (by omega)
          rw [pf (ho i) y.2.1 y.2.2.1] at this
          omega
/-- lengths, summed; what is not reached counts 20000 -/
def m1_ (v : Int) : Int := if v < 0 then 20000 else v
def mu8_ (f : Int → Int) : Int := m1_ (f 0) + m1_ (f 1) + m1_ (f 2) + m1_ (f 3) + m1_ (f 4) + m1_ (f 5) + m1_ (f 6) + m1_ (f 7)
def r1_ (v : Int) : Int := if v < 0 then 0 else 1
def rc8_ (f : Int → Int) : Int := r1_ (f 0) + r1_ (f 1) + r1_ (f 2) + r1_ (f 3) + r1_ (f 4) + r1_ (f 5) + r1_ (f 6) + r1_ (f 7)
theorem m1_n (v : Int) : 0 ≤ m1_ v := by unfold m1_; split <;> omega
theorem r1_n (v : Int) : 0 ≤ r1_ v ∧ r1_ v ≤ 1 := by unfold r1_; split <;> omega
theorem mu8_n (f : Int → Int) : 0 ≤ mu8_ f := by
  have a0 := m1_n (f 0); have a1 := m1_n (f 1); have a2 := m1_n (f 2); have a3 := m1_n (f 3); have a4 := m1_n (f 4); have a5 := m1_n (f 5); have a6 := m1_n (f 6); have a7 := m1_n (f 7)
  unfold mu8_; omega
theorem rc8_n (f : Int → Int) : 0 ≤ rc8_ f ∧ rc8_ f ≤ 8 := by
  have a0 := r1_n (f 0); have a1 := r1_n (f 1); have a2 := r1_n (f 2); have a3 := r1_n (f 3); have a4 := r1_n (f 4); have a5 := r1_n (f 5); have a6 := r1_n (f 6); have a7 := r1_n (f 7)
  unfold rc8_; omega
theorem mu8_u {f : Int → Int} {o v : Int} (h : 0 ≤ o ∧ o < 8) : mu8_ (fu_ f o v) = mu8_ f - m1_ (f o) + m1_ v ∧ rc8_ (fu_ f o v) = rc8_ f - r1_ (f o) + r1_ v := by
  unfold mu8_ rc8_ fu_
  rcases (by omega : o = 0 ∨ o = 1 ∨ o = 2 ∨ o = 3 ∨ o = 4 ∨ o = 5 ∨ o = 6 ∨ o = 7) with z | z | z | z | z | z | z | z <;> subst z <;> simp <;> omega
/-- the lengths are within what their number allows -/
def fb_ (n : Int) (f : Int → Int) : Prop := ∀ o, 0 ≤ o → o < n → f o ≤ 10000 + 11 * rc8_ f
theorem fb_u {n : Int} {f : Int → Int} {o v : Int} (h : fb_ n f) (hn : n ≤ 8) (ho : 0 ≤ o ∧ o < n) (hs : f o < 0 ∨ v < f o) (h0 : 0 ≤ v) (hv : v ≤ 10011 + 11 * rc8_ f) : fb_ n (fu_ f o v) ∧ mu8_ (fu_ f o v) < mu8_ f := by
  have k := mu8_u (f := f) (o := o) (v := v) (by omega)
  have r0 := rc8_n f
  have hb := h o ho.1 ho.2
  have e1 : m1_ v = v ∧ r1_ v = 1 := by unfold m1_ r1_; rw [if_neg (by omega), if_neg (by omega)]; exact ⟨rfl, rfl⟩
  by_cases z : f o < 0
  · have e2 : m1_ (f o) = 20000 ∧ r1_ (f o) = 0 := by unfold m1_ r1_; rw [if_pos z, if_pos z]; exact ⟨rfl, rfl⟩
    refine ⟨fun q a b => ?_, by omega⟩
    by_cases y : q = o
    · rw [y, fu_s]; omega
    · rw [fu_n y]; have := h q a b; omega
  · have e2 : m1_ (f o) = f o ∧ r1_ (f o) = 1 := by unfold m1_ r1_; rw [if_neg z, if_neg z]; exact ⟨rfl, rfl⟩
    refine ⟨fun q a b => ?_, by omega⟩
    by_cases y : q = o
    · rw [y, fu_s]; omega
    · rw [fu_n y]; have := h q a b; omega
def fm9_ (mr mu : Int) : Nat := if mr = 0 then 0 else (mu + 1).toNat
theorem fm9_l {mr mr' mu mu' : Int} (h : mr ≠ 0) (h0 : 0 ≤ mu) (h1 : 0 ≤ mu') (k : mr' = 0 ∨ mu' < mu) : fm9_ mr' mu' < fm9_ mr mu := by
  unfold fm9_
  rw [if_neg h]
  split <;> omega
/-- how many hold no match -/
def nh_ (f : Int → Int) : Int := r1_ (-1 - f 0) + r1_ (-1 - f 1) + r1_ (-1 - f 2) + r1_ (-1 - f 3) + r1_ (-1 - f 4) + r1_ (-1 - f 5) + r1_ (-1 - f 6) + r1_ (-1 - f 7)
theorem nh_n (f : Int → Int) : 0 ≤ nh_ f := by
  have a0 := r1_n (-1 - f 0); have a1 := r1_n (-1 - f 1); have a2 := r1_n (-1 - f 2); have a3 := r1_n (-1 - f 3); have a4 := r1_n (-1 - f 4); have a5 := r1_n (-1 - f 5); have a6 := r1_n (-1 - f 6); have a7 := r1_n (-1 - f 7)
  unfold nh_; omega
theorem nh_l {f g : Int → Int} {o : Int} (ho : 0 ≤ o ∧ o < 8) (h : ∀ k, 0 ≤ k → k < 8 → -1 ≤ g k ∧ (f k ≠ -1 → g k ≠ -1)) (hf : ∀ k, 0 ≤ k → k < 8 → -1 ≤ f k) (h1 : f o = -1) (h2 : g o ≠ -1) : nh_ g < nh_ f := by
  have k : ∀ q, 0 ≤ q → q < 8 → r1_ (-1 - g q) + (if q = o then 1 else 0) ≤ r1_ (-1 - f q) := fun q a b => by
    have p := h q a b
    have p2 := hf q a b
    unfold r1_
    by_cases z : q = o
    · subst z
      rw [if_pos (by omega), if_pos rfl, if_neg (by omega)]; decide
    · rw [if_neg z]
      by_cases y : f q = -1
      · rw [if_neg (show ¬ (-1 - f q < 0) by omega)]; split <;> omega
      · rw [if_pos (show -1 - g q < 0 by omega), if_pos (show -1 - f q < 0 by omega)]; decide
  have k0 := k 0 (by decide) (by decide); have k1 := k 1 (by decide) (by decide); have k2 := k 2 (by decide) (by decide); have k3 := k 3 (by decide) (by decide); have k4 := k 4 (by decide) (by decide); have k5 := k 5 (by decide) (by decide); have k6 := k 6 (by decide) (by decide); have k7 := k 7 (by decide) (by decide)
  unfold nh_
  have s : (if (0 : Int) = o then (1 : Int) else 0) + (if (1 : Int) = o then 1 else 0) + (if (2 : Int) = o then 1 else 0) + (if (3 : Int) = o then 1 else 0) + (if (4 : Int) = o then 1 else 0) + (if (5 : Int) = o then 1 else 0) + (if (6 : Int) = o then 1 else 0) + (if (7 : Int) = o then 1 else 0) = 1 := by
    rcases (by omega : o = 0 ∨ o = 1 ∨ o = 2 ∨ o = 3 ∨ o = 4 ∨ o = 5 ∨ o = 6 ∨ o = 7) with z | z | z | z | z | z | z | z <;> subst z <;> decide
  omega
def di_ (T : Zt) (m o : Int) : Int := if (T 222 0 o - T 213 0 (T 232 0 m)) < 0 then -(T 222 0 o - T 213 0 (T 232 0 m)) else (T 222 0 o - T 213 0 (T 232 0 m))
def ld_ (T : Zt) (m o : Int) : Prop := T 223 0 o ≠ T 214 0 (T 232 0 m) ∧ T 223 0 o ≠ T 214 0 (T 233 0 m)
abbrev cX11_mayLead : ByteArray := prog_13_method_122_code
def yX11_mayLead : MethodName := ⟨RX11, "mayLead", "(II)Z"⟩
def zX11_mayLead : Zm := (RX11, cX11_mayLead, 3, (some .boolean), { frames := 0, cells := 0, slots := 0, locals := 0 })
theorem bk_X11_mayLead_0 : ck_ fX11 (some .boolean) cX11_mayLead 0 [.aload 0, .tableswitch 0 11 23 #[], .iload 2, .iaload, .aload 0, .tableswitch 0 11 14 #[], .aload 0, .tableswitch 0 11 32 #[], .iload 1, .iaload, .iaload, .if_icmp .eq 44, .aload 0, .tableswitch 0 11 23 #[], .iload 2, .iaload, .aload 0, .tableswitch 0 11 14 #[], .aload 0, .tableswitch 0 11 33 #[], .iload 1, .iaload, .iaload, .if_icmp .eq 44, .iconst 1, .goto 45] 44 = true := qck_r (nn_ _) (by decide +kernel)
theorem bs_X11_mayLead_0 {P : Zt → Option Zv → Prop} (K : Int → Zl → List Zv → Zt → Prop) : sx_ K P [.aload 0, .tableswitch 0 11 23 #[], .iload 2, .iaload, .aload 0, .tableswitch 0 11 14 #[], .aload 0, .tableswitch 0 11 32 #[], .iload 1, .iaload, .iaload, .if_icmp .eq 44, .aload 0, .tableswitch 0 11 23 #[], .iload 2, .iaload, .aload 0, .tableswitch 0 11 14 #[], .aload 0, .tableswitch 0 11 33 #[], .iload 1, .iaload, .iaload, .if_icmp .eq 44, .iconst 1, .goto 45] 44 = x_aload 0 (x_g1 111 223 (x_iload 2 (x_iaload (x_aload 0 (x_g1 111 214 (x_aload 0 (x_g1 111 232 (x_iload 1 (x_iaload (x_iaload (x_if_icmp .eq 44 K (x_aload 0 (x_g1 111 223 (x_iload 2 (x_iaload (x_aload 0 (x_g1 111 214 (x_aload 0 (x_g1 111 233 (x_iload 1 (x_iaload (x_iaload (x_if_icmp .eq 44 K (x_iconst 1 (x_goto 45 K))))))))))))))))))))))))) := ((xe_aload 0).trans (congrArg (x_aload 0) ((xe_g1 (kk := 111) rfl tl_11_23).trans (congrArg (x_g1 111 223) ((xe_iload 2).trans (congrArg (x_iload 2) ((xe_iaload).trans (congrArg (x_iaload) ((xe_aload 0).trans (congrArg (x_aload 0) ((xe_g1 (kk := 111) rfl tl_11_14).trans (congrArg (x_g1 111 214) ((xe_aload 0).trans (congrArg (x_aload 0) ((xe_g1 (kk := 111) rfl tl_11_32).trans (congrArg (x_g1 111 232) ((xe_iload 1).trans (congrArg (x_iload 1) ((xe_iaload).trans (congrArg (x_iaload) ((xe_iaload).trans (congrArg (x_iaload) ((xe_if_icmp .eq 44).trans (congrArg (x_if_icmp .eq 44 K) ((xe_aload 0).trans (congrArg (x_aload 0) ((xe_g1 (kk := 111) rfl tl_11_23).trans (congrArg (x_g1 111 223) ((xe_iload 2).trans (congrArg (x_iload 2) ((xe_iaload).trans (congrArg (x_iaload) ((xe_aload 0).trans (congrArg (x_aload 0) ((xe_g1 (kk := 111) rfl tl_11_14).trans (congrArg (x_g1 111 214) ((xe_aload 0).trans (congrArg (x_aload 0) ((xe_g1 (kk := 111) rfl tl_11_33).trans (congrArg (x_g1 111 233) ((xe_iload 1).trans (congrArg (x_iload 1) ((xe_iaload).trans (congrArg (x_iaload) ((xe_iaload).trans (congrArg (x_iaload) ((xe_if_icmp .eq 44).trans (congrArg (x_if_icmp .eq 44 K) ((xe_iconst 1).trans (congrArg (x_iconst 1) (xe_goto 45)))))))))))))))))))))))))))))))))))))))))))))))))))
theorem bk_X11_mayLead_44 : ck_ fX11 (some .boolean) cX11_mayLead 44 [.iconst 0, .ireturn] 46 = true := qck_r (nn_ _) (by decide +kernel)
theorem bs_X11_mayLead_44 {P : Zt → Option Zv → Prop} (K : Int → Zl → List Zv → Zt → Prop) : sx_ K P [.iconst 0, .ireturn] 46 = x_iconst 0 (x_ireturn P) := ((xe_iconst 0).trans (congrArg (x_iconst 0) (xe_ireturn)))
theorem bk_X11_mayLead_45 : ck_ fX11 (some .boolean) cX11_mayLead 45 [.ireturn] 46 = true := qck_r (nn_ _) (by decide +kernel)
theorem bs_X11_mayLead_45 {P : Zt → Option Zv → Prop} (K : Int → Zl → List Zv → Zt → Prop) : sx_ K P [.ireturn] 46 = x_ireturn P := (xe_ireturn)
abbrev po_X11_mayLead (T : Zt) (m o : Int) : Zt → Option Zv → Prop := fun T' r => T = T' ∧ ∃ x : Int, r = some (vI x) ∧ ((x = 1 ∧ ld_ T m o) ∨ (x = 0 ∧ ¬ ld_ T m o))
set_option maxHeartbeats 4000000 in
theorem ct_X11_mayLead {T : Zt} {m o : Int} (h1 : 0 ≤ m ∧ m < 400) (h2 : 0 ≤ o ∧ o < 8) : Ct_ yX11_mayLead zX11_mayLead T [vR 111 0, vI m, vI o] (po_X11_mayLead T m o) := by
  refine ct_of pn_11 rfl rfl (Nat.le_of_ble_eq_true rfl) (fun hT hav => ?_)
  have hr_m : -2147483648 ≤ m ∧ m ≤ 2147483647 := hav (vI m) (List.mem_cons_of_mem _ List.mem_cons_self)
  have hr_o : -2147483648 ≤ o ∧ o ≤ 2147483647 := hav (vI o) (List.mem_cons_of_mem _ (List.mem_cons_of_mem _ List.mem_cons_self))
  have hz : zX11_mayLead.2.2.2.1 = some .boolean → ∀ (T' : Zt) (x : Int), po_X11_mayLead T m o T' (some (vI x)) → 0 ≤ x ∧ x ≤ 1 := fun _ T' x h => by obtain ⟨-, y, e, hy⟩ := h; cases e; rcases hy with z | z <;> omega
  show J_ zX11_mayLead T (po_X11_mayLead T m o) 0 0 0 [some (vR 111 0), some (vI m), some (vI o)] [] T
  refine j_blx (F := fX11) tb_X11 (nn_ _) bk_X11_mayLead_0 bs_X11_mayLead_0 hz (fun K hK => ?_)
  refine ix_i (by omega) ?_
  intro b1 b1b
  refine ix_i (by omega) ?_
  intro b2 b2b
  refine ix_i (by omega) ?_
  intro b3 b3b
  refine And.intro (fun c4 => ?_) (fun c4 => ?_)
  · refine hK 44 _ [] T ?_
    refine j_blx (F := fX11) tb_X11 (nn_ _) bk_X11_mayLead_44 bs_X11_mayLead_44 hz (fun K hK => ?_)
    refine (show po_X11_mayLead T m o T (some (vI 0)) from ?_)
    exact ⟨rfl, _, rfl, Or.inr ⟨rfl, by unfold ld_; omega⟩⟩
  · refine ix_i (by omega) ?_
    intro b5 b5b
    refine ix_i (by omega) ?_
    intro b6 b6b
    refine ix_i (by omega) ?_
    intro b7 b7b
    refine And.intro (fun c8 => ?_) (fun c8 => ?_)
    · refine hK 44 _ [] T ?_
      refine j_blx (F := fX11) tb_X11 (nn_ _) bk_X11_mayLead_44 bs_X11_mayLead_44 hz (fun K hK => ?_)
      refine (show po_X11_mayLead T m o T (some (vI 0)) from ?_)
      exact ⟨rfl, _, rfl, Or.inr ⟨rfl, by unfold ld_; omega⟩⟩
    · refine hK 45 _ [vI 1] T ?_
      refine j_blx (F := fX11) tb_X11 (nn_ _) bk_X11_mayLead_45 bs_X11_mayLead_45 hz (fun K hK => ?_)
      refine (show po_X11_mayLead T m o T (some (vI 1)) from ?_)
      exact ⟨rfl, _, rfl, Or.inl ⟨rfl, by unfold ld_; omega⟩⟩
abbrev cX11_distanceOf : ByteArray := prog_13_method_123_code
def yX11_distanceOf : MethodName := ⟨RX11, "distanceOf", "(II)I"⟩
def zX11_distanceOf : Zm := (RX11, cX11_distanceOf, 4, (some .int), { frames := 0, cells := 0, slots := 0, locals := 0 })
theorem bk_X11_distanceOf_0 : ck_ fX11 (some .int) cX11_distanceOf 0 [.aload 0, .tableswitch 0 11 22 #[], .iload 2, .iaload, .aload 0, .tableswitch 0 11 13 #[], .aload 0, .tableswitch 0 11 32 #[], .iload 1, .iaload, .iaload, .isub, .istore 3, .iload 3, .ifCond .ge 28, .iload 3, .ineg, .goto 29] 28 = true := qck_r (nn_ _) (by decide +kernel)
theorem bs_X11_distanceOf_0 {P : Zt → Option Zv → Prop} (K : Int → Zl → List Zv → Zt → Prop) : sx_ K P [.aload 0, .tableswitch 0 11 22 #[], .iload 2, .iaload, .aload 0, .tableswitch 0 11 13 #[], .aload 0, .tableswitch 0 11 32 #[], .iload 1, .iaload, .iaload, .isub, .istore 3, .iload 3, .ifCond .ge 28, .iload 3, .ineg, .goto 29] 28 = x_aload 0 (x_g1 111 222 (x_iload 2 (x_iaload (x_aload 0 (x_g1 111 213 (x_aload 0 (x_g1 111 232 (x_iload 1 (x_iaload (x_iaload (x_isub (x_istore 3 (x_iload 3 (x_ifCond .ge 28 K (x_iload 3 (x_ineg (x_goto 29 K))))))))))))))))) := ((xe_aload 0).trans (congrArg (x_aload 0) ((xe_g1 (kk := 111) rfl tl_11_22).trans (congrArg (x_g1 111 222) ((xe_iload 2).trans (congrArg (x_iload 2) ((xe_iaload).trans (congrArg (x_iaload) ((xe_aload 0).trans (congrArg (x_aload 0) ((xe_g1 (kk := 111) rfl tl_11_13).trans (congrArg (x_g1 111 213) ((xe_aload 0).trans (congrArg (x_aload 0) ((xe_g1 (kk := 111) rfl tl_11_32).trans (congrArg (x_g1 111 232) ((xe_iload 1).trans (congrArg (x_iload 1) ((xe_iaload).trans (congrArg (x_iaload) ((xe_iaload).trans (congrArg (x_iaload) ((xe_isub).trans (congrArg (x_isub) ((xe_istore 3).trans (congrArg (x_istore 3) ((xe_iload 3).trans (congrArg (x_iload 3) ((xe_ifCond .ge 28).trans (congrArg (x_ifCond .ge 28 K) ((xe_iload 3).trans (congrArg (x_iload 3) ((xe_ineg).trans (congrArg (x_ineg) (xe_goto 29)))))))))))))))))))))))))))))))))))
theorem bk_X11_distanceOf_28 : ck_ fX11 (some .int) cX11_distanceOf 28 [.iload 3, .ireturn] 30 = true := qck_r (nn_ _) (by decide +kernel)
theorem bs_X11_distanceOf_28 {P : Zt → Option Zv → Prop} (K : Int → Zl → List Zv → Zt → Prop) : sx_ K P [.iload 3, .ireturn] 30 = x_iload 3 (x_ireturn P) := ((xe_iload 3).trans (congrArg (x_iload 3) (xe_ireturn)))
theorem bk_X11_distanceOf_29 : ck_ fX11 (some .int) cX11_distanceOf 29 [.ireturn] 30 = true := qck_r (nn_ _) (by decide +kernel)
theorem bs_X11_distanceOf_29 {P : Zt → Option Zv → Prop} (K : Int → Zl → List Zv → Zt → Prop) : sx_ K P [.ireturn] 30 = x_ireturn P := (xe_ireturn)
abbrev po_X11_distanceOf (T : Zt) (m o : Int) : Zt → Option Zv → Prop := fun T' r => T = T' ∧ r = some (vI (di_ T m o))
set_option maxHeartbeats 4000000 in
theorem ct_X11_distanceOf {T : Zt} {m o : Int} (h1 : 0 ≤ m ∧ m < 400) (h2 : 0 ≤ o ∧ o < 8) : Ct_ yX11_distanceOf zX11_distanceOf T [vR 111 0, vI m, vI o] (po_X11_distanceOf T m o) := by
  refine ct_of pn_11 rfl rfl (Nat.le_of_ble_eq_true rfl) (fun hT hav => ?_)
  have hr_m : -2147483648 ≤ m ∧ m ≤ 2147483647 := hav (vI m) (List.mem_cons_of_mem _ List.mem_cons_self)
  have hr_o : -2147483648 ≤ o ∧ o ≤ 2147483647 := hav (vI o) (List.mem_cons_of_mem _ (List.mem_cons_of_mem _ List.mem_cons_self))
  have hz : zX11_distanceOf.2.2.2.1 = some .boolean → ∀ (T' : Zt) (x : Int), po_X11_distanceOf T m o T' (some (vI x)) → 0 ≤ x ∧ x ≤ 1 := fun h => by cases h
  show J_ zX11_distanceOf T (po_X11_distanceOf T m o) 0 0 0 [some (vR 111 0), some (vI m), some (vI o), none] [] T
  refine j_blx (F := fX11) tb_X11 (nn_ _) bk_X11_distanceOf_0 bs_X11_distanceOf_0 hz (fun K hK => ?_)
  refine ix_i (by omega) ?_
  intro b1 b1b
  refine ix_i (by omega) ?_
  intro b2 b2b
  refine ix_i (by omega) ?_
  intro b3 b3b
  refine rg_i (by omega) ?_
  refine And.intro (fun c4 => ?_) (fun c4 => ?_)
  · refine hK 28 [some (vR 111 0), some (vI m), some (vI o), some (vI ((T 222 0 o) - (T 213 0 (T 232 0 m))))] [] T ?_
    refine j_blx (F := fX11) tb_X11 (nn_ _) bk_X11_distanceOf_28 bs_X11_distanceOf_28 hz (fun K hK => ?_)
    refine (show po_X11_distanceOf T m o T (some (vI ((T 222 0 o) - (T 213 0 (T 232 0 m))))) from ?_)
    exact ⟨rfl, by unfold di_; first | rw [if_pos (by omega)] | rw [if_neg (by omega)]⟩
  · refine rg_i (by omega) ?_
    refine hK 29 _ [vI (-((T 222 0 o) - (T 213 0 (T 232 0 m))))] T ?_
    refine j_blx (F := fX11) tb_X11 (nn_ _) bk_X11_distanceOf_29 bs_X11_distanceOf_29 hz (fun K hK => ?_)
    refine (show po_X11_distanceOf T m o T (some (vI (-((T 222 0 o) - (T 213 0 (T 232 0 m)))))) from ?_)
    exact ⟨rfl, by unfold di_; first | rw [if_pos (by omega)] | rw [if_neg (by omega)]⟩
abbrev cX11_reach : ByteArray := prog_13_method_124_code
def yX11_reach : MethodName := ⟨RX11, "reach", "(III)Z"⟩
def zX11_reach : Zm := (RX11, cX11_reach, 5, (some .boolean), { frames := 0, cells := 0, slots := 0, locals := 0 })
theorem bk_X11_reach_0 : ck_ fX11 (some .boolean) cX11_reach 0 [.aload 0, .tableswitch 0 11 109 #[], .iload 2, .iaload, .ifCond .lt 19, .iload 3, .aload 0, .tableswitch 0 11 109 #[], .iload 2, .iaload, .if_icmp .ge 23, .iconst 1, .goto 24] 23 = true := qck_r (nn_ _) (by decide +kernel)
theorem bs_X11_reach_0 {P : Zt → Option Zv → Prop} (K : Int → Zl → List Zv → Zt → Prop) : sx_ K P [.aload 0, .tableswitch 0 11 109 #[], .iload 2, .iaload, .ifCond .lt 19, .iload 3, .aload 0, .tableswitch 0 11 109 #[], .iload 2, .iaload, .if_icmp .ge 23, .iconst 1, .goto 24] 23 = x_aload 0 (x_g1 111 309 (x_iload 2 (x_iaload (x_ifCond .lt 19 K (x_iload 3 (x_aload 0 (x_g1 111 309 (x_iload 2 (x_iaload (x_if_icmp .ge 23 K (x_iconst 1 (x_goto 24 K)))))))))))) := ((xe_aload 0).trans (congrArg (x_aload 0) ((xe_g1 (kk := 111) rfl tl_11_109).trans (congrArg (x_g1 111 309) ((xe_iload 2).trans (congrArg (x_iload 2) ((xe_iaload).trans (congrArg (x_iaload) ((xe_ifCond .lt 19).trans (congrArg (x_ifCond .lt 19 K) ((xe_iload 3).trans (congrArg (x_iload 3) ((xe_aload 0).trans (congrArg (x_aload 0) ((xe_g1 (kk := 111) rfl tl_11_109).trans (congrArg (x_g1 111 309) ((xe_iload 2).trans (congrArg (x_iload 2) ((xe_iaload).trans (congrArg (x_iaload) ((xe_if_icmp .ge 23).trans (congrArg (x_if_icmp .ge 23 K) ((xe_iconst 1).trans (congrArg (x_iconst 1) (xe_goto 24)))))))))))))))))))))))))
theorem bk_X11_reach_19 : ck_ fX11 (some .boolean) cX11_reach 19 [.iconst 1, .goto 24] 23 = true := qck_r (nn_ _) (by decide +kernel)
theorem bs_X11_reach_19 {P : Zt → Option Zv → Prop} (K : Int → Zl → List Zv → Zt → Prop) : sx_ K P [.iconst 1, .goto 24] 23 = x_iconst 1 (x_goto 24 K) := ((xe_iconst 1).trans (congrArg (x_iconst 1) (xe_goto 24)))
theorem bk_X11_reach_24 : ck_ fX11 (some .boolean) cX11_reach 24 [.istore 4, .aload 0, .tableswitch 0 11 109 #[], .iload 2, .iload 4, .ifCond .eq 40, .iload 3, .goto 46] 40 = true := qck_r (nn_ _) (by decide +kernel)
theorem bs_X11_reach_24 {P : Zt → Option Zv → Prop} (K : Int → Zl → List Zv → Zt → Prop) : sx_ K P [.istore 4, .aload 0, .tableswitch 0 11 109 #[], .iload 2, .iload 4, .ifCond .eq 40, .iload 3, .goto 46] 40 = x_istore 4 (x_aload 0 (x_g1 111 309 (x_iload 2 (x_iload 4 (x_ifCond .eq 40 K (x_iload 3 (x_goto 46 K))))))) := ((xe_istore 4).trans (congrArg (x_istore 4) ((xe_aload 0).trans (congrArg (x_aload 0) ((xe_g1 (kk := 111) rfl tl_11_109).trans (congrArg (x_g1 111 309) ((xe_iload 2).trans (congrArg (x_iload 2) ((xe_iload 4).trans (congrArg (x_iload 4) ((xe_ifCond .eq 40).trans (congrArg (x_ifCond .eq 40 K) ((xe_iload 3).trans (congrArg (x_iload 3) (xe_goto 46)))))))))))))))
theorem bk_X11_reach_46 : ck_ fX11 (some .boolean) cX11_reach 46 [.iastore, .aload 0, .tableswitch 0 11 110 #[], .iload 2, .iload 4, .ifCond .eq 61, .iload 1, .goto 67] 61 = true := qck_r (nn_ _) (by decide +kernel)
theorem bs_X11_reach_46 {P : Zt → Option Zv → Prop} (K : Int → Zl → List Zv → Zt → Prop) : sx_ K P [.iastore, .aload 0, .tableswitch 0 11 110 #[], .iload 2, .iload 4, .ifCond .eq 61, .iload 1, .goto 67] 61 = x_iastore (x_aload 0 (x_g1 111 310 (x_iload 2 (x_iload 4 (x_ifCond .eq 61 K (x_iload 1 (x_goto 67 K))))))) := ((xe_iastore).trans (congrArg (x_iastore) ((xe_aload 0).trans (congrArg (x_aload 0) ((xe_g1 (kk := 111) rfl tl_11_110).trans (congrArg (x_g1 111 310) ((xe_iload 2).trans (congrArg (x_iload 2) ((xe_iload 4).trans (congrArg (x_iload 4) ((xe_ifCond .eq 61).trans (congrArg (x_ifCond .eq 61 K) ((xe_iload 1).trans (congrArg (x_iload 1) (xe_goto 67)))))))))))))))
theorem bk_X11_reach_67 : ck_ fX11 (some .boolean) cX11_reach 67 [.iastore, .iload 4, .ireturn] 71 = true := qck_r (nn_ _) (by decide +kernel)
theorem bs_X11_reach_67 {P : Zt → Option Zv → Prop} (K : Int → Zl → List Zv → Zt → Prop) : sx_ K P [.iastore, .iload 4, .ireturn] 71 = x_iastore (x_iload 4 (x_ireturn P)) := ((xe_iastore).trans (congrArg (x_iastore) ((xe_iload 4).trans (congrArg (x_iload 4) (xe_ireturn)))))
theorem bk_X11_reach_23 : ck_ fX11 (some .boolean) cX11_reach 23 [.iconst 0, .istore 4, .aload 0, .tableswitch 0 11 109 #[], .iload 2, .iload 4, .ifCond .eq 40, .iload 3, .goto 46] 40 = true := qck_r (nn_ _) (by decide +kernel)
theorem bs_X11_reach_23 {P : Zt → Option Zv → Prop} (K : Int → Zl → List Zv → Zt → Prop) : sx_ K P [.iconst 0, .istore 4, .aload 0, .tableswitch 0 11 109 #[], .iload 2, .iload 4, .ifCond .eq 40, .iload 3, .goto 46] 40 = x_iconst 0 (x_istore 4 (x_aload 0 (x_g1 111 309 (x_iload 2 (x_iload 4 (x_ifCond .eq 40 K (x_iload 3 (x_goto 46 K)))))))) := ((xe_iconst 0).trans (congrArg (x_iconst 0) ((xe_istore 4).trans (congrArg (x_istore 4) ((xe_aload 0).trans (congrArg (x_aload 0) ((xe_g1 (kk := 111) rfl tl_11_109).trans (congrArg (x_g1 111 309) ((xe_iload 2).trans (congrArg (x_iload 2) ((xe_iload 4).trans (congrArg (x_iload 4) ((xe_ifCond .eq 40).trans (congrArg (x_ifCond .eq 40 K) ((xe_iload 3).trans (congrArg (x_iload 3) (xe_goto 46)))))))))))))))))
theorem bk_X11_reach_40 : ck_ fX11 (some .boolean) cX11_reach 40 [.aload 0, .tableswitch 0 11 109 #[], .iload 2, .iaload, .iastore, .aload 0, .tableswitch 0 11 110 #[], .iload 2, .iload 4, .ifCond .eq 61, .iload 1, .goto 67] 61 = true := qck_r (nn_ _) (by decide +kernel)
theorem bs_X11_reach_40 {P : Zt → Option Zv → Prop} (K : Int → Zl → List Zv → Zt → Prop) : sx_ K P [.aload 0, .tableswitch 0 11 109 #[], .iload 2, .iaload, .iastore, .aload 0, .tableswitch 0 11 110 #[], .iload 2, .iload 4, .ifCond .eq 61, .iload 1, .goto 67] 61 = x_aload 0 (x_g1 111 309 (x_iload 2 (x_iaload (x_iastore (x_aload 0 (x_g1 111 310 (x_iload 2 (x_iload 4 (x_ifCond .eq 61 K (x_iload 1 (x_goto 67 K))))))))))) := ((xe_aload 0).trans (congrArg (x_aload 0) ((xe_g1 (kk := 111) rfl tl_11_109).trans (congrArg (x_g1 111 309) ((xe_iload 2).trans (congrArg (x_iload 2) ((xe_iaload).trans (congrArg (x_iaload) ((xe_iastore).trans (congrArg (x_iastore) ((xe_aload 0).trans (congrArg (x_aload 0) ((xe_g1 (kk := 111) rfl tl_11_110).trans (congrArg (x_g1 111 310) ((xe_iload 2).trans (congrArg (x_iload 2) ((xe_iload 4).trans (congrArg (x_iload 4) ((xe_ifCond .eq 61).trans (congrArg (x_ifCond .eq 61 K) ((xe_iload 1).trans (congrArg (x_iload 1) (xe_goto 67)))))))))))))))))))))))
theorem bk_X11_reach_61 : ck_ fX11 (some .boolean) cX11_reach 61 [.aload 0, .tableswitch 0 11 110 #[], .iload 2, .iaload, .iastore, .iload 4, .ireturn] 71 = true := qck_r (nn_ _) (by decide +kernel)
theorem bs_X11_reach_61 {P : Zt → Option Zv → Prop} (K : Int → Zl → List Zv → Zt → Prop) : sx_ K P [.aload 0, .tableswitch 0 11 110 #[], .iload 2, .iaload, .iastore, .iload 4, .ireturn] 71 = x_aload 0 (x_g1 111 310 (x_iload 2 (x_iaload (x_iastore (x_iload 4 (x_ireturn P)))))) := ((xe_aload 0).trans (congrArg (x_aload 0) ((xe_g1 (kk := 111) rfl tl_11_110).trans (congrArg (x_g1 111 310) ((xe_iload 2).trans (congrArg (x_iload 2) ((xe_iaload).trans (congrArg (x_iaload) ((xe_iastore).trans (congrArg (x_iastore) ((xe_iload 4).trans (congrArg (x_iload 4) (xe_ireturn)))))))))))))
abbrev po_X11_reach (T : Zt) (i o l : Int) : Zt → Option Zv → Prop := fun T' r => ∃ x : Int, r = some (vI x) ∧ fr_ [(309, []), (310, [])] T T' ∧ ((x = 1 ∧ (T 309 0 o < 0 ∨ l < T 309 0 o) ∧ (fun k => T' 309 0 k) = fu_ (fun k => T 309 0 k) o l ∧ (fun k => T' 310 0 k) = fu_ (fun k => T 310 0 k) o i) ∨ (x = 0 ∧ 0 ≤ T 309 0 o ∧ T 309 0 o ≤ l ∧ (fun k => T' 309 0 k) = (fun k => T 309 0 k) ∧ (fun k => T' 310 0 k) = (fun k => T 310 0 k)))
set_option maxHeartbeats 4000000 in
theorem ct_X11_reach {T : Zt} {i o l : Int} (h1 : 0 ≤ i ∧ i < 400) (h2 : 0 ≤ o ∧ o < 8) : Ct_ yX11_reach zX11_reach T [vR 111 0, vI i, vI o, vI l] (po_X11_reach T i o l) := by
  refine ct_of pn_11 rfl rfl (Nat.le_of_ble_eq_true rfl) (fun hT hav => ?_)
  have hr_i : -2147483648 ≤ i ∧ i ≤ 2147483647 := hav (vI i) (List.mem_cons_of_mem _ List.mem_cons_self)
  have hr_o : -2147483648 ≤ o ∧ o ≤ 2147483647 := hav (vI o) (List.mem_cons_of_mem _ (List.mem_cons_of_mem _ List.mem_cons_self))
  have hr_l : -2147483648 ≤ l ∧ l ≤ 2147483647 := hav (vI l) (List.mem_cons_of_mem _ (List.mem_cons_of_mem _ (List.mem_cons_of_mem _ List.mem_cons_self)))
  have hz : zX11_reach.2.2.2.1 = some .boolean → ∀ (T' : Zt) (x : Int), po_X11_reach T i o l T' (some (vI x)) → 0 ≤ x ∧ x ≤ 1 := fun _ T' x h => by obtain ⟨y, e, -, hy⟩ := h; cases e; rcases hy with z | z <;> omega
  show J_ zX11_reach T (po_X11_reach T i o l) 0 0 0 [some (vR 111 0), some (vI i), some (vI o), some (vI l), none] [] T
  refine j_blx (F := fX11) tb_X11 (nn_ _) bk_X11_reach_0 bs_X11_reach_0 hz (fun K hK => ?_)
  refine ix_i (by omega) ?_
  intro b1 b1b
  refine And.intro (fun c2 => ?_) (fun c2 => ?_)
  · refine hK 19 _ [] T ?_
    refine j_blx (F := fX11) tb_X11 (nn_ _) bk_X11_reach_19 bs_X11_reach_19 hz (fun K hK => ?_)
    refine hK 24 _ [vI 1] T ?_
    refine j_blx (F := fX11) tb_X11 (nn_ _) bk_X11_reach_24 bs_X11_reach_24 hz (fun K hK => ?_)
    refine And.intro (fun c3 => ?_) (fun c3 => ?_)
    · exact absurd c3 (by decide)
    · refine hK 46 [some (vR 111 0), some (vI i), some (vI o), some (vI l), some (vI 1)] [vI l, vI o, vR 309 0] T ?_
      refine j_blx (F := fX11) tb_X11 (nn_ _) bk_X11_reach_46 bs_X11_reach_46 hz (fun K hK => ?_)
      refine iy_i (by omega) (by omega) ?_
      refine x_nm (fun U4 hU4 => ?_)
      have e5 := up_f hU4
      refine And.intro (fun c6 => ?_) (fun c6 => ?_)
      · exact absurd c6 (by decide)
      · refine hK 67 _ [vI i, vI o, vR 310 0] U4 ?_
        refine j_blx (F := fX11) tb_X11 (nn_ _) bk_X11_reach_67 bs_X11_reach_67 hz (fun K hK => ?_)
        refine iy_i (by omega) (by omega) ?_
        refine x_nm (fun U7 hU7 => ?_)
        have e8 := up_f hU7
        refine (show po_X11_reach T i o l U7 (some (vI 1)) from ?_)
        have ea : (fun k => U7 309 0 k) = fu_ (fun k => T 309 0 k) o l := funext (fun k => by
            by_cases z : k = o
            · rw [z, up_k hU7 (by exact Nat.ne_of_beq_eq_false rfl), up_f hU4, fu_s]
            · rw [up_k hU7 (by exact Nat.ne_of_beq_eq_false rfl), up_g hU4 (fun q => z q.2.2), fu_n z])
        have eb : (fun k => U7 310 0 k) = fu_ (fun k => T 310 0 k) o i := funext (fun k => by
            by_cases z : k = o
            · rw [z, up_f hU7, fu_s]
            · rw [up_g hU7 (fun q => z q.2.2), up_k hU4 (by exact Nat.ne_of_beq_eq_false rfl), fu_n z])
        exact ⟨_, rfl, fr_u (fr_u (fr_0 _ _) hU4 rfl) hU7 rfl, Or.inl ⟨rfl, by omega, ea, eb⟩⟩
  · refine ix_i (by omega) ?_
    intro b9 b9b
    refine And.intro (fun c10 => ?_) (fun c10 => ?_)
    · refine hK 23 _ [] T ?_
      refine j_blx (F := fX11) tb_X11 (nn_ _) bk_X11_reach_23 bs_X11_reach_23 hz (fun K hK => ?_)
      refine And.intro (fun c11 => ?_) (fun c11 => ?_)
      · refine hK 40 [some (vR 111 0), some (vI i), some (vI o), some (vI l), some (vI 0)] [vI o, vR 309 0] T ?_
        refine j_blx (F := fX11) tb_X11 (nn_ _) bk_X11_reach_40 bs_X11_reach_40 hz (fun K hK => ?_)
        refine ix_i (by omega) ?_
        intro b12 b12b
        refine iy_i (by omega) (by omega) ?_
        refine x_nm (fun U13 hU13 => ?_)
        have e14 := up_f hU13
        refine And.intro (fun c15 => ?_) (fun c15 => ?_)
        · refine hK 61 _ [vI o, vR 310 0] U13 ?_
          refine j_blx (F := fX11) tb_X11 (nn_ _) bk_X11_reach_61 bs_X11_reach_61 hz (fun K hK => ?_)
          refine ix_i (by omega) ?_
          intro b16 b16b
          have e17 : U13 310 0 o = T 310 0 o := up_k hU13 (by exact Nat.ne_of_beq_eq_false rfl) 0 o
          rw [e17] at b16 b16b ⊢
          refine iy_i (by omega) (by omega) ?_
          refine x_nm (fun U18 hU18 => ?_)
          have e19 := up_f hU18
          refine (show po_X11_reach T i o l U18 (some (vI 0)) from ?_)
          have ea : (fun k => U18 309 0 k) = (fun k => T 309 0 k) := funext (fun k => by
              by_cases z : k = o
              · rw [z, up_k hU18 (by exact Nat.ne_of_beq_eq_false rfl), up_f hU13]
              · rw [up_k hU18 (by exact Nat.ne_of_beq_eq_false rfl), up_g hU13 (fun q => z q.2.2)])
          have eb : (fun k => U18 310 0 k) = (fun k => T 310 0 k) := funext (fun k => by
              by_cases z : k = o
              · rw [z, up_f hU18]
              · rw [up_g hU18 (fun q => z q.2.2), up_k hU13 (by exact Nat.ne_of_beq_eq_false rfl)])
          exact ⟨_, rfl, fr_u (fr_u (fr_0 _ _) hU13 rfl) hU18 rfl, Or.inr ⟨rfl, by omega, by omega, ea, eb⟩⟩
        · exact absurd c15 (by decide)
      · exact absurd c11 (by decide)
    · refine hK 24 _ [vI 1] T ?_
      refine j_blx (F := fX11) tb_X11 (nn_ _) bk_X11_reach_24 bs_X11_reach_24 hz (fun K hK => ?_)
      refine And.intro (fun c20 => ?_) (fun c20 => ?_)
      · exact absurd c20 (by decide)
      · refine hK 46 [some (vR 111 0), some (vI i), some (vI o), some (vI l), some (vI 1)] [vI l, vI o, vR 309 0] T ?_
        refine j_blx (F := fX11) tb_X11 (nn_ _) bk_X11_reach_46 bs_X11_reach_46 hz (fun K hK => ?_)
        refine iy_i (by omega) (by omega) ?_
        refine x_nm (fun U21 hU21 => ?_)
        have e22 := up_f hU21
        refine And.intro (fun c23 => ?_) (fun c23 => ?_)
        · exact absurd c23 (by decide)
        · refine hK 67 _ [vI i, vI o, vR 310 0] U21 ?_
          refine j_blx (F := fX11) tb_X11 (nn_ _) bk_X11_reach_67 bs_X11_reach_67 hz (fun K hK => ?_)
          refine iy_i (by omega) (by omega) ?_
          refine x_nm (fun U24 hU24 => ?_)
          have e25 := up_f hU24
          refine (show po_X11_reach T i o l U24 (some (vI 1)) from ?_)
          have ea : (fun k => U24 309 0 k) = fu_ (fun k => T 309 0 k) o l := funext (fun k => by
              by_cases z : k = o
              · rw [z, up_k hU24 (by exact Nat.ne_of_beq_eq_false rfl), up_f hU21, fu_s]
              · rw [up_k hU24 (by exact Nat.ne_of_beq_eq_false rfl), up_g hU21 (fun q => z q.2.2), fu_n z])
          have eb : (fun k => U24 310 0 k) = fu_ (fun k => T 310 0 k) o i := funext (fun k => by
              by_cases z : k = o
              · rw [z, up_f hU24, fu_s]
              · rw [up_g hU24 (fun q => z q.2.2), up_k hU21 (by exact Nat.ne_of_beq_eq_false rfl), fu_n z])
          exact ⟨_, rfl, fr_u (fr_u (fr_0 _ _) hU21 rfl) hU24 rfl, Or.inl ⟨rfl, by omega, ea, eb⟩⟩
def ofs_ (T : Zt) (tk f : Int) : Of_ := ⟨fun i o => di_ T (T 306 0 i) o, fun i o => an_ (sr_ tk o) 1 = 0 ∧ ld_ T (T 306 0 i) o, T 111 0 21, f, T 111 0 107⟩
def gh_ (T : Zt) : Int → Int := fun k => T 311 0 k
def far_ (T : Zt) : Int → Int := fun k => T 309 0 k
def cby_ (T : Zt) : Int → Int := fun k => T 310 0 k
/-- the search's state -/
def FQ_ (T T1 : Zt) (tk f : Int) (pi : Int → Int) (st : Int → Nat) (c : Nat) : Prop := (∀ q, 0 ≤ q → q < T 111 0 21 → fi_ (ofs_ T tk f) (gh_ T) pi (far_ T1) (cby_ T1) st q) ∧ (∀ q, st q ≤ c) ∧ fb_ (T 111 0 21) (far_ T1)
theorem fq_e {T T1 T2 : Zt} {tk f : Int} {pi : Int → Int} {st : Int → Nat} {c : Nat} (h : FQ_ T T1 tk f pi st c) (a : far_ T2 = far_ T1) (b : cby_ T2 = cby_ T1) : FQ_ T T2 tk f pi st c := by
  unfold FQ_; rw [a, b]; exact h
theorem di_e {T T1 : Zt} {m o : Int} (a : ∀ k, T1 222 0 k = T 222 0 k) (b : ∀ k, T1 213 0 k = T 213 0 k) (c : ∀ k, T1 232 0 k = T 232 0 k) : di_ T1 m o = di_ T m o := by
  unfold di_; rw [a, b, c]
theorem ld_e {T T1 : Zt} {m o : Int} (a : ∀ k, T1 223 0 k = T 223 0 k) (b : ∀ k, T1 214 0 k = T 214 0 k) (c : ∀ k, T1 232 0 k = T 232 0 k) (d : ∀ k, T1 233 0 k = T 233 0 k) : ld_ T1 m o ↔ ld_ T m o := by
  unfold ld_; rw [a, b, b, c, d]
/-- nothing to shorten before match i, and none at i before official o -/
def RL_ (T T1 : Zt) (tk f i o : Int) : Prop := (∀ j q, f ≤ j → j < i → 0 ≤ q → q < T 111 0 21 → rx9_ (ofs_ T tk f) (gh_ T) (far_ T1) j q) ∧ ∀ q, 0 ≤ q → q < o → rx9_ (ofs_ T tk f) (gh_ T) (far_ T1) i q
/-- how the lengths have sunk since T1 -/
def PG_ (T1 T2 : Zt) (mr : Int) : Prop := mu8_ (far_ T2) ≤ mu8_ (far_ T1) ∧ (mr ≠ 0 → mu8_ (far_ T2) < mu8_ (far_ T1))
theorem of_9 {T : Zt} {tk f : Int} (hd : ∀ i o, f ≤ i → i < T 111 0 107 → 0 ≤ o → o < T 111 0 21 → 0 ≤ di_ T (T 306 0 i) o ∧ di_ T (T 306 0 i) o ≤ 11) : of_d (ofs_ T tk f) := hd
abbrev cX11_findPaths : ByteArray := prog_13_method_125_code
def yX11_findPaths : MethodName := ⟨RX11, "findPaths", "(II)V"⟩
def zX11_findPaths : Zm := (RX11, cX11_findPaths, 8, none, { frames := 1, cells := 0, slots := 0, locals := 24 })
theorem bk_X11_findPaths_115 : ck_ fX11 none cX11_findPaths 115 [.iload 6, .aload 0, .tableswitch 0 11 21 #[], .if_icmp .ge 222, .iload 5, .iconst (-1), .if_icmp .eq 222, .iload 2, .iload 6, .ishr, .iconst 1, .iand, .ifCond .ne 171, .aload 0, .tableswitch 0 11 111 #[], .iload 4, .iaload, .iload 6, .if_icmp .eq 171, .aload 0, .aload 0, .tableswitch 0 11 106 #[], .iload 4, .iaload, .iload 6] 161 = true := qck_r (nn_ _) (by decide +kernel)
theorem bs_X11_findPaths_115 {P : Zt → Option Zv → Prop} (K : Int → Zl → List Zv → Zt → Prop) : sx_ K P [.iload 6, .aload 0, .tableswitch 0 11 21 #[], .if_icmp .ge 222, .iload 5, .iconst (-1), .if_icmp .eq 222, .iload 2, .iload 6, .ishr, .iconst 1, .iand, .ifCond .ne 171, .aload 0, .tableswitch 0 11 111 #[], .iload 4, .iaload, .iload 6, .if_icmp .eq 171, .aload 0, .aload 0, .tableswitch 0 11 106 #[], .iload 4, .iaload, .iload 6] 161 = x_iload 6 (x_aload 0 (x_g0 111 21 0 8 (x_if_icmp .ge 222 K (x_iload 5 (x_iconst (-1) (x_if_icmp .eq 222 K (x_iload 2 (x_iload 6 (x_ishr (x_iconst 1 (x_iand (x_ifCond .ne 171 K (x_aload 0 (x_g1 111 311 (x_iload 4 (x_iaload (x_iload 6 (x_if_icmp .eq 171 K (x_aload 0 (x_aload 0 (x_g1 111 306 (x_iload 4 (x_iaload (x_iload 6 (K 161))))))))))))))))))))))))) := ((xe_iload 6).trans (congrArg (x_iload 6) ((xe_aload 0).trans (congrArg (x_aload 0) ((xe_g0 (kk := 111) rfl tl_11_21).trans (congrArg (x_g0 111 21 0 8) ((xe_if_icmp .ge 222).trans (congrArg (x_if_icmp .ge 222 K) ((xe_iload 5).trans (congrArg (x_iload 5) ((xe_iconst (-1)).trans (congrArg (x_iconst (-1)) ((xe_if_icmp .eq 222).trans (congrArg (x_if_icmp .eq 222 K) ((xe_iload 2).trans (congrArg (x_iload 2) ((xe_iload 6).trans (congrArg (x_iload 6) ((xe_ishr).trans (congrArg (x_ishr) ((xe_iconst 1).trans (congrArg (x_iconst 1) ((xe_iand).trans (congrArg (x_iand) ((xe_ifCond .ne 171).trans (congrArg (x_ifCond .ne 171 K) ((xe_aload 0).trans (congrArg (x_aload 0) ((xe_g1 (kk := 111) rfl tl_11_111).trans (congrArg (x_g1 111 311) ((xe_iload 4).trans (congrArg (x_iload 4) ((xe_iaload).trans (congrArg (x_iaload) ((xe_iload 6).trans (congrArg (x_iload 6) ((xe_if_icmp .eq 171).trans (congrArg (x_if_icmp .eq 171 K) ((xe_aload 0).trans (congrArg (x_aload 0) ((xe_aload 0).trans (congrArg (x_aload 0) ((xe_g1 (kk := 111) rfl tl_11_106).trans (congrArg (x_g1 111 306) ((xe_iload 4).trans (congrArg (x_iload 4) ((xe_iaload).trans (congrArg (x_iaload) ((xe_iload 6).trans (congrArg (x_iload 6) xe_nil))))))))))))))))))))))))))))))))))))))))))))))))))
theorem bk_X11_findPaths_222 : ck_ fX11 none cX11_findPaths 222 [.iinc 4 1, .goto 34] 228 = true := qck_r (nn_ _) (by decide +kernel)
theorem bs_X11_findPaths_222 {P : Zt → Option Zv → Prop} (K : Int → Zl → List Zv → Zt → Prop) : sx_ K P [.iinc 4 1, .goto 34] 228 = x_iinc 4 1 (x_goto 34 K) := ((xe_iinc 4 1).trans (congrArg (x_iinc 4 1) (xe_goto 34)))
theorem bk_X11_findPaths_171 : ck_ fX11 none cX11_findPaths 171 [.iconst 0, .istore 7, .iload 7, .ifCond .eq 206, .aload 0, .iload 4, .iload 6, .iload 5, .aload 0, .aload 0, .tableswitch 0 11 106 #[], .iload 4, .iaload, .iload 6] 196 = true := qck_r (nn_ _) (by decide +kernel)
theorem bs_X11_findPaths_171 {P : Zt → Option Zv → Prop} (K : Int → Zl → List Zv → Zt → Prop) : sx_ K P [.iconst 0, .istore 7, .iload 7, .ifCond .eq 206, .aload 0, .iload 4, .iload 6, .iload 5, .aload 0, .aload 0, .tableswitch 0 11 106 #[], .iload 4, .iaload, .iload 6] 196 = x_iconst 0 (x_istore 7 (x_iload 7 (x_ifCond .eq 206 K (x_aload 0 (x_iload 4 (x_iload 6 (x_iload 5 (x_aload 0 (x_aload 0 (x_g1 111 306 (x_iload 4 (x_iaload (x_iload 6 (K 196)))))))))))))) := ((xe_iconst 0).trans (congrArg (x_iconst 0) ((xe_istore 7).trans (congrArg (x_istore 7) ((xe_iload 7).trans (congrArg (x_iload 7) ((xe_ifCond .eq 206).trans (congrArg (x_ifCond .eq 206 K) ((xe_aload 0).trans (congrArg (x_aload 0) ((xe_iload 4).trans (congrArg (x_iload 4) ((xe_iload 6).trans (congrArg (x_iload 6) ((xe_iload 5).trans (congrArg (x_iload 5) ((xe_aload 0).trans (congrArg (x_aload 0) ((xe_aload 0).trans (congrArg (x_aload 0) ((xe_g1 (kk := 111) rfl tl_11_106).trans (congrArg (x_g1 111 306) ((xe_iload 4).trans (congrArg (x_iload 4) ((xe_iaload).trans (congrArg (x_iaload) ((xe_iload 6).trans (congrArg (x_iload 6) xe_nil))))))))))))))))))))))))))))
theorem bk_X11_findPaths_206 : ck_ fX11 none cX11_findPaths 206 [.iload 3, .ifCond .eq 214, .iconst 1, .goto 215] 214 = true := qck_r (nn_ _) (by decide +kernel)
theorem bs_X11_findPaths_206 {P : Zt → Option Zv → Prop} (K : Int → Zl → List Zv → Zt → Prop) : sx_ K P [.iload 3, .ifCond .eq 214, .iconst 1, .goto 215] 214 = x_iload 3 (x_ifCond .eq 214 K (x_iconst 1 (x_goto 215 K))) := ((xe_iload 3).trans (congrArg (x_iload 3) ((xe_ifCond .eq 214).trans (congrArg (x_ifCond .eq 214 K) ((xe_iconst 1).trans (congrArg (x_iconst 1) (xe_goto 215)))))))
theorem bk_X11_findPaths_214 : ck_ fX11 none cX11_findPaths 214 [.iconst 0, .istore 3, .iinc 6 1, .goto 115] 222 = true := qck_r (nn_ _) (by decide +kernel)
theorem bs_X11_findPaths_214 {P : Zt → Option Zv → Prop} (K : Int → Zl → List Zv → Zt → Prop) : sx_ K P [.iconst 0, .istore 3, .iinc 6 1, .goto 115] 222 = x_iconst 0 (x_istore 3 (x_iinc 6 1 (x_goto 115 K))) := ((xe_iconst 0).trans (congrArg (x_iconst 0) ((xe_istore 3).trans (congrArg (x_istore 3) ((xe_iinc 6 1).trans (congrArg (x_iinc 6 1) (xe_goto 115)))))))
theorem bk_X11_findPaths_215 : ck_ fX11 none cX11_findPaths 215 [.istore 3, .iinc 6 1, .goto 115] 222 = true := qck_r (nn_ _) (by decide +kernel)
theorem bs_X11_findPaths_215 {P : Zt → Option Zv → Prop} (K : Int → Zl → List Zv → Zt → Prop) : sx_ K P [.istore 3, .iinc 6 1, .goto 115] 222 = x_istore 3 (x_iinc 6 1 (x_goto 115 K)) := ((xe_istore 3).trans (congrArg (x_istore 3) ((xe_iinc 6 1).trans (congrArg (x_iinc 6 1) (xe_goto 115)))))
set_option maxRecDepth 100000 in
theorem cl_X11_613 : cv_ RX11 613 yX11_mayLead zX11_mayLead 11 2 := ⟨gi_V (lwq_10 (dqc_m (dqc_m (dqc_m (List.mem_of_getElem? (i := 6) rfl)))) rfl : Cond.methodLink RX11 613 yX11_mayLead ∈ lw_g) (lwq_10 (dqc_m (dqc_m (dqc_m (dqa_m (List.mem_of_getElem? (i := 0) rfl))))) rfl : Cond.instanceMethod yX11_mayLead ∈ lw_g) (lw_sel 37 rfl : Cond.selects yX11_mayLead.cls yX11_mayLead yX11_mayLead ∈ lw_g) (lwq_1 (dqa_m (List.mem_of_getElem? (i := 2) rfl)) rfl : Cond.initialized yX11_mayLead.cls ∈ lw_g) (lwq_10 (dqc_m (dqc_m (dqc_m (dqa_m (List.mem_of_getElem? (i := 1) rfl))))) rfl : Cond.code yX11_mayLead cX11_mayLead 3 (some .boolean) ∈ lw_g), ⟨nmh_1.1, nmh_1.2, pdq_5⟩, ⟨_, _, rfl⟩⟩
theorem bk_X11_findPaths_164 : ck_ fX11 none cX11_findPaths 164 [.ifCond .eq 171, .iconst 1, .goto 172] 171 = true := qck_r (nn_ _) (by decide +kernel)
theorem bs_X11_findPaths_164 {P : Zt → Option Zv → Prop} (K : Int → Zl → List Zv → Zt → Prop) : sx_ K P [.ifCond .eq 171, .iconst 1, .goto 172] 171 = x_ifCond .eq 171 K (x_iconst 1 (x_goto 172 K)) := ((xe_ifCond .eq 171).trans (congrArg (x_ifCond .eq 171 K) ((xe_iconst 1).trans (congrArg (x_iconst 1) (xe_goto 172)))))
theorem bk_X11_findPaths_172 : ck_ fX11 none cX11_findPaths 172 [.istore 7, .iload 7, .ifCond .eq 206, .aload 0, .iload 4, .iload 6, .iload 5, .aload 0, .aload 0, .tableswitch 0 11 106 #[], .iload 4, .iaload, .iload 6] 196 = true := qck_r (nn_ _) (by decide +kernel)
theorem bs_X11_findPaths_172 {P : Zt → Option Zv → Prop} (K : Int → Zl → List Zv → Zt → Prop) : sx_ K P [.istore 7, .iload 7, .ifCond .eq 206, .aload 0, .iload 4, .iload 6, .iload 5, .aload 0, .aload 0, .tableswitch 0 11 106 #[], .iload 4, .iaload, .iload 6] 196 = x_istore 7 (x_iload 7 (x_ifCond .eq 206 K (x_aload 0 (x_iload 4 (x_iload 6 (x_iload 5 (x_aload 0 (x_aload 0 (x_g1 111 306 (x_iload 4 (x_iaload (x_iload 6 (K 196))))))))))))) := ((xe_istore 7).trans (congrArg (x_istore 7) ((xe_iload 7).trans (congrArg (x_iload 7) ((xe_ifCond .eq 206).trans (congrArg (x_ifCond .eq 206 K) ((xe_aload 0).trans (congrArg (x_aload 0) ((xe_iload 4).trans (congrArg (x_iload 4) ((xe_iload 6).trans (congrArg (x_iload 6) ((xe_iload 5).trans (congrArg (x_iload 5) ((xe_aload 0).trans (congrArg (x_aload 0) ((xe_aload 0).trans (congrArg (x_aload 0) ((xe_g1 (kk := 111) rfl tl_11_106).trans (congrArg (x_g1 111 306) ((xe_iload 4).trans (congrArg (x_iload 4) ((xe_iaload).trans (congrArg (x_iaload) ((xe_iload 6).trans (congrArg (x_iload 6) xe_nil))))))))))))))))))))))))))
set_option maxRecDepth 100000 in
theorem cl_X11_610 : cv_ RX11 610 yX11_distanceOf zX11_distanceOf 11 2 := ⟨gi_V (lwq_10 (dqc_m (dqc_m (dqc_m (List.mem_of_getElem? (i := 2) rfl)))) rfl : Cond.methodLink RX11 610 yX11_distanceOf ∈ lw_g) (lwq_10 (dqc_m (dqc_m (dqc_m (List.mem_of_getElem? (i := 4) rfl)))) rfl : Cond.instanceMethod yX11_distanceOf ∈ lw_g) (lw_sel 16 rfl : Cond.selects yX11_distanceOf.cls yX11_distanceOf yX11_distanceOf ∈ lw_g) (lwq_1 (dqa_m (List.mem_of_getElem? (i := 2) rfl)) rfl : Cond.initialized yX11_distanceOf.cls ∈ lw_g) (lwq_10 (dqc_m (dqc_m (dqc_m (List.mem_of_getElem? (i := 5) rfl)))) rfl : Cond.code yX11_distanceOf cX11_distanceOf 4 (some .int) ∈ lw_g), ⟨nmh_1.1, nmh_1.2, pdq_4⟩, ⟨_, _, rfl⟩⟩
theorem bk_X11_findPaths_199 : ck_ fX11 none cX11_findPaths 199 [.iadd] 200 = true := qck_r (nn_ _) (by decide +kernel)
theorem bs_X11_findPaths_199 {P : Zt → Option Zv → Prop} (K : Int → Zl → List Zv → Zt → Prop) : sx_ K P [.iadd] 200 = x_iadd (K 200) := ((xe_iadd).trans (congrArg (x_iadd) xe_nil))
set_option maxRecDepth 100000 in
theorem cl_X11_616 : cv_ RX11 616 yX11_reach zX11_reach 11 3 := ⟨gi_V (lwq_10 (dqc_m (dqc_m (dqc_m (dqa_m (List.mem_of_getElem? (i := 2) rfl))))) rfl : Cond.methodLink RX11 616 yX11_reach ∈ lw_g) (lwq_10 (dqc_m (dqc_m (dqc_m (dqa_m (List.mem_of_getElem? (i := 4) rfl))))) rfl : Cond.instanceMethod yX11_reach ∈ lw_g) (lw_sel 53 rfl : Cond.selects yX11_reach.cls yX11_reach yX11_reach ∈ lw_g) (lwq_1 (dqa_m (List.mem_of_getElem? (i := 2) rfl)) rfl : Cond.initialized yX11_reach.cls ∈ lw_g) (lwq_10 (dqc_m (dqc_m (dqc_m (dqa_m (List.mem_of_getElem? (i := 5) rfl))))) rfl : Cond.code yX11_reach cX11_reach 5 (some .boolean) ∈ lw_g), ⟨nmh_1.1, nmh_1.2, pdq_11⟩, ⟨_, _, rfl⟩⟩
theorem bk_X11_findPaths_203 : ck_ fX11 none cX11_findPaths 203 [.ifCond .ne 210, .iload 3, .ifCond .eq 214, .iconst 1, .goto 215] 214 = true := qck_r (nn_ _) (by decide +kernel)
theorem bs_X11_findPaths_203 {P : Zt → Option Zv → Prop} (K : Int → Zl → List Zv → Zt → Prop) : sx_ K P [.ifCond .ne 210, .iload 3, .ifCond .eq 214, .iconst 1, .goto 215] 214 = x_ifCond .ne 210 K (x_iload 3 (x_ifCond .eq 214 K (x_iconst 1 (x_goto 215 K)))) := ((xe_ifCond .ne 210).trans (congrArg (x_ifCond .ne 210 K) ((xe_iload 3).trans (congrArg (x_iload 3) ((xe_ifCond .eq 214).trans (congrArg (x_ifCond .eq 214 K) ((xe_iconst 1).trans (congrArg (x_iconst 1) (xe_goto 215)))))))))
theorem bk_X11_findPaths_210 : ck_ fX11 none cX11_findPaths 210 [.iconst 1, .goto 215] 214 = true := qck_r (nn_ _) (by decide +kernel)
theorem bs_X11_findPaths_210 {P : Zt → Option Zv → Prop} (K : Int → Zl → List Zv → Zt → Prop) : sx_ K P [.iconst 1, .goto 215] 214 = x_iconst 1 (x_goto 215 K) := ((xe_iconst 1).trans (congrArg (x_iconst 1) (xe_goto 215)))
theorem bk_X11_findPaths_34 : ck_ fX11 none cX11_findPaths 34 [.iload 4, .aload 0, .tableswitch 0 11 107 #[], .if_icmp .ge 228, .aload 0, .tableswitch 0 11 111 #[], .iload 4, .iaload, .iconst (-1), .if_icmp .ne 60, .iconst 10000, .goto 110] 60 = true := qck_r (nn_ _) (by decide +kernel)
theorem bs_X11_findPaths_34 {P : Zt → Option Zv → Prop} (K : Int → Zl → List Zv → Zt → Prop) : sx_ K P [.iload 4, .aload 0, .tableswitch 0 11 107 #[], .if_icmp .ge 228, .aload 0, .tableswitch 0 11 111 #[], .iload 4, .iaload, .iconst (-1), .if_icmp .ne 60, .iconst 10000, .goto 110] 60 = x_iload 4 (x_aload 0 (x_g0 111 107 0 400 (x_if_icmp .ge 228 K (x_aload 0 (x_g1 111 311 (x_iload 4 (x_iaload (x_iconst (-1) (x_if_icmp .ne 60 K (x_iconst 10000 (x_goto 110 K))))))))))) := ((xe_iload 4).trans (congrArg (x_iload 4) ((xe_aload 0).trans (congrArg (x_aload 0) ((xe_g0 (kk := 111) rfl tl_11_107).trans (congrArg (x_g0 111 107 0 400) ((xe_if_icmp .ge 228).trans (congrArg (x_if_icmp .ge 228 K) ((xe_aload 0).trans (congrArg (x_aload 0) ((xe_g1 (kk := 111) rfl tl_11_111).trans (congrArg (x_g1 111 311) ((xe_iload 4).trans (congrArg (x_iload 4) ((xe_iaload).trans (congrArg (x_iaload) ((xe_iconst (-1)).trans (congrArg (x_iconst (-1)) ((xe_if_icmp .ne 60).trans (congrArg (x_if_icmp .ne 60 K) ((xe_iconst 10000).trans (congrArg (x_iconst 10000) (xe_goto 110)))))))))))))))))))))))
theorem bk_X11_findPaths_228 : ck_ fX11 none cX11_findPaths 228 [.goto 25] 231 = true := qck_r (nn_ _) (by decide +kernel)
theorem bs_X11_findPaths_228 {P : Zt → Option Zv → Prop} (K : Int → Zl → List Zv → Zt → Prop) : sx_ K P [.goto 25] 231 = x_goto 25 K := (xe_goto 25)
theorem bk_X11_findPaths_60 : ck_ fX11 none cX11_findPaths 60 [.aload 0, .tableswitch 0 11 109 #[], .aload 0, .tableswitch 0 11 111 #[], .iload 4, .iaload, .iaload, .ifCond .ge 79, .iconst (-1), .goto 110] 79 = true := qck_r (nn_ _) (by decide +kernel)
theorem bs_X11_findPaths_60 {P : Zt → Option Zv → Prop} (K : Int → Zl → List Zv → Zt → Prop) : sx_ K P [.aload 0, .tableswitch 0 11 109 #[], .aload 0, .tableswitch 0 11 111 #[], .iload 4, .iaload, .iaload, .ifCond .ge 79, .iconst (-1), .goto 110] 79 = x_aload 0 (x_g1 111 309 (x_aload 0 (x_g1 111 311 (x_iload 4 (x_iaload (x_iaload (x_ifCond .ge 79 K (x_iconst (-1) (x_goto 110 K))))))))) := ((xe_aload 0).trans (congrArg (x_aload 0) ((xe_g1 (kk := 111) rfl tl_11_109).trans (congrArg (x_g1 111 309) ((xe_aload 0).trans (congrArg (x_aload 0) ((xe_g1 (kk := 111) rfl tl_11_111).trans (congrArg (x_g1 111 311) ((xe_iload 4).trans (congrArg (x_iload 4) ((xe_iaload).trans (congrArg (x_iaload) ((xe_iaload).trans (congrArg (x_iaload) ((xe_ifCond .ge 79).trans (congrArg (x_ifCond .ge 79 K) ((xe_iconst (-1)).trans (congrArg (x_iconst (-1)) (xe_goto 110)))))))))))))))))))
theorem bk_X11_findPaths_79 : ck_ fX11 none cX11_findPaths 79 [.aload 0, .tableswitch 0 11 109 #[], .aload 0, .tableswitch 0 11 111 #[], .iload 4, .iaload, .iaload, .aload 0, .aload 0, .tableswitch 0 11 106 #[], .iload 4, .iaload, .aload 0, .tableswitch 0 11 111 #[], .iload 4, .iaload] 106 = true := qck_r (nn_ _) (by decide +kernel)
theorem bs_X11_findPaths_79 {P : Zt → Option Zv → Prop} (K : Int → Zl → List Zv → Zt → Prop) : sx_ K P [.aload 0, .tableswitch 0 11 109 #[], .aload 0, .tableswitch 0 11 111 #[], .iload 4, .iaload, .iaload, .aload 0, .aload 0, .tableswitch 0 11 106 #[], .iload 4, .iaload, .aload 0, .tableswitch 0 11 111 #[], .iload 4, .iaload] 106 = x_aload 0 (x_g1 111 309 (x_aload 0 (x_g1 111 311 (x_iload 4 (x_iaload (x_iaload (x_aload 0 (x_aload 0 (x_g1 111 306 (x_iload 4 (x_iaload (x_aload 0 (x_g1 111 311 (x_iload 4 (x_iaload (K 106)))))))))))))))) := ((xe_aload 0).trans (congrArg (x_aload 0) ((xe_g1 (kk := 111) rfl tl_11_109).trans (congrArg (x_g1 111 309) ((xe_aload 0).trans (congrArg (x_aload 0) ((xe_g1 (kk := 111) rfl tl_11_111).trans (congrArg (x_g1 111 311) ((xe_iload 4).trans (congrArg (x_iload 4) ((xe_iaload).trans (congrArg (x_iaload) ((xe_iaload).trans (congrArg (x_iaload) ((xe_aload 0).trans (congrArg (x_aload 0) ((xe_aload 0).trans (congrArg (x_aload 0) ((xe_g1 (kk := 111) rfl tl_11_106).trans (congrArg (x_g1 111 306) ((xe_iload 4).trans (congrArg (x_iload 4) ((xe_iaload).trans (congrArg (x_iaload) ((xe_aload 0).trans (congrArg (x_aload 0) ((xe_g1 (kk := 111) rfl tl_11_111).trans (congrArg (x_g1 111 311) ((xe_iload 4).trans (congrArg (x_iload 4) ((xe_iaload).trans (congrArg (x_iaload) xe_nil))))))))))))))))))))))))))))))))
theorem bk_X11_findPaths_109 : ck_ fX11 none cX11_findPaths 109 [.isub, .istore 5, .iconst 0, .istore 6] 115 = true := qck_r (nn_ _) (by decide +kernel)
theorem bs_X11_findPaths_109 {P : Zt → Option Zv → Prop} (K : Int → Zl → List Zv → Zt → Prop) : sx_ K P [.isub, .istore 5, .iconst 0, .istore 6] 115 = x_isub (x_istore 5 (x_iconst 0 (x_istore 6 (K 115)))) := ((xe_isub).trans (congrArg (x_isub) ((xe_istore 5).trans (congrArg (x_istore 5) ((xe_iconst 0).trans (congrArg (x_iconst 0) ((xe_istore 6).trans (congrArg (x_istore 6) xe_nil))))))))
theorem bk_X11_findPaths_110 : ck_ fX11 none cX11_findPaths 110 [.istore 5, .iconst 0, .istore 6] 115 = true := qck_r (nn_ _) (by decide +kernel)
theorem bs_X11_findPaths_110 {P : Zt → Option Zv → Prop} (K : Int → Zl → List Zv → Zt → Prop) : sx_ K P [.istore 5, .iconst 0, .istore 6] 115 = x_istore 5 (x_iconst 0 (x_istore 6 (K 115))) := ((xe_istore 5).trans (congrArg (x_istore 5) ((xe_iconst 0).trans (congrArg (x_iconst 0) ((xe_istore 6).trans (congrArg (x_istore 6) xe_nil))))))
theorem bk_X11_findPaths_25 : ck_ fX11 none cX11_findPaths 25 [.iload 3, .ifCond .eq 231, .iconst 0, .istore 3, .iload 1, .istore 4] 34 = true := qck_r (nn_ _) (by decide +kernel)
theorem bs_X11_findPaths_25 {P : Zt → Option Zv → Prop} (K : Int → Zl → List Zv → Zt → Prop) : sx_ K P [.iload 3, .ifCond .eq 231, .iconst 0, .istore 3, .iload 1, .istore 4] 34 = x_iload 3 (x_ifCond .eq 231 K (x_iconst 0 (x_istore 3 (x_iload 1 (x_istore 4 (K 34)))))) := ((xe_iload 3).trans (congrArg (x_iload 3) ((xe_ifCond .eq 231).trans (congrArg (x_ifCond .eq 231 K) ((xe_iconst 0).trans (congrArg (x_iconst 0) ((xe_istore 3).trans (congrArg (x_istore 3) ((xe_iload 1).trans (congrArg (x_iload 1) ((xe_istore 4).trans (congrArg (x_istore 4) xe_nil))))))))))))
theorem bk_X11_findPaths_231 : ck_ fX11 none cX11_findPaths 231 [.return_] 232 = true := qck_r (nn_ _) (by decide +kernel)
theorem bs_X11_findPaths_231 {P : Zt → Option Zv → Prop} (K : Int → Zl → List Zv → Zt → Prop) : sx_ K P [.return_] 232 = x_return_ P := (xe_return_)
theorem bk_X11_findPaths_2 : ck_ fX11 none cX11_findPaths 2 [.iload 3, .aload 0, .tableswitch 0 11 21 #[], .if_icmp .ge 23, .aload 0, .tableswitch 0 11 109 #[], .iload 3, .iconst (-1), .iastore, .iinc 3 1, .goto 2] 23 = true := qck_r (nn_ _) (by decide +kernel)
theorem bs_X11_findPaths_2 {P : Zt → Option Zv → Prop} (K : Int → Zl → List Zv → Zt → Prop) : sx_ K P [.iload 3, .aload 0, .tableswitch 0 11 21 #[], .if_icmp .ge 23, .aload 0, .tableswitch 0 11 109 #[], .iload 3, .iconst (-1), .iastore, .iinc 3 1, .goto 2] 23 = x_iload 3 (x_aload 0 (x_g0 111 21 0 8 (x_if_icmp .ge 23 K (x_aload 0 (x_g1 111 309 (x_iload 3 (x_iconst (-1) (x_iastore (x_iinc 3 1 (x_goto 2 K)))))))))) := ((xe_iload 3).trans (congrArg (x_iload 3) ((xe_aload 0).trans (congrArg (x_aload 0) ((xe_g0 (kk := 111) rfl tl_11_21).trans (congrArg (x_g0 111 21 0 8) ((xe_if_icmp .ge 23).trans (congrArg (x_if_icmp .ge 23 K) ((xe_aload 0).trans (congrArg (x_aload 0) ((xe_g1 (kk := 111) rfl tl_11_109).trans (congrArg (x_g1 111 309) ((xe_iload 3).trans (congrArg (x_iload 3) ((xe_iconst (-1)).trans (congrArg (x_iconst (-1)) ((xe_iastore).trans (congrArg (x_iastore) ((xe_iinc 3 1).trans (congrArg (x_iinc 3 1) (xe_goto 2)))))))))))))))))))))
theorem bk_X11_findPaths_23 : ck_ fX11 none cX11_findPaths 23 [.iconst 1, .istore 3] 25 = true := qck_r (nn_ _) (by decide +kernel)
theorem bs_X11_findPaths_23 {P : Zt → Option Zv → Prop} (K : Int → Zl → List Zv → Zt → Prop) : sx_ K P [.iconst 1, .istore 3] 25 = x_iconst 1 (x_istore 3 (K 25)) := ((xe_iconst 1).trans (congrArg (x_iconst 1) ((xe_istore 3).trans (congrArg (x_istore 3) xe_nil))))
theorem bk_X11_findPaths_0 : ck_ fX11 none cX11_findPaths 0 [.iconst 0, .istore 3] 2 = true := qck_r (nn_ _) (by decide +kernel)
theorem bs_X11_findPaths_0 {P : Zt → Option Zv → Prop} (K : Int → Zl → List Zv → Zt → Prop) : sx_ K P [.iconst 0, .istore 3] 2 = x_iconst 0 (x_istore 3 (K 2)) := ((xe_iconst 0).trans (congrArg (x_iconst 0) ((xe_istore 3).trans (congrArg (x_istore 3) xe_nil))))
abbrev po_X11_findPaths (T : Zt) (pi : Int → Int) (f tk : Int) : Zt → Option Zv → Prop := fun T' r => r = none ∧ fr_ [(309, []), (310, [])] T T' ∧ (∃ st : Int → Nat, fx_ (ofs_ T tk f) (gh_ T) pi (far_ T') (cby_ T') st)
set_option maxHeartbeats 4000000 in
theorem ct_X11_findPaths {T : Zt} {pi : Int → Int} {f tk : Int} (h1 : 0 ≤ f) (P : po_ (ofs_ T tk f) (gh_ T) pi) : Ct_ yX11_findPaths zX11_findPaths T [vR 111 0, vI f, vI tk] (po_X11_findPaths T pi f tk) := by
  refine ct_of pn_11 rfl rfl (Nat.le_of_ble_eq_true rfl) (fun hT hav => ?_)
  have hr_f : -2147483648 ≤ f ∧ f ≤ 2147483647 := hav (vI f) (List.mem_cons_of_mem _ List.mem_cons_self)
  have hr_tk : -2147483648 ≤ tk ∧ tk ≤ 2147483647 := hav (vI tk) (List.mem_cons_of_mem _ (List.mem_cons_of_mem _ List.mem_cons_self))
  have hz : zX11_findPaths.2.2.2.1 = some .boolean → ∀ (T' : Zt) (x : Int), po_X11_findPaths T pi f tk T' (some (vI x)) → 0 ≤ x ∧ x ≤ 1 := fun h => by cases h
  have hb_21 : 0 ≤ T 111 0 21 ∧ T 111 0 21 ≤ 8 := bd_f hT 111 21 tl_11_21 0
  have hb_107 : 0 ≤ T 111 0 107 ∧ T 111 0 107 ≤ 400 := bd_f hT 111 107 tl_11_107 0
  have hdd : ∀ i o, 0 ≤ i → i < 400 → 0 ≤ o → o < 8 → 0 ≤ di_ T (T 306 0 i) o ∧ di_ T (T 306 0 i) o ≤ 11 := by
    intro i o a b c d
    have u1 : 0 ≤ T 306 0 i ∧ T 306 0 i ≤ 399 := bd_a hT 306 (by decide +kernel : ta_ 306 = some (1, some 400, 0, 399)) 0 (by omega)
    have u2 : 0 ≤ T 232 0 (T 306 0 i) ∧ T 232 0 (T 306 0 i) ≤ 11 := bd_a hT 232 (by decide +kernel : ta_ 232 = some (1, some 400, 0, 11)) 0 (by omega)
    have u3 : 0 ≤ T 213 0 (T 232 0 (T 306 0 i)) ∧ T 213 0 (T 232 0 (T 306 0 i)) ≤ 11 := bd_a hT 213 (by decide +kernel : ta_ 213 = some (1, some 12, 0, 11)) 0 (by omega)
    have u4 : 0 ≤ T 222 0 o ∧ T 222 0 o ≤ 11 := bd_a hT 222 (by decide +kernel : ta_ 222 = some (1, some 8, 0, 11)) 0 (by omega)
    unfold di_
    split <;> omega
  show J_ zX11_findPaths T (po_X11_findPaths T pi f tk) 0 0 0 [some (vR 111 0), some (vI f), some (vI tk), none, none, none, none, none] [] T
  have c_25 : ∀ (nn : Nat) (mr : Int) (st1 : Int → Nat) (cc1 : Nat) (T1 : Zt), (fm9_ mr (mu8_ (far_ T1))) ≤ nn → (fr_ [(309, []), (310, [])] T T1) → (mr = 0 ∨ mr = 1) → (FQ_ T T1 tk f pi st1 cc1) → (mr = 0 → ∀ j q, f ≤ j → j < T 111 0 107 → 0 ≤ q → q < T 111 0 21 → rx9_ (ofs_ T tk f) (gh_ T) (far_ T1) j q) → J_ zX11_findPaths T (po_X11_findPaths T pi f tk) 0 0 25 [some (vR 111 0), some (vI f), some (vI tk), some (vI mr), none, none, none, none] [] T1 := by
    intro nn
    induction nn using Nat.strongRecOn with
    | _ nn ih_25 =>
      intro mr st1 cc1 T1 hm_25 hf_25 i1 fq1 rx1
      replace hm_25 := fun (_ : Unit) => hm_25
      have c_34 : ∀ (nn : Nat) (mr2 : Int) (i : Int) (st2 : Int → Nat) (cc2 : Nat) (T2 : Zt), ((400 - i).toNat) ≤ nn → (fr_ [(309, []), (310, [])] T T2) → ((mr2 = 0 ∨ mr2 = 1) ∧ f ≤ i ∧ 0 ≤ i ∧ mr ≠ 0) → (FQ_ T T2 tk f pi st2 cc2) → (PG_ T1 T2 mr2) → (mr2 = 0 → RL_ T T2 tk f i 0) → J_ zX11_findPaths T (po_X11_findPaths T pi f tk) 0 0 34 [some (vR 111 0), some (vI f), some (vI tk), some (vI mr2), some (vI i), none, none, none] [] T2 := by
        intro nn
        induction nn using Nat.strongRecOn with
        | _ nn ih_34 =>
          intro mr2 i st2 cc2 T2 hm_34 hf_34 i2 fq2 pg2 rl2
          replace hm_34 := fun (_ : Unit) => hm_34
          have c_115 : ∀ (nn : Nat) (mr3 : Int) (b : Int) (o : Int) (st3 : Int → Nat) (cc3 : Nat) (T3 : Zt), ((8 - o).toNat) ≤ nn → (fr_ [(309, []), (310, [])] T T3) → ((mr3 = 0 ∨ mr3 = 1) ∧ 0 ≤ o ∧ o ≤ 8 ∧ i < T 111 0 107) → (FQ_ T T3 tk f pi st3 cc3) → (PG_ T1 T3 mr3) → (mr3 = 0 → RL_ T T3 tk f i o) → (b = bs_ (ofs_ T tk f) (gh_ T) (far_ T3) i) → J_ zX11_findPaths T (po_X11_findPaths T pi f tk) 0 0 115 [some (vR 111 0), some (vI f), some (vI tk), some (vI mr3), some (vI i), some (vI b), some (vI o), none] [] T3 := by
            intro nn
            induction nn using Nat.strongRecOn with
            | _ nn ih_115 =>
              intro mr3 b o st3 cc3 T3 hm_115 hf_115 i3 fq3 pg3 rl3 hb3
              replace hm_115 := fun (_ : Unit) => hm_115
              have hbn := bs_n (F := (ofs_ T tk f)) (of_9 (fun i o a b c d => hdd i o (by omega) (by omega) (by omega) (by omega))) P fq3.1 (i := i) (show f ≤ i ∧ i < T 111 0 107 by omega)
              have hbb : b ≤ 10000 + 11 * rc8_ (far_ T3) := by
                rw [hb3]
                have r9 := rc8_n (far_ T3)
                have hh9 := P.2.1 i (show f ≤ i by omega) (show i < T 111 0 107 by omega)
                unfold bs_
                split
                · omega
                · split
                  · omega
                  · have f9 := fq3.2.2 (gh_ T i) (by omega) (show gh_ T i < T 111 0 21 from hh9.2)
                    have d9 := hdd i (gh_ T i) (by omega) (by omega) (by omega) (by have : gh_ T i < T 111 0 21 := hh9.2; omega)
                    show far_ T3 (gh_ T i) - di_ T (T 306 0 i) (gh_ T i) ≤ _
                    omega
              have hrc := rc8_n (far_ T3)
              have hbl : b ≠ -1 → 9989 ≤ b := fun z => by rw [hb3]; exact bs_l (of_9 (fun i o a b c d => hdd i o (by omega) (by omega) (by omega) (by omega))) P fq3.1 (i := i) (show f ≤ i ∧ i < T 111 0 107 by omega) (by rw [← hb3]; exact z)
              refine j_blx (F := fX11) tb_X11 (nn_ _) bk_X11_findPaths_115 bs_X11_findPaths_115 hz (fun K hK => ?_)
              intro b1 b1b
              have e2 : T3 111 0 21 = T 111 0 21 := hf_115 111 0 21 rfl
              rw [e2] at b1 b1b ⊢
              refine And.intro (fun c3 => ?_) (fun c3 => ?_)
              · refine hK 222 _ [] T3 ?_
                refine j_blx (F := fX11) tb_X11 (nn_ _) bk_X11_findPaths_222 bs_X11_findPaths_222 hz (fun K hK => ?_)
                refine rg_i (by omega) ?_
                refine hK 34 [some (vR 111 0), some (vI f), some (vI tk), some (vI mr3), some (vI (i + 1)), some (vI b), some (vI o), none] [] T3 ?_
                refine j_drop [some (vR 111 0), some (vI f), some (vI tk), some (vI mr3), some (vI (i + 1)), none, none, none] (fun k v hk => ?_) rfl ?_
                · match k, hk with
                  | 0, hk => exact hk
                  | 1, hk => exact hk
                  | 2, hk => exact hk
                  | 3, hk => exact hk
                  | 4, hk => exact hk
                  | 5, hk => cases hk
                  | 6, hk => cases hk
                  | 7, hk => cases hk
                  | k + 8, hk => cases hk
                refine ih_34 _ ?_ mr3 (i + 1) st3 cc3 T3 (Nat.le_refl _) ?_ ?_ ?_ ?_ ?_
                · have hm_34 := hm_34 (); omega
                · exact fr_t (fr_0 _ _) (fr_s hf_115 rfl)
                · omega
                · exact fq3
                · exact pg3
                · intro z
                  have h9 := rl3 z
                  refine ⟨fun j q a b c d => ?_, fun q a b => by omega⟩
                  by_cases y : j = i
                  · rw [y]
                    by_cases x : q < o
                    · exact h9.2 q c x
                    · intro _ _ k
                      exact absurd (by rw [← hb3]; omega) k
                  · exact h9.1 j q a (by omega) c d
              · refine And.intro (fun c4 => ?_) (fun c4 => ?_)
                · refine hK 222 [some (vR 111 0), some (vI f), some (vI tk), some (vI mr3), some (vI i), some (vI b), some (vI o), none] [] T3 ?_
                  refine j_blx (F := fX11) tb_X11 (nn_ _) bk_X11_findPaths_222 bs_X11_findPaths_222 hz (fun K hK => ?_)
                  refine rg_i (by omega) ?_
                  refine hK 34 [some (vR 111 0), some (vI f), some (vI tk), some (vI mr3), some (vI (i + 1)), some (vI b), some (vI o), none] [] T3 ?_
                  refine j_drop [some (vR 111 0), some (vI f), some (vI tk), some (vI mr3), some (vI (i + 1)), none, none, none] (fun k v hk => ?_) rfl ?_
                  · match k, hk with
                    | 0, hk => exact hk
                    | 1, hk => exact hk
                    | 2, hk => exact hk
                    | 3, hk => exact hk
                    | 4, hk => exact hk
                    | 5, hk => cases hk
                    | 6, hk => cases hk
                    | 7, hk => cases hk
                    | k + 8, hk => cases hk
                  refine ih_34 _ ?_ mr3 (i + 1) st3 cc3 T3 (Nat.le_refl _) ?_ ?_ ?_ ?_ ?_
                  · have hm_34 := hm_34 (); omega
                  · exact fr_t (fr_0 _ _) (fr_s hf_115 rfl)
                  · omega
                  · exact fq3
                  · exact pg3
                  · intro z
                    have h9 := rl3 z
                    refine ⟨fun j q a b c d => ?_, fun q a b => by omega⟩
                    by_cases y : j = i
                    · rw [y]
                      by_cases x : q < o
                      · exact h9.2 q c x
                      · intro _ _ k
                        exact absurd (by rw [← hb3]; omega) k
                    · exact h9.1 j q a (by omega) c d
                · intro w5 w5b
                  intro w6 w6b
                  refine And.intro (fun c7 => ?_) (fun c7 => ?_)
                  · refine hK 171 [some (vR 111 0), some (vI f), some (vI tk), some (vI mr3), some (vI i), some (vI b), some (vI o), none] [] T3 ?_
                    refine j_blx (F := fX11) tb_X11 (nn_ _) bk_X11_findPaths_171 bs_X11_findPaths_171 hz (fun K hK => ?_)
                    refine And.intro (fun c8 => ?_) (fun c8 => ?_)
                    · refine hK 206 [some (vR 111 0), some (vI f), some (vI tk), some (vI mr3), some (vI i), some (vI b), some (vI o), some (vI 0)] [] T3 ?_
                      refine j_blx (F := fX11) tb_X11 (nn_ _) bk_X11_findPaths_206 bs_X11_findPaths_206 hz (fun K hK => ?_)
                      refine And.intro (fun c9 => ?_) (fun c9 => ?_)
                      · refine hK 214 _ [] T3 ?_
                        refine j_blx (F := fX11) tb_X11 (nn_ _) bk_X11_findPaths_214 bs_X11_findPaths_214 hz (fun K hK => ?_)
                        refine rg_i (by omega) ?_
                        refine hK 115 [some (vR 111 0), some (vI f), some (vI tk), some (vI 0), some (vI i), some (vI b), some (vI (o + 1)), some (vI 0)] [] T3 ?_
                        refine j_drop [some (vR 111 0), some (vI f), some (vI tk), some (vI 0), some (vI i), some (vI b), some (vI (o + 1)), none] (fun k v hk => ?_) rfl ?_
                        · match k, hk with
                          | 0, hk => exact hk
                          | 1, hk => exact hk
                          | 2, hk => exact hk
                          | 3, hk => exact hk
                          | 4, hk => exact hk
                          | 5, hk => exact hk
                          | 6, hk => exact hk
                          | 7, hk => cases hk
                          | k + 8, hk => cases hk
                        refine ih_115 _ ?_ 0 b (o + 1) st3 cc3 T3 (Nat.le_refl _) ?_ ?_ ?_ ?_ ?_ ?_
                        · have hm_115 := hm_115 (); omega
                        · exact fr_t (fr_0 _ _) (fr_s hf_115 rfl)
                        · omega
                        · exact fq3
                        · first
                          | exact ⟨pg3.1, fun z => pg3.2 (by omega)⟩
                          | exact ⟨pg3.1, fun z => absurd rfl z⟩
                        · intro z
                          have h9 := rl3 (by omega)
                          refine ⟨h9.1, fun q a b => ?_⟩
                          by_cases y : q = o
                          · rw [y]; intro k1 k2 k3
                            first
                            | exact absurd k1.1 (by omega)
                            | exact absurd (show T 311 0 i = o by omega) k2
                            | exact absurd k1.2 (by rcases hlx with w | w; exact absurd w.1 (by omega); exact w.2)
                          · exact h9.2 q a (by omega)
                        · exact hb3
                      · refine hK 215 [some (vR 111 0), some (vI f), some (vI tk), some (vI mr3), some (vI i), some (vI b), some (vI o), some (vI 0)] [vI 1] T3 ?_
                        refine j_blx (F := fX11) tb_X11 (nn_ _) bk_X11_findPaths_215 bs_X11_findPaths_215 hz (fun K hK => ?_)
                        refine rg_i (by omega) ?_
                        refine hK 115 [some (vR 111 0), some (vI f), some (vI tk), some (vI 1), some (vI i), some (vI b), some (vI (o + 1)), some (vI 0)] [] T3 ?_
                        refine j_drop [some (vR 111 0), some (vI f), some (vI tk), some (vI 1), some (vI i), some (vI b), some (vI (o + 1)), none] (fun k v hk => ?_) rfl ?_
                        · match k, hk with
                          | 0, hk => exact hk
                          | 1, hk => exact hk
                          | 2, hk => exact hk
                          | 3, hk => exact hk
                          | 4, hk => exact hk
                          | 5, hk => exact hk
                          | 6, hk => exact hk
                          | 7, hk => cases hk
                          | k + 8, hk => cases hk
                        refine ih_115 _ ?_ 1 b (o + 1) st3 cc3 T3 (Nat.le_refl _) ?_ ?_ ?_ ?_ ?_ ?_
                        · have hm_115 := hm_115 (); omega
                        · exact fr_t (fr_0 _ _) (fr_s hf_115 rfl)
                        · omega
                        · exact fq3
                        · first
                          | exact ⟨pg3.1, fun z => pg3.2 (by omega)⟩
                          | exact ⟨pg3.1, fun z => absurd rfl z⟩
                        · intro z; exact absurd z (by decide)
                        · exact hb3
                    · exact absurd c8 (by decide)
                  · refine ix_i (by omega) ?_
                    intro b10 b10b
                    have e11 : T3 311 0 i = T 311 0 i := hf_115 311 0 i rfl
                    rw [e11] at b10 b10b ⊢
                    refine And.intro (fun c12 => ?_) (fun c12 => ?_)
                    · refine hK 171 _ [] T3 ?_
                      refine j_blx (F := fX11) tb_X11 (nn_ _) bk_X11_findPaths_171 bs_X11_findPaths_171 hz (fun K hK => ?_)
                      refine And.intro (fun c13 => ?_) (fun c13 => ?_)
                      · refine hK 206 [some (vR 111 0), some (vI f), some (vI tk), some (vI mr3), some (vI i), some (vI b), some (vI o), some (vI 0)] [] T3 ?_
                        refine j_blx (F := fX11) tb_X11 (nn_ _) bk_X11_findPaths_206 bs_X11_findPaths_206 hz (fun K hK => ?_)
                        refine And.intro (fun c14 => ?_) (fun c14 => ?_)
                        · refine hK 214 _ [] T3 ?_
                          refine j_blx (F := fX11) tb_X11 (nn_ _) bk_X11_findPaths_214 bs_X11_findPaths_214 hz (fun K hK => ?_)
                          refine rg_i (by omega) ?_
                          refine hK 115 [some (vR 111 0), some (vI f), some (vI tk), some (vI 0), some (vI i), some (vI b), some (vI (o + 1)), some (vI 0)] [] T3 ?_
                          refine j_drop [some (vR 111 0), some (vI f), some (vI tk), some (vI 0), some (vI i), some (vI b), some (vI (o + 1)), none] (fun k v hk => ?_) rfl ?_
                          · match k, hk with
                            | 0, hk => exact hk
                            | 1, hk => exact hk
                            | 2, hk => exact hk
                            | 3, hk => exact hk
                            | 4, hk => exact hk
                            | 5, hk => exact hk
                            | 6, hk => exact hk
                            | 7, hk => cases hk
                            | k + 8, hk => cases hk
                          refine ih_115 _ ?_ 0 b (o + 1) st3 cc3 T3 (Nat.le_refl _) ?_ ?_ ?_ ?_ ?_ ?_
                          · have hm_115 := hm_115 (); omega
                          · exact fr_t (fr_0 _ _) (fr_s hf_115 rfl)
                          · omega
                          · exact fq3
                          · first
                            | exact ⟨pg3.1, fun z => pg3.2 (by omega)⟩
                            | exact ⟨pg3.1, fun z => absurd rfl z⟩
                          · intro z
                            have h9 := rl3 (by omega)
                            refine ⟨h9.1, fun q a b => ?_⟩
                            by_cases y : q = o
                            · rw [y]; intro k1 k2 k3
                              first
                              | exact absurd k1.1 (by omega)
                              | exact absurd (show T 311 0 i = o by omega) k2
                              | exact absurd k1.2 (by rcases hlx with w | w; exact absurd w.1 (by omega); exact w.2)
                            · exact h9.2 q a (by omega)
                          · exact hb3
                        · refine hK 215 [some (vR 111 0), some (vI f), some (vI tk), some (vI mr3), some (vI i), some (vI b), some (vI o), some (vI 0)] [vI 1] T3 ?_
                          refine j_blx (F := fX11) tb_X11 (nn_ _) bk_X11_findPaths_215 bs_X11_findPaths_215 hz (fun K hK => ?_)
                          refine rg_i (by omega) ?_
                          refine hK 115 [some (vR 111 0), some (vI f), some (vI tk), some (vI 1), some (vI i), some (vI b), some (vI (o + 1)), some (vI 0)] [] T3 ?_
                          refine j_drop [some (vR 111 0), some (vI f), some (vI tk), some (vI 1), some (vI i), some (vI b), some (vI (o + 1)), none] (fun k v hk => ?_) rfl ?_
                          · match k, hk with
                            | 0, hk => exact hk
                            | 1, hk => exact hk
                            | 2, hk => exact hk
                            | 3, hk => exact hk
                            | 4, hk => exact hk
                            | 5, hk => exact hk
                            | 6, hk => exact hk
                            | 7, hk => cases hk
                            | k + 8, hk => cases hk
                          refine ih_115 _ ?_ 1 b (o + 1) st3 cc3 T3 (Nat.le_refl _) ?_ ?_ ?_ ?_ ?_ ?_
                          · have hm_115 := hm_115 (); omega
                          · exact fr_t (fr_0 _ _) (fr_s hf_115 rfl)
                          · omega
                          · exact fq3
                          · first
                            | exact ⟨pg3.1, fun z => pg3.2 (by omega)⟩
                            | exact ⟨pg3.1, fun z => absurd rfl z⟩
                          · intro z; exact absurd z (by decide)
                          · exact hb3
                      · exact absurd c13 (by decide)
                    · have hho : gh_ T i ≠ o := by show T 311 0 i ≠ o; omega
                      refine ix_i (by omega) ?_
                      intro b15 b15b
                      have e16 : T3 306 0 i = T 306 0 i := hf_115 306 0 i rfl
                      rw [e16] at b15 b15b ⊢
                      refine hK 161 _ [vI o, vI (T 306 0 i), vR 111 0] T3 ?_
                      refine j_callV (y := yX11_mayLead) (Yc := zX11_mayLead) (rest := []) [vI (T 306 0 i), vI o] (ct_X11_mayLead (T := T3) (by omega) (by omega)) cl_X11_613 (qd_c (by decide +kernel)) (nn_ _) rfl (rf_of rfl) (Nat.le_of_ble_eq_true rfl) (Nat.le_of_ble_eq_true rfl) (Nat.le_of_ble_eq_true rfl) rfl ?_
                      rintro _ _ ⟨rfl, x17, rfl, hx17⟩
                      show J_ zX11_findPaths T (po_X11_findPaths T pi f tk) 0 0 164 _ [vI x17] T3
                      have hlx := hx17
                      rw [ld_e (fun j => hf_115 223 0 j rfl) (fun j => hf_115 214 0 j rfl) (fun j => hf_115 232 0 j rfl) (fun j => hf_115 233 0 j rfl)] at hlx
                      refine j_blx (F := fX11) tb_X11 (nn_ _) bk_X11_findPaths_164 bs_X11_findPaths_164 hz (fun K hK => ?_)
                      refine And.intro (fun c18 => ?_) (fun c18 => ?_)
                      · refine hK 171 _ [] T3 ?_
                        refine j_blx (F := fX11) tb_X11 (nn_ _) bk_X11_findPaths_171 bs_X11_findPaths_171 hz (fun K hK => ?_)
                        refine And.intro (fun c19 => ?_) (fun c19 => ?_)
                        · refine hK 206 [some (vR 111 0), some (vI f), some (vI tk), some (vI mr3), some (vI i), some (vI b), some (vI o), some (vI 0)] [] T3 ?_
                          refine j_blx (F := fX11) tb_X11 (nn_ _) bk_X11_findPaths_206 bs_X11_findPaths_206 hz (fun K hK => ?_)
                          refine And.intro (fun c20 => ?_) (fun c20 => ?_)
                          · refine hK 214 _ [] T3 ?_
                            refine j_blx (F := fX11) tb_X11 (nn_ _) bk_X11_findPaths_214 bs_X11_findPaths_214 hz (fun K hK => ?_)
                            refine rg_i (by omega) ?_
                            refine hK 115 [some (vR 111 0), some (vI f), some (vI tk), some (vI 0), some (vI i), some (vI b), some (vI (o + 1)), some (vI 0)] [] T3 ?_
                            refine j_drop [some (vR 111 0), some (vI f), some (vI tk), some (vI 0), some (vI i), some (vI b), some (vI (o + 1)), none] (fun k v hk => ?_) rfl ?_
                            · match k, hk with
                              | 0, hk => exact hk
                              | 1, hk => exact hk
                              | 2, hk => exact hk
                              | 3, hk => exact hk
                              | 4, hk => exact hk
                              | 5, hk => exact hk
                              | 6, hk => exact hk
                              | 7, hk => cases hk
                              | k + 8, hk => cases hk
                            refine ih_115 _ ?_ 0 b (o + 1) st3 cc3 T3 (Nat.le_refl _) ?_ ?_ ?_ ?_ ?_ ?_
                            · have hm_115 := hm_115 (); omega
                            · exact fr_t (fr_0 _ _) (fr_s hf_115 rfl)
                            · omega
                            · exact fq3
                            · first
                              | exact ⟨pg3.1, fun z => pg3.2 (by omega)⟩
                              | exact ⟨pg3.1, fun z => absurd rfl z⟩
                            · intro z
                              have h9 := rl3 (by omega)
                              refine ⟨h9.1, fun q a b => ?_⟩
                              by_cases y : q = o
                              · rw [y]; intro k1 k2 k3
                                first
                                | exact absurd k1.1 (by omega)
                                | exact absurd (show T 311 0 i = o by omega) k2
                                | exact absurd k1.2 (by rcases hlx with w | w; exact absurd w.1 (by omega); exact w.2)
                              · exact h9.2 q a (by omega)
                            · exact hb3
                          · refine hK 215 [some (vR 111 0), some (vI f), some (vI tk), some (vI mr3), some (vI i), some (vI b), some (vI o), some (vI 0)] [vI 1] T3 ?_
                            refine j_blx (F := fX11) tb_X11 (nn_ _) bk_X11_findPaths_215 bs_X11_findPaths_215 hz (fun K hK => ?_)
                            refine rg_i (by omega) ?_
                            refine hK 115 [some (vR 111 0), some (vI f), some (vI tk), some (vI 1), some (vI i), some (vI b), some (vI (o + 1)), some (vI 0)] [] T3 ?_
                            refine j_drop [some (vR 111 0), some (vI f), some (vI tk), some (vI 1), some (vI i), some (vI b), some (vI (o + 1)), none] (fun k v hk => ?_) rfl ?_
                            · match k, hk with
                              | 0, hk => exact hk
                              | 1, hk => exact hk
                              | 2, hk => exact hk
                              | 3, hk => exact hk
                              | 4, hk => exact hk
                              | 5, hk => exact hk
                              | 6, hk => exact hk
                              | 7, hk => cases hk
                              | k + 8, hk => cases hk
                            refine ih_115 _ ?_ 1 b (o + 1) st3 cc3 T3 (Nat.le_refl _) ?_ ?_ ?_ ?_ ?_ ?_
                            · have hm_115 := hm_115 (); omega
                            · exact fr_t (fr_0 _ _) (fr_s hf_115 rfl)
                            · omega
                            · exact fq3
                            · first
                              | exact ⟨pg3.1, fun z => pg3.2 (by omega)⟩
                              | exact ⟨pg3.1, fun z => absurd rfl z⟩
                            · intro z; exact absurd z (by decide)
                            · exact hb3
                        · exact absurd c19 (by decide)
                      · have hle := hlx.resolve_right (fun z => absurd z.1 (by omega))
                        replace hle := hle.2
                        refine hK 172 _ [vI 1] T3 ?_
                        refine j_blx (F := fX11) tb_X11 (nn_ _) bk_X11_findPaths_172 bs_X11_findPaths_172 hz (fun K hK => ?_)
                        refine And.intro (fun c21 => ?_) (fun c21 => ?_)
                        · exact absurd c21 (by decide)
                        · refine ix_i (by omega) ?_
                          intro b22 b22b
                          have e23 : T3 306 0 i = T 306 0 i := hf_115 306 0 i rfl
                          rw [e23] at b22 b22b ⊢
                          refine hK 196 [some (vR 111 0), some (vI f), some (vI tk), some (vI mr3), some (vI i), some (vI b), some (vI o), some (vI 1)] [vI o, vI (T 306 0 i), vR 111 0, vI b, vI o, vI i, vR 111 0] T3 ?_
                          refine j_callV (y := yX11_distanceOf) (Yc := zX11_distanceOf) (rest := [vI b, vI o, vI i, vR 111 0]) [vI (T 306 0 i), vI o] (ct_X11_distanceOf (T := T3) (by omega) (by omega)) cl_X11_610 (qd_c (by decide +kernel)) (nn_ _) rfl (rf_of rfl) (Nat.le_of_ble_eq_true rfl) (Nat.le_of_ble_eq_true rfl) (Nat.le_of_ble_eq_true rfl) rfl ?_
                          rintro _ _ ⟨rfl, rfl⟩
                          show J_ zX11_findPaths T (po_X11_findPaths T pi f tk) 0 0 199 _ [vI (di_ T3 (T 306 0 i) o), vI b, vI o, vI i, vR 111 0] T3
                          refine j_blx (F := fX11) tb_X11 (nn_ _) bk_X11_findPaths_199 bs_X11_findPaths_199 hz (fun K hK => ?_)
                          have hdo := hdd i o (by omega) (by omega) (by omega) (by omega)
                          have hedi : di_ T3 (T 306 0 i) o = di_ T (T 306 0 i) o := di_e (fun j => hf_115 222 0 j rfl) (fun j => hf_115 213 0 j rfl) (fun j => hf_115 232 0 j rfl)
                          refine rg_i (by omega) ?_
                          refine hK 200 _ [vI (b + (di_ T3 (T 306 0 i) o)), vI o, vI i, vR 111 0] T3 ?_
                          have hub : b + di_ T (T 306 0 i) o ≤ 10011 + 11 * rc8_ (far_ T3) := by omega
                          refine j_callV (y := yX11_reach) (Yc := zX11_reach) (rest := []) [vI i, vI o, vI (b + (di_ T3 (T 306 0 i) o))] (ct_X11_reach (T := T3) (by omega) (by omega)) cl_X11_616 (qd_c (by decide +kernel)) (nn_ _) rfl (rf_of rfl) (Nat.le_of_ble_eq_true rfl) (Nat.le_of_ble_eq_true rfl) (Nat.le_of_ble_eq_true rfl) rfl ?_
                          rintro U24 _ ⟨x25, rfl, fU24, qU24⟩
                          show J_ zX11_findPaths T (po_X11_findPaths T pi f tk) 0 0 203 _ [vI x25] U24
                          have hq9 := qU24
                          refine j_blx (F := fX11) tb_X11 (nn_ _) bk_X11_findPaths_203 bs_X11_findPaths_203 hz (fun K hK => ?_)
                          refine And.intro (fun c26 => ?_) (fun c26 => ?_)
                          · have hsh : far_ T3 o < 0 ∨ b + di_ T (T 306 0 i) o < far_ T3 o := by
                              have h8 := (hq9.resolve_right (fun z => absurd z.1 (by omega))).2.1
                              rw [hedi] at h8
                              exact h8
                            have hh := hq9.resolve_right (fun z => absurd z.1 (by omega))
                            have hfar : far_ U24 = fu_ (far_ T3) o (b + di_ T (T 306 0 i) o) := by rw [show di_ T (T 306 0 i) o = di_ T3 (T 306 0 i) o from (di_e (fun j => hf_115 222 0 j rfl) (fun j => hf_115 213 0 j rfl) (fun j => hf_115 232 0 j rfl)).symm]; exact hh.2.2.1
                            have hcby : cby_ U24 = fu_ (cby_ T3) o i := hh.2.2.2
                            have hne : gh_ T i ≠ o := hho
                            have hfi := fi_u (F := (ofs_ T tk f)) (st := st3) (c := cc3) (i := i) (o := o) P fq3.1 fq3.2.1 (show f ≤ i ∧ i < T 111 0 107 by omega) ⟨by omega, hle⟩ hne (show 0 ≤ o ∧ o < T 111 0 21 by omega) (by rw [← hb3]; omega) (by rw [← hb3]; exact hsh)
                            rw [← hb3] at hfi
                            have hfb := fb_u (v := b + di_ T (T 306 0 i) o) fq3.2.2 (by omega) (show 0 ≤ o ∧ o < T 111 0 21 by omega) hsh (by have := hfi.1; show (0 : Int) ≤ b + (ofs_ T tk f).d i o; omega) hub
                            have fq9 : FQ_ T U24 tk f pi (fsn_ st3 o (cc3 + 1)) (cc3 + 1) := by
                              refine ⟨fun q a c => ?_, fun q => ?_, ?_⟩
                              · rw [hfar, hcby]; exact hfi.2 q a c
                              · by_cases z : q = o
                                · rw [z, fsn_s]; exact Nat.le_refl _
                                · rw [fsn_n z]; exact Nat.le_succ_of_le (fq3.2.1 q)
                              · rw [hfar]; exact hfb.1
                            refine hK 210 _ [] U24 ?_
                            refine j_blx (F := fX11) tb_X11 (nn_ _) bk_X11_findPaths_210 bs_X11_findPaths_210 hz (fun K hK => ?_)
                            refine hK 215 _ [vI 1] U24 ?_
                            refine j_blx (F := fX11) tb_X11 (nn_ _) bk_X11_findPaths_215 bs_X11_findPaths_215 hz (fun K hK => ?_)
                            refine rg_i (by omega) ?_
                            refine hK 115 [some (vR 111 0), some (vI f), some (vI tk), some (vI 1), some (vI i), some (vI b), some (vI (o + 1)), some (vI 1)] [] U24 ?_
                            refine j_drop [some (vR 111 0), some (vI f), some (vI tk), some (vI 1), some (vI i), some (vI b), some (vI (o + 1)), none] (fun k v hk => ?_) rfl ?_
                            · match k, hk with
                              | 0, hk => exact hk
                              | 1, hk => exact hk
                              | 2, hk => exact hk
                              | 3, hk => exact hk
                              | 4, hk => exact hk
                              | 5, hk => exact hk
                              | 6, hk => exact hk
                              | 7, hk => cases hk
                              | k + 8, hk => cases hk
                            refine ih_115 _ ?_ 1 b (o + 1) (fsn_ st3 o (cc3 + 1)) (cc3 + 1) U24 (Nat.le_refl _) ?_ ?_ ?_ ?_ ?_ ?_
                            · have hm_115 := hm_115 (); omega
                            · exact fr_t (fr_t (fr_0 _ _) (fr_s hf_115 rfl)) (fr_s fU24 rfl)
                            · omega
                            · exact fq9
                            · unfold PG_
                              rw [hfar]
                              exact ⟨by have := hfb.2; have := pg3.1; omega, fun _ => by have := hfb.2; have := pg3.1; omega⟩
                            · intro z; exact absurd z (by decide)
                            · rw [hfar]
                              unfold bs_
                              rw [fu_n hne]
                              exact hb3
                          · have hh := hq9.resolve_left (fun z => absurd z.1 (by omega))
                            have hfar : far_ U24 = far_ T3 := hh.2.2.2.1
                            have hcby : cby_ U24 = cby_ T3 := hh.2.2.2.2
                            have fq9 := fq_e fq3 hfar hcby
                            refine And.intro (fun c27 => ?_) (fun c27 => ?_)
                            · refine hK 214 [some (vR 111 0), some (vI f), some (vI tk), some (vI mr3), some (vI i), some (vI b), some (vI o), some (vI 1)] [] U24 ?_
                              refine j_blx (F := fX11) tb_X11 (nn_ _) bk_X11_findPaths_214 bs_X11_findPaths_214 hz (fun K hK => ?_)
                              refine rg_i (by omega) ?_
                              refine hK 115 [some (vR 111 0), some (vI f), some (vI tk), some (vI 0), some (vI i), some (vI b), some (vI (o + 1)), some (vI 1)] [] U24 ?_
                              refine j_drop [some (vR 111 0), some (vI f), some (vI tk), some (vI 0), some (vI i), some (vI b), some (vI (o + 1)), none] (fun k v hk => ?_) rfl ?_
                              · match k, hk with
                                | 0, hk => exact hk
                                | 1, hk => exact hk
                                | 2, hk => exact hk
                                | 3, hk => exact hk
                                | 4, hk => exact hk
                                | 5, hk => exact hk
                                | 6, hk => exact hk
                                | 7, hk => cases hk
                                | k + 8, hk => cases hk
                              refine ih_115 _ ?_ 0 b (o + 1) st3 cc3 U24 (Nat.le_refl _) ?_ ?_ ?_ ?_ ?_ ?_
                              · have hm_115 := hm_115 (); omega
                              · exact fr_t (fr_t (fr_0 _ _) (fr_s hf_115 rfl)) (fr_s fU24 rfl)
                              · omega
                              · exact fq9
                              · unfold PG_
                                rw [hfar]
                                exact ⟨pg3.1, fun z => pg3.2 (by omega)⟩
                              · intro z
                                have h9 := rl3 (by omega)
                                unfold RL_
                                rw [hfar]
                                refine ⟨h9.1, fun q a b => ?_⟩
                                by_cases y : q = o
                                · rw [y]; intro k1 k2 k3
                                  rw [← hb3]
                                  have h8 := hh.2.2.1
                                  rw [hedi] at h8
                                  exact ⟨hh.2.1, h8⟩
                                · exact h9.2 q a (by omega)
                              · rw [show far_ U24 = far_ T3 from hfar]
                                exact hb3
                            · refine hK 215 [some (vR 111 0), some (vI f), some (vI tk), some (vI mr3), some (vI i), some (vI b), some (vI o), some (vI 1)] [vI 1] U24 ?_
                              refine j_blx (F := fX11) tb_X11 (nn_ _) bk_X11_findPaths_215 bs_X11_findPaths_215 hz (fun K hK => ?_)
                              refine rg_i (by omega) ?_
                              refine hK 115 [some (vR 111 0), some (vI f), some (vI tk), some (vI 1), some (vI i), some (vI b), some (vI (o + 1)), some (vI 1)] [] U24 ?_
                              refine j_drop [some (vR 111 0), some (vI f), some (vI tk), some (vI 1), some (vI i), some (vI b), some (vI (o + 1)), none] (fun k v hk => ?_) rfl ?_
                              · match k, hk with
                                | 0, hk => exact hk
                                | 1, hk => exact hk
                                | 2, hk => exact hk
                                | 3, hk => exact hk
                                | 4, hk => exact hk
                                | 5, hk => exact hk
                                | 6, hk => exact hk
                                | 7, hk => cases hk
                                | k + 8, hk => cases hk
                              refine ih_115 _ ?_ 1 b (o + 1) st3 cc3 U24 (Nat.le_refl _) ?_ ?_ ?_ ?_ ?_ ?_
                              · have hm_115 := hm_115 (); omega
                              · exact fr_t (fr_t (fr_0 _ _) (fr_s hf_115 rfl)) (fr_s fU24 rfl)
                              · omega
                              · exact fq9
                              · unfold PG_
                                rw [hfar]
                                exact ⟨pg3.1, fun z => pg3.2 (by omega)⟩
                              · intro z; exact absurd z (by decide)
                              · rw [show far_ U24 = far_ T3 from hfar]
                                exact hb3
          refine j_blx (F := fX11) tb_X11 (nn_ _) bk_X11_findPaths_34 bs_X11_findPaths_34 hz (fun K hK => ?_)
          intro b28 b28b
          have e29 : T2 111 0 107 = T 111 0 107 := hf_34 111 0 107 rfl
          rw [e29] at b28 b28b ⊢
          refine And.intro (fun c30 => ?_) (fun c30 => ?_)
          · refine hK 228 _ [] T2 ?_
            refine j_blx (F := fX11) tb_X11 (nn_ _) bk_X11_findPaths_228 bs_X11_findPaths_228 hz (fun K hK => ?_)
            refine hK 25 _ [] T2 ?_
            refine j_drop [some (vR 111 0), some (vI f), some (vI tk), some (vI mr2), none, none, none, none] (fun k v hk => ?_) rfl ?_
            · match k, hk with
              | 0, hk => exact hk
              | 1, hk => exact hk
              | 2, hk => exact hk
              | 3, hk => exact hk
              | 4, hk => cases hk
              | 5, hk => cases hk
              | 6, hk => cases hk
              | 7, hk => cases hk
              | k + 8, hk => cases hk
            refine ih_25 _ ?_ mr2 st2 cc2 T2 (Nat.le_refl _) ?_ ?_ ?_ ?_
            · have hm_25 := hm_25 (); exact Nat.lt_of_lt_of_le (fm9_l (by omega) (mu8_n _) (mu8_n _) (by by_cases z : mr2 = 0; exact Or.inl z; exact Or.inr (pg2.2 z))) hm_25
            · exact fr_t (fr_0 _ _) (fr_s hf_34 rfl)
            · omega
            · exact fq2
            · intro z j q a b c d
              exact (rl2 z).1 j q a (by omega) c d
          · refine ix_i (by omega) ?_
            intro b31 b31b
            have e32 : T2 311 0 i = T 311 0 i := hf_34 311 0 i rfl
            rw [e32] at b31 b31b ⊢
            refine And.intro (fun c33 => ?_) (fun c33 => ?_)
            · refine hK 60 [some (vR 111 0), some (vI f), some (vI tk), some (vI mr2), some (vI i), none, none, none] [] T2 ?_
              refine j_blx (F := fX11) tb_X11 (nn_ _) bk_X11_findPaths_60 bs_X11_findPaths_60 hz (fun K hK => ?_)
              refine ix_i (by omega) ?_
              intro b34 b34b
              have e35 : T2 311 0 i = T 311 0 i := hf_34 311 0 i rfl
              rw [e35] at b34 b34b ⊢
              refine ix_i (by omega) ?_
              intro b36 b36b
              refine And.intro (fun c37 => ?_) (fun c37 => ?_)
              · refine hK 79 _ [] T2 ?_
                refine j_blx (F := fX11) tb_X11 (nn_ _) bk_X11_findPaths_79 bs_X11_findPaths_79 hz (fun K hK => ?_)
                refine ix_i (by omega) ?_
                intro b38 b38b
                have e39 : T2 311 0 i = T 311 0 i := hf_34 311 0 i rfl
                rw [e39] at b38 b38b ⊢
                refine ix_i (by omega) ?_
                intro b40 b40b
                refine ix_i (by omega) ?_
                intro b41 b41b
                have e42 : T2 306 0 i = T 306 0 i := hf_34 306 0 i rfl
                rw [e42] at b41 b41b ⊢
                refine ix_i (by omega) ?_
                intro b43 b43b
                have e44 : T2 311 0 i = T 311 0 i := hf_34 311 0 i rfl
                rw [e44] at b43 b43b ⊢
                refine hK 106 _ [vI (T 311 0 i), vI (T 306 0 i), vR 111 0, vI (T2 309 0 (T 311 0 i))] T2 ?_
                refine j_callV (y := yX11_distanceOf) (Yc := zX11_distanceOf) (rest := [vI (T2 309 0 (T 311 0 i))]) [vI (T 306 0 i), vI (T 311 0 i)] (ct_X11_distanceOf (T := T2) (by omega) (by omega)) cl_X11_610 (qd_c (by decide +kernel)) (nn_ _) rfl (rf_of rfl) (Nat.le_of_ble_eq_true rfl) (Nat.le_of_ble_eq_true rfl) (Nat.le_of_ble_eq_true rfl) rfl ?_
                rintro _ _ ⟨rfl, rfl⟩
                show J_ zX11_findPaths T (po_X11_findPaths T pi f tk) 0 0 109 _ [vI (di_ T2 (T 306 0 i) (T 311 0 i)), vI (T2 309 0 (T 311 0 i))] T2
                refine j_blx (F := fX11) tb_X11 (nn_ _) bk_X11_findPaths_109 bs_X11_findPaths_109 hz (fun K hK => ?_)
                have hedi2 : di_ T2 (T 306 0 i) (T 311 0 i) = di_ T (T 306 0 i) (T 311 0 i) := di_e (fun j => hf_34 222 0 j rfl) (fun j => hf_34 213 0 j rfl) (fun j => hf_34 232 0 j rfl)
                have hd2 := hdd i (T 311 0 i) (by omega) (by omega) (by omega) (by omega)
                refine rg_i (by omega) ?_
                refine hK 115 [some (vR 111 0), some (vI f), some (vI tk), some (vI mr2), some (vI i), some (vI ((T2 309 0 (T 311 0 i)) - (di_ T2 (T 306 0 i) (T 311 0 i)))), some (vI 0), none] [] T2 ?_
                refine c_115 _ mr2 ((T2 309 0 (T 311 0 i)) - (di_ T2 (T 306 0 i) (T 311 0 i))) 0 st2 cc2 T2 (Nat.le_refl _) ?_ ?_ ?_ ?_ ?_ ?_
                · exact fr_t (fr_0 _ _) (fr_s hf_34 rfl)
                · omega
                · exact fq2
                · exact pg2
                · intro z
                  have h9 := rl2 z
                  exact ⟨h9.1, fun q a b => by omega⟩
                · show _ = bs_ _ _ _ _
                  unfold bs_ gh_ far_
                  rw [if_neg (by omega), if_neg (by omega)]
                  show _ = _ - di_ T (T 306 0 i) _
                  omega
              · refine hK 110 [some (vR 111 0), some (vI f), some (vI tk), some (vI mr2), some (vI i), none, none, none] [vI (-1)] T2 ?_
                refine j_blx (F := fX11) tb_X11 (nn_ _) bk_X11_findPaths_110 bs_X11_findPaths_110 hz (fun K hK => ?_)
                refine hK 115 [some (vR 111 0), some (vI f), some (vI tk), some (vI mr2), some (vI i), some (vI (-1)), some (vI 0), none] [] T2 ?_
                refine c_115 _ mr2 (-1) 0 st2 cc2 T2 (Nat.le_refl _) ?_ ?_ ?_ ?_ ?_ ?_
                · exact fr_t (fr_0 _ _) (fr_s hf_34 rfl)
                · omega
                · exact fq2
                · exact pg2
                · intro z
                  have h9 := rl2 z
                  exact ⟨h9.1, fun q a b => by omega⟩
                · show _ = bs_ _ _ _ _
                  unfold bs_ gh_ far_
                  rw [if_neg (by omega), if_pos (by omega)]
            · refine hK 110 _ [vI 10000] T2 ?_
              refine j_blx (F := fX11) tb_X11 (nn_ _) bk_X11_findPaths_110 bs_X11_findPaths_110 hz (fun K hK => ?_)
              refine hK 115 [some (vR 111 0), some (vI f), some (vI tk), some (vI mr2), some (vI i), some (vI 10000), some (vI 0), none] [] T2 ?_
              refine c_115 _ mr2 10000 0 st2 cc2 T2 (Nat.le_refl _) ?_ ?_ ?_ ?_ ?_ ?_
              · exact fr_t (fr_0 _ _) (fr_s hf_34 rfl)
              · omega
              · exact fq2
              · exact pg2
              · intro z
                have h9 := rl2 z
                exact ⟨h9.1, fun q a b => by omega⟩
              · show _ = bs_ _ _ _ _
                unfold bs_ gh_ far_
                rw [if_pos (by omega)]
      refine j_blx (F := fX11) tb_X11 (nn_ _) bk_X11_findPaths_25 bs_X11_findPaths_25 hz (fun K hK => ?_)
      refine And.intro (fun c45 => ?_) (fun c45 => ?_)
      · refine hK 231 _ [] T1 ?_
        refine j_blx (F := fX11) tb_X11 (nn_ _) bk_X11_findPaths_231 bs_X11_findPaths_231 hz (fun K hK => ?_)
        refine (show po_X11_findPaths T pi f tk T1 (none) from ?_)
        exact ⟨rfl, fr_t (fr_0 _ _) (fr_s hf_25 rfl), st1, P, fq1.1, fun j q a b c d => rx1 (by omega) j q a b c d⟩
      · refine hK 34 [some (vR 111 0), some (vI f), some (vI tk), some (vI 0), some (vI f), none, none, none] [] T1 ?_
        refine c_34 _ 0 f st1 cc1 T1 (Nat.le_refl _) ?_ ?_ ?_ ?_ ?_
        · exact fr_t (fr_0 _ _) (fr_s hf_25 rfl)
        · omega
        · exact fq1
        · exact ⟨Int.le_refl _, fun z => absurd rfl z⟩
        · exact fun _ => ⟨fun j q a b => by omega, fun q a b => by omega⟩
  have c_2 : ∀ (nn : Nat) (o : Int) (T0 : Zt), ((8 - o).toNat) ≤ nn → (fr_ [(309, [])] T T0) → (0 ≤ o ∧ o ≤ 8) → (∀ j, 0 ≤ j → j < o → T0 309 0 j = -1) → J_ zX11_findPaths T (po_X11_findPaths T pi f tk) 0 0 2 [some (vR 111 0), some (vI f), some (vI tk), some (vI o), none, none, none, none] [] T0 := by
    intro nn
    induction nn using Nat.strongRecOn with
    | _ nn ih_2 =>
      intro o T0 hm_2 hf_2 i0 z1
      replace hm_2 := fun (_ : Unit) => hm_2
      refine j_blx (F := fX11) tb_X11 (nn_ _) bk_X11_findPaths_2 bs_X11_findPaths_2 hz (fun K hK => ?_)
      intro b46 b46b
      have e47 : T0 111 0 21 = T 111 0 21 := hf_2 111 0 21 rfl
      rw [e47] at b46 b46b ⊢
      refine And.intro (fun c48 => ?_) (fun c48 => ?_)
      · refine hK 23 _ [] T0 ?_
        have fq0 : FQ_ T T0 tk f pi (fun _ => 0) 0 := ⟨fun q a b => Or.inl (by show T0 309 0 q < 0; rw [z1 q a (by omega)]; decide), fun _ => Nat.le_refl _, fun q a b => by have := rc8_n (far_ T0); show T0 309 0 q ≤ _; rw [z1 q a (by omega)]; omega⟩
        refine j_blx (F := fX11) tb_X11 (nn_ _) bk_X11_findPaths_23 bs_X11_findPaths_23 hz (fun K hK => ?_)
        refine hK 25 [some (vR 111 0), some (vI f), some (vI tk), some (vI 1), none, none, none, none] [] T0 ?_
        refine c_25 _ 1 (fun _ => 0) 0 T0 (Nat.le_refl _) ?_ ?_ ?_ ?_
        · exact fr_t (fr_0 _ _) (fr_s hf_2 rfl)
        · omega
        · exact fq0
        · intro z; exact absurd z (by decide)
      · refine iy_i (by omega) (by omega) ?_
        refine x_nm (fun U49 hU49 => ?_)
        have e50 := up_f hU49
        refine rg_i (by omega) ?_
        refine hK 2 [some (vR 111 0), some (vI f), some (vI tk), some (vI (o + 1)), none, none, none, none] [] U49 ?_
        refine ih_2 _ ?_ (o + 1) U49 (Nat.le_refl _) ?_ ?_ ?_
        · have hm_2 := hm_2 (); omega
        · exact fr_u (fr_t (fr_0 _ _) (fr_s hf_2 rfl)) hU49 rfl
        · omega
        · intro j a b
          by_cases z : j = o
          · rw [z]; exact up_f hU49
          · rw [up_g hU49 (fun q => z q.2.2)]; exact z1 j a (by omega)
  refine j_blx (F := fX11) tb_X11 (nn_ _) bk_X11_findPaths_0 bs_X11_findPaths_0 hz (fun K hK => ?_)
  refine hK 2 [some (vR 111 0), some (vI f), some (vI tk), some (vI 0), none, none, none, none] [] T ?_
  refine c_2 _ 0 T (Nat.le_refl _) ?_ ?_ ?_
  · exact fr_0 _ _
  · omega
  · intro j a b; omega
