/-- a club of a pot stands in a group -/
def OX_ (E f : Int → Int) (p g : Int) : Prop := ∃ k, 0 ≤ k ∧ k < 12 ∧ E k = p ∧ f k = g
theorem ox_u {E f : Int → Int} {x g p g2 : Int} (hx : f x = -1) (h0 : 0 ≤ x ∧ x < 12) (hg2 : 0 ≤ g2) : OX_ E (fu_ f x g) p g2 ↔ OX_ E f p g2 ∨ (p = E x ∧ g2 = g) := by
  constructor
  · rintro ⟨k, a, b, c, e⟩
    by_cases z : k = x
    · rw [z, fu_s] at e
      exact Or.inr ⟨by rw [← c, z], e.symm⟩
    · rw [fu_n z] at e
      exact Or.inl ⟨k, a, b, c, e⟩
  · rintro (⟨k, a, b, c, e⟩ | ⟨a, b⟩)
    · exact ⟨k, a, b, c, by rw [fu_n (fun z => by rw [z, hx] at e; omega)]; exact e⟩
    · exact ⟨x, h0.1, h0.2, a.symm, by rw [fu_s]; exact b.symm⟩
/-- the rows taken, countrymen say where the clubs stand -/
def OCW_ (T : Zt) (E C f : Int → Int) : Prop := (∀ p g, 0 ≤ p → p ≤ 2 → 0 ≤ g → g < 4 → (T 434 0 (p * 4 + g) = 0 ↔ ¬ OX_ E f p g)) ∧ ∀ g c, 0 ≤ g → g < 4 → 0 ≤ c → c < 8 → T 435 0 (g * 8 + c) = cmk_ E C f g c 12
theorem oc_e {T T' : Zt} {E C f : Int → Int} (h : OCW_ T E C f) (a : ∀ j, T' 434 0 j = T 434 0 j) (b : ∀ j, T' 435 0 j = T 435 0 j) : OCW_ T' E C f := ⟨fun p g x y z w => by rw [a]; exact h.1 p g x y z w, fun g c x y z w => by rw [b]; exact h.2 g c x y z w⟩
theorem oc_u {T T' : Zt} {E C f : Int → Int} {x g : Int} (h : OCW_ T E C f) (hx : 0 ≤ x ∧ x < 12) (hf : f x = -1) (he : 0 ≤ E x ∧ E x ≤ 2) (hc : 0 ≤ C x ∧ C x < 8) (hg : 0 ≤ g ∧ g < 4) (t1 : T' 434 0 (E x * 4 + g) ≠ 0) (t2 : ∀ j, j ≠ E x * 4 + g → T' 434 0 j = T 434 0 j) (c1 : T' 435 0 (g * 8 + C x) = T 435 0 (g * 8 + C x) + 1) (c2 : ∀ j, j ≠ g * 8 + C x → T' 435 0 j = T 435 0 j) : OCW_ T' E C (fu_ f x g) := by
  refine ⟨fun p g2 a b c e => ?_, fun g2 cc a b c e => ?_⟩
  · rw [ox_u hf hx c]
    by_cases z : p * 4 + g2 = E x * 4 + g
    · have z1 : p = E x ∧ g2 = g := by omega
      rw [z]
      exact ⟨fun q => absurd q t1, fun q => absurd (Or.inr z1) q⟩
    · rw [t2 _ z, h.1 p g2 a b c e]
      exact ⟨fun q r => r.elim q (fun y => z (by rw [y.1, y.2])), fun q r => q (Or.inl r)⟩
  · rw [cmk_u hf hg.1 (by omega) hx.1 g2 cc a 12]
    by_cases z : g2 * 8 + cc = g * 8 + C x
    · have z1 : g2 = g ∧ cc = C x := by omega
      rw [z, c1, if_pos (show x < ((12 : Nat) : Int) ∧ g2 = g ∧ C x = cc from ⟨by have := hx.2; omega, z1.1, z1.2.symm⟩), h.2 g (C x) hg.1 hg.2 hc.1 hc.2, z1.1, z1.2]
    · have n1 : ¬ (x < ((12 : Nat) : Int) ∧ g2 = g ∧ C x = cc) := fun q => z (by rw [q.2.1, q.2.2])
      rw [c2 _ z, if_neg n1, h.2 g2 cc a b c e]; omega
/-- the house's draw -/
def dh_ (T : Zt) : Dr_ := ⟨fun k => T 428 0 k, fun k => T 561 0 k, 12, T 101 0 1, T 101 0 2⟩
def ghw_ (T : Zt) : Int → Int := fun k => T 429 0 k
def lhw_ (T : Zt) : List Int := lq_ (fun k => T 428 0 k) (ghw_ T) 12 3
theorem dq_f {ws : List (Nat × List Int)} {T T' : Zt} {d : Dr_} (h : d = dh_ T) (f : fr_ ws T T') (w : (∀ j, fw_ ws 428 j = false) ∧ (∀ j, fw_ ws 561 j = false) ∧ fw_ ws 101 1 = false ∧ fw_ ws 101 2 = false) : d = dh_ T' := by
  rw [h]
  unfold dh_
  rw [f 101 0 1 w.2.2.1, f 101 0 2 w.2.2.2, show (fun k => T' 428 0 k) = (fun k => T 428 0 k) from funext (fun k => f 428 0 k (w.1 k)), show (fun k => T' 561 0 k) = (fun k => T 561 0 k) from funext (fun k => f 561 0 k (w.2.1 k))]
theorem oc_t {T : Zt} {d : Dr_} {f : Int → Int} {x g : Int} (hd : d = dh_ T) (h : OCW_ T d.E d.C f) (hx : 0 ≤ x ∧ x < 12) (hf : f x = -1) (he : 0 ≤ T 428 0 x ∧ T 428 0 x ≤ 2) (hc : 0 ≤ T 561 0 x ∧ T 561 0 x ≤ 7) (hg : 0 ≤ g ∧ g < 4) : (T 434 0 (T 428 0 x * 4 + g) = 0 ∧ T 435 0 (g * 8 + T 561 0 x) < T 101 0 2) ↔ ms_ d f x g := by
  subst hd
  have a := h.1 (T 428 0 x) g he.1 he.2 hg.1 hg.2
  have b : T 435 0 (g * 8 + T 561 0 x) = cmk_ (dh_ T).E (dh_ T).C f g (T 561 0 x) 12 := h.2 g (T 561 0 x) hg.1 hg.2 hc.1 (by omega)
  have c : alk_ (dh_ T).E (dh_ T).C f x g 12 = cmk_ (dh_ T).E (dh_ T).C f g (T 561 0 x) 12 := cmk_a (by omega) 12
  have hn2 : (dh_ T).n.toNat = 12 := rfl
  unfold ms_
  rw [a, b, hn2, c]
  constructor
  · rintro ⟨q, r⟩
    exact ⟨fun k p1 p2 p3 p4 p5 p6 => q ⟨k, p1, p2, p6, p5⟩, r⟩
  · rintro ⟨q, r⟩
    refine ⟨fun ⟨k, p1, p2, p3, p4⟩ => q k p1 p2 (fun z => by rw [z, hf] at p4; omega) (by rw [p3]; omega) p4 p3, r⟩
/-- the row waiting, from k on -/
def WL_ (T : Zt) : List Int → Int → Prop
  | [], k => k = T 101 0 13
  | x :: l, k => T 432 0 k = x ∧ WL_ T l (k + 1)
theorem wl_c {T : Zt} : ∀ {l : List Int} {k : Int}, WL_ T l k → k + (l.length : Int) = T 101 0 13
  | [], k, h => by
    have h : k = T 101 0 13 := h
    rw [List.length_nil]; omega
  | x :: l, k, h => by
    have i := wl_c h.2
    rw [List.length_cons]; omega
theorem wl_e {T T' : Zt} (a : ∀ j, T' 432 0 j = T 432 0 j) (b : T' 101 0 13 = T 101 0 13) : ∀ {l : List Int} {k : Int}, WL_ T l k → WL_ T' l k
  | [], k, h => by
    have h : k = T 101 0 13 := h
    show k = T' 101 0 13
    omega
  | x :: l, k, h => ⟨(a k).trans h.1, wl_e a b h.2⟩
/-- what is asked of the clubs that wait -/
def FZ_ (T : Zt) (f : Int → Int) (l : List Int) : Prop := l.Nodup ∧ ∀ z ∈ l, (0 ≤ z ∧ z < 12) ∧ f z = -1 ∧ (0 ≤ T 428 0 z ∧ T 428 0 z ≤ 2) ∧ (0 ≤ T 561 0 z ∧ T 561 0 z ≤ 7)
theorem fz_u {T T' : Zt} {f : Int → Int} {x g : Int} {l : List Int} (h : FZ_ T f (x :: l)) (a : ∀ j, T' 428 0 j = T 428 0 j) (b : ∀ j, T' 561 0 j = T 561 0 j) : FZ_ T' (fu_ f x g) l := by
  obtain ⟨n, h⟩ := h
  rw [List.nodup_cons] at n
  refine ⟨n.2, fun z hz => ?_⟩
  have q := h z (List.mem_cons_of_mem _ hz)
  refine ⟨q.1, ?_, by rw [a]; exact q.2.2.1, by rw [b]; exact q.2.2.2⟩
  rw [fu_n (fun y => n.1 (by rw [← y]; exact hz))]
  exact q.2.1
theorem fz_b {T : Zt} {d : Dr_} {f : Int → Int} {l : List Int} {fx gp : Int} (hd : d = dh_ T) (h : FZ_ T f l) : nw_ d fx gp l f ≤ 13824 := by
  subst hd
  exact nw_m h.1 (fun x hx => by
    have q := h.2 x hx
    exact ⟨q.1.1, q.1.2, q.2.1, q.2.2.1.1, q.2.2.1.2⟩)
/-- what counting from a list leaves -/
def PC_ (T T' : Zt) (d : Dr_) (l : List Int) (f : Int → Int) (x : Int) : Prop := x = (nw_ d (-1) (-1) l f : Nat) ∧ (∀ j, T' 434 0 j = T 434 0 j) ∧ (∀ j, T' 435 0 j = T 435 0 j) ∧ (∀ c ∈ l, ∀ u, 0 ≤ u → u < 4 → T' 431 0 (c * 4 + u) = wr_ (T 431 0 (c * 4 + u) + (nw_ d c u l f : Nat))) ∧ ∀ c, c ∉ l → ∀ u, 0 ≤ u → u < 4 → T' 431 0 (c * 4 + u) = T 431 0 (c * 4 + u)
/-- the count of a club's groups, below g -/
def CI_ (T T1 : Zt) (d : Dr_) (x : Int) (l : List Int) (f : Int → Int) (v g : Int) : Prop := v + (qs_ (ok_ d (-1) (-1) f x) (fun u => nw_ d (-1) (-1) l (fu_ f x u)) (g - 1) : Nat) = (nw_ d (-1) (-1) (x :: l) f : Nat) ∧ (∀ c ∈ x :: l, ∀ u, 0 ≤ u → u < 4 → T1 431 0 (c * 4 + u) = wr_ (T 431 0 (c * 4 + u) + (nw_ d c u (x :: l) f : Nat) - (qs_ (ok_ d c u f x) (fun w => nw_ d c u l (fu_ f x w)) (g - 1) : Nat))) ∧ ∀ c, c ∉ x :: l → ∀ u, 0 ≤ u → u < 4 → T1 431 0 (c * 4 + u) = T 431 0 (c * 4 + u)
theorem ci_0 {T : Zt} {d : Dr_} {x : Int} {l : List Int} {f : Int → Int} (hl : ∀ z ∈ x :: l, 0 ≤ z) (hb : ∀ j, 0 ≤ j → -2147483648 ≤ T 431 0 j ∧ T 431 0 j ≤ 2147483647) : CI_ T T d x l f 0 0 := by
  refine ⟨?_, fun c hc u a b => ?_, fun _ _ _ _ _ => rfl⟩
  · show (0 : Int) + (qs_ (ok_ d (-1) (-1) f x) (fun u => nw_ d (-1) (-1) l (fu_ f x u)) (-1) : Nat) = (qs_ (ok_ d (-1) (-1) f x) (fun u => nw_ d (-1) (-1) l (fu_ f x u)) (-1) : Nat)
    omega
  · have e : nw_ d c u (x :: l) f = qs_ (ok_ d c u f x) (fun w => nw_ d c u l (fu_ f x w)) (0 - 1) := rfl
    have z := hl c hc
    rw [e, show T 431 0 (c * 4 + u) + ((qs_ (ok_ d c u f x) (fun w => nw_ d c u l (fu_ f x w)) (0 - 1) : Nat) : Int) - ((qs_ (ok_ d c u f x) (fun w => nw_ d c u l (fu_ f x w)) (0 - 1) : Nat) : Int) = T 431 0 (c * 4 + u) by omega, wr_i (hb _ (by omega))]
theorem ci_n {T T1 : Zt} {d : Dr_} {x : Int} {l : List Int} {f : Int → Int} {v g : Int} (h : CI_ T T1 d x l f v g) (n : ¬ ms_ d f x g) : CI_ T T1 d x l f v (g + 1) := by
  have e : ∀ c u, qs_ (ok_ d c u f x) (fun w => nw_ d c u l (fu_ f x w)) (g - 1) = qs_ (ok_ d c u f x) (fun w => nw_ d c u l (fu_ f x w)) (g + 1 - 1) := fun c u => by
    rw [show g + 1 - 1 = g by omega]
    exact qs_g0 (fun q => n q.2.2)
  refine ⟨by rw [← e]; exact h.1, fun c hc u a b => by rw [← e]; exact h.2.1 c hc u a b, h.2.2⟩
theorem ci_y {T T1 T2 T3 T4 : Zt} {d : Dr_} {x : Int} {l : List Int} {f : Int → Int} {v w g : Int} (h : CI_ T T1 d x l f v g) (hn : (x :: l).Nodup) (hl : ∀ z ∈ x :: l, 0 ≤ z) (hg : 0 ≤ g ∧ g < 4) (hG : g < d.G) (m : ms_ d f x g) (e2 : ∀ j, T2 431 0 j = T1 431 0 j) (p : PC_ T2 T3 d l (fu_ f x g) w) (e4 : T4 431 0 (x * 4 + g) = wr_ (T3 431 0 (x * 4 + g) + w)) (e5 : ∀ j, j ≠ x * 4 + g → T4 431 0 j = T3 431 0 j) : CI_ T T4 d x l f (v + w) (g + 1) := by
  rw [List.nodup_cons] at hn
  have s : ∀ c u, ok_ d c u f x g → qs_ (ok_ d c u f x) (fun w => nw_ d c u l (fu_ f x w)) (g - 1) = nw_ d c u l (fu_ f x g) + qs_ (ok_ d c u f x) (fun w => nw_ d c u l (fu_ f x w)) (g + 1 - 1) := fun c u o => by
    rw [show g + 1 - 1 = g by omega]
    exact qs_g1 (C := ok_ d c u f x) (V := fun w => nw_ d c u l (fu_ f x w)) hg.1 hg.2 o
  obtain ⟨h1, h2, h3⟩ := h
  obtain ⟨p1, -, -, p4, p5⟩ := p
  have x0 := hl x List.mem_cons_self
  refine ⟨?_, fun c hc u a b => ?_, fun c hc u a b => ?_⟩
  · have s0 := s (-1) (-1) ⟨hG, fun z => by omega, m⟩
    rw [s0] at h1
    rw [p1]
    omega
  · rcases List.mem_cons.mp hc with z | z
    · subst z
      by_cases y : u = g
      · subst y
        have s0 := s c u ⟨hG, fun _ => rfl, m⟩
        have o : nw_ d c u l (fu_ f c u) = nw_ d (-1) (-1) l (fu_ f c u) := nw_o l _ (fun y hy => ⟨fun e => hn.1 (by rw [← e]; exact hy), by have := hl y (List.mem_cons_of_mem _ hy); omega⟩)
        rw [e4, p5 c hn.1 u a b, e2, h2 c hc u a b, wr_w, s0, p1, o]
        congr 1
        omega
      · have z0 : qs_ (ok_ d c u f c) (fun w => nw_ d c u l (fu_ f c w)) (g - 1) = qs_ (ok_ d c u f c) (fun w => nw_ d c u l (fu_ f c w)) g := qs_g0 (C := ok_ d c u f c) (fun q => y (q.2.1 rfl).symm)
        rw [e5 _ (by omega), p5 c hn.1 u a b, e2, h2 c hc u a b, show g + 1 - 1 = g by omega, z0]
    · have cx : c ≠ x := fun e => hn.1 (by rw [← e]; exact z)
      have s0 := s c u ⟨hG, fun e => absurd e.symm cx, m⟩
      have c0 := hl c hc
      rw [e5 _ (by omega), p4 c z u a b, e2, h2 c hc u a b, wr_w, s0]
      congr 1
      omega
  · have cx : c ≠ x := fun e => hc (by rw [e]; exact List.mem_cons_self)
    have cl : c ∉ l := fun e => hc (List.mem_cons_of_mem _ e)
    rw [e5 _ (by omega), p5 c cl u a b, e2]
    exact h3 c hc u a b
