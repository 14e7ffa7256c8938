-- refresh: pots seen so far
def ep_ (E : Int → Int) (p c k : Int) : Int := if (0 ≤ E k ∧ E k < p) ∨ (E k = p ∧ k < c) then E k else -1
theorem ep_0 {E : Int → Int} {k : Int} (h : 0 ≤ k) : ep_ E 0 0 k = -1 := if_neg (fun q => by omega)
theorem ep_n {E : Int → Int} {p c k : Int} (h : ¬ (k = c ∧ E c = p)) : ep_ E p (c + 1) k = ep_ E p c k := by
  unfold ep_
  by_cases z : k = c
  · subst z
    have n1 : ((0 ≤ E k ∧ E k < p) ∨ (E k = p ∧ k < k + 1)) ↔ ((0 ≤ E k ∧ E k < p) ∨ (E k = p ∧ k < k)) := by
      constructor
      · rintro (q | q)
        · exact Or.inl q
        · exact absurd ⟨rfl, q.1⟩ h
      · rintro (q | q)
        · exact Or.inl q
        · omega
    by_cases y : (0 ≤ E k ∧ E k < p) ∨ (E k = p ∧ k < k)
    · rw [if_pos y, if_pos (n1.mpr y)]
    · rw [if_neg y, if_neg (fun q => y (n1.mp q))]
  · have n1 : ((0 ≤ E k ∧ E k < p) ∨ (E k = p ∧ k < c + 1)) ↔ ((0 ≤ E k ∧ E k < p) ∨ (E k = p ∧ k < c)) := by omega
    by_cases y : (0 ≤ E k ∧ E k < p) ∨ (E k = p ∧ k < c)
    · rw [if_pos y, if_pos (n1.mpr y)]
    · rw [if_neg y, if_neg (fun q => y (n1.mp q))]
theorem ep_c {E : Int → Int} {p c : Int} (h : E c = p) : ep_ E p c c = -1 ∧ ep_ E p (c + 1) c = p := ⟨if_neg (fun q => by omega), (if_pos (Or.inr ⟨h, by omega⟩)).trans h⟩
theorem ep_p {E : Int → Int} {p k : Int} (hp : 0 ≤ p) (hk : k < 12) (h0 : 0 ≤ k) : ep_ E (p + 1) 0 k = ep_ E p 12 k := by
  unfold ep_
  have n1 : ((0 ≤ E k ∧ E k < p + 1) ∨ (E k = p + 1 ∧ k < 0)) ↔ ((0 ≤ E k ∧ E k < p) ∨ (E k = p ∧ k < 12)) := by omega
  by_cases y : (0 ≤ E k ∧ E k < p) ∨ (E k = p ∧ k < 12)
  · rw [if_pos y, if_pos (n1.mpr y)]
  · rw [if_neg y, if_neg (fun q => y (n1.mp q))]
theorem ep_3 {E : Int → Int} {k : Int} (h : -1 ≤ E k ∧ E k ≤ 2) : ep_ E 3 0 k = E k := by
  unfold ep_
  by_cases y : (0 ≤ E k ∧ E k < 3) ∨ (E k = 3 ∧ k < 0)
  · rw [if_pos y]
  · rw [if_neg y]; omega
theorem cmk_c {E E2 C f : Int → Int} {g c : Int} (hg : 0 ≤ g) : ∀ n : Nat, (∀ k : Int, 0 ≤ k → k < n → E2 k = E k ∨ f k = -1) → cmk_ E2 C f g c n = cmk_ E C f g c n
  | 0, _ => rfl
  | n + 1, h => by
    have i := cmk_c (C := C) (c := c) hg n (fun k a b => h k a (by omega))
    show cmk_ E2 C f g c n + (if E2 n ≠ -1 ∧ f n = g ∧ C n = c then (1 : Int) else 0) = cmk_ E C f g c n + (if E n ≠ -1 ∧ f n = g ∧ C n = c then (1 : Int) else 0)
    rw [i]
    rcases h n (by omega) (by omega) with z | z
    · rw [z]
    · have n1 : ¬ (E2 n ≠ -1 ∧ f n = g ∧ C n = c) := fun q => by have := q.2.1; omega
      have n2 : ¬ (E n ≠ -1 ∧ f n = g ∧ C n = c) := fun q => by have := q.2.1; omega
      rw [if_neg n1, if_neg n2]
theorem oc_c {T : Zt} {E E2 C f : Int → Int} (h : OCW_ T E C f) (e : ∀ k, 0 ≤ k → k < 12 → E2 k = E k ∨ f k = -1) : OCW_ T E2 C f := by
  refine ⟨fun p g a b c d => ?_, fun g c a b x y => ?_⟩
  · rw [h.1 p g a b c d]
    have n1 : OX_ E f p g ↔ OX_ E2 f p g := by
      constructor
      · rintro ⟨k, x, y, z, w⟩
        exact ⟨k, x, y, by rcases e k x y with q | q <;> omega, w⟩
      · rintro ⟨k, x, y, z, w⟩
        exact ⟨k, x, y, by rcases e k x y with q | q <;> omega, w⟩
    exact not_congr n1
  · rw [h.2 g c a b x y]
    exact (cmk_c a 12 (fun k p q => e k p (by omega))).symm
theorem cmk_p {E E2 C f : Int → Int} {x g0 : Int} (h0 : 0 ≤ x) (e1 : E x = -1) (e2 : E2 x ≠ -1) (e3 : ∀ k, k ≠ x → E2 k = E k) (hf : f x = g0) (g c : Int) : ∀ n : Nat, cmk_ E2 C f g c n = cmk_ E C f g c n + (if x < n ∧ g = g0 ∧ C x = c then 1 else 0)
  | 0 => by
      have n1 : ¬ (x < ((0 : Nat) : Int) ∧ g = g0 ∧ C x = c) := fun q => by have := q.1; omega
      rw [if_neg n1]; rfl
  | k + 1 => by
      have i := cmk_p (C := C) h0 e1 e2 e3 hf g c k
      show cmk_ E2 C f g c k + (if E2 k ≠ -1 ∧ f k = g ∧ C k = c then (1 : Int) else 0) = cmk_ E C f g c k + (if E k ≠ -1 ∧ f k = g ∧ C k = c then (1 : Int) else 0) + (if x < ((k + 1 : Nat) : Int) ∧ g = g0 ∧ C x = c then (1 : Int) else 0)
      rw [i]
      by_cases z : ((k : Nat) : Int) = x
      · have n1 : ¬ (x < ((k : Nat) : Int) ∧ g = g0 ∧ C x = c) := fun q => by have := q.1; omega
        have n2 : ¬ (E k ≠ -1 ∧ f k = g ∧ C k = c) := fun q => q.1 (by rw [z]; exact e1)
        rw [if_neg n1, if_neg n2]
        by_cases y : g = g0 ∧ C x = c
        · have y1 : E2 k ≠ -1 ∧ f k = g ∧ C k = c := ⟨by rw [z]; exact e2, by rw [z, hf]; exact y.1.symm, by rw [z]; exact y.2⟩
          have y2 : x < ((k + 1 : Nat) : Int) ∧ g = g0 ∧ C x = c := ⟨by omega, y⟩
          rw [if_pos y1, if_pos y2]
        · have y1 : ¬ (E2 k ≠ -1 ∧ f k = g ∧ C k = c) := fun q => y ⟨by have := q.2.1; rw [z, hf] at this; exact this.symm, by have := q.2.2; rw [z] at this; exact this⟩
          have y2 : ¬ (x < ((k + 1 : Nat) : Int) ∧ g = g0 ∧ C x = c) := fun q => y q.2
          rw [if_neg y1, if_neg y2]
      · rw [e3 _ z]
        by_cases y : x < ((k : Nat) : Int) ∧ g = g0 ∧ C x = c
        · have y2 : x < ((k + 1 : Nat) : Int) ∧ g = g0 ∧ C x = c := ⟨by have := y.1; omega, y.2⟩
          rw [if_pos y, if_pos y2]; omega
        · have y2 : ¬ (x < ((k + 1 : Nat) : Int) ∧ g = g0 ∧ C x = c) := fun q => y ⟨by have := q.1; omega, q.2⟩
          rw [if_neg y, if_neg y2]; omega
theorem oc_p {T T' : Zt} {E E2 C f : Int → Int} {x p0 g0 : Int} (h : OCW_ T E C f) (hx : 0 ≤ x ∧ x < 12) (e1 : E x = -1) (e2 : E2 x = p0) (e3 : ∀ k, k ≠ x → E2 k = E k) (hf : f x = g0) (hp : 0 ≤ p0 ∧ p0 ≤ 2) (hg : 0 ≤ g0 ∧ g0 < 4) (hc : 0 ≤ C x ∧ C x < 8) (t1 : T' 434 0 (p0 * 4 + g0) ≠ 0) (t2 : ∀ j, j ≠ p0 * 4 + g0 → T' 434 0 j = T 434 0 j) (c1 : T' 435 0 (g0 * 8 + C x) = T 435 0 (g0 * 8 + C x) + 1) (c2 : ∀ j, j ≠ g0 * 8 + C x → T' 435 0 j = T 435 0 j) : OCW_ T' E2 C f := by
  refine ⟨fun p g a b c d => ?_, fun g cc a b c d => ?_⟩
  · have n1 : OX_ E2 f p g ↔ OX_ E f p g ∨ (p = p0 ∧ g = g0) := by
      constructor
      · rintro ⟨k, q1, q2, q3, q4⟩
        by_cases z : k = x
        · rw [z] at q3 q4
          exact Or.inr ⟨by omega, by omega⟩
        · rw [e3 k z] at q3
          exact Or.inl ⟨k, q1, q2, q3, q4⟩
      · rintro (⟨k, q1, q2, q3, q4⟩ | ⟨q1, q2⟩)
        · exact ⟨k, q1, q2, by rw [e3 k (fun z => by rw [z] at q3; omega)]; exact q3, q4⟩
        · exact ⟨x, hx.1, hx.2, by omega, by omega⟩
    rw [n1]
    by_cases z : p * 4 + g = p0 * 4 + g0
    · have z1 : p = p0 ∧ g = g0 := by omega
      rw [z]
      exact ⟨fun q => absurd q t1, fun q => absurd (Or.inr z1) q⟩
    · rw [t2 _ z, h.1 p g a b c d]
      exact ⟨fun q r => r.elim q (fun y => z (by rw [y.1, y.2])), fun q r => q (Or.inl r)⟩
  · rw [cmk_p hx.1 e1 (by omega) e3 hf g cc 12]
    by_cases z : g * 8 + cc = g0 * 8 + C x
    · have z1 : g = g0 ∧ cc = C x := by omega
      have z2 : x < ((12 : Nat) : Int) ∧ g = g0 ∧ C x = cc := ⟨by have := hx.2; omega, z1.1, z1.2.symm⟩
      rw [z, c1, if_pos z2, h.2 g0 (C x) hg.1 hg.2 hc.1 hc.2, z1.1, z1.2]
    · have z2 : ¬ (x < ((12 : Nat) : Int) ∧ g = g0 ∧ C x = cc) := fun q => z (by rw [q.2.1, q.2.2])
      rw [c2 _ z, if_neg z2, h.2 g cc a b c d]; omega
theorem cmk_z {E C f : Int → Int} {g c : Int} : ∀ n : Nat, (∀ k : Int, 0 ≤ k → k < n → E k = -1) → cmk_ E C f g c n = 0
  | 0, _ => rfl
  | n + 1, h => by
    have i := cmk_z (C := C) (f := f) (g := g) (c := c) n (fun k a b => h k a (by omega))
    show cmk_ E C f g c n + (if E n ≠ -1 ∧ f n = g ∧ C n = c then (1 : Int) else 0) = 0
    have n1 : ¬ (E n ≠ -1 ∧ f n = g ∧ C n = c) := fun q => q.1 (h n (by omega) (by omega))
    rw [i, if_neg n1]; rfl
theorem oc_z {T : Zt} {E C f : Int → Int} (a : ∀ j, 0 ≤ j → j < 12 → T 434 0 j = 0) (b : ∀ j, 0 ≤ j → j < 32 → T 435 0 j = 0) : OCW_ T (ep_ E 0 0) C f := by
  refine ⟨fun p g x y z w => ?_, fun g c x y z w => ?_⟩
  · rw [a _ (by omega) (by omega)]
    exact ⟨fun _ ⟨k, q1, q2, q3, q4⟩ => by rw [ep_0 q1] at q3; omega, fun _ => rfl⟩
  · rw [b _ (by omega) (by omega)]
    exact (cmk_z 12 (fun k p q => ep_0 p)).symm
/-- the row waiting holds a list from k on -/
def WB_ (T : Zt) : List Int → Int → Prop
  | [], _ => True
  | x :: l, k => T 432 0 k = x ∧ WB_ T l (k + 1)
theorem wb_s {T : Zt} {x : Int} : ∀ {l : List Int} {k : Int}, WB_ T l k → T 432 0 (k + (l.length : Int)) = x → WB_ T (l ++ [x]) k
  | [], k, _, e => by
    rw [List.length_nil, show k + ((0 : Nat) : Int) = k by omega] at e
    exact ⟨e, trivial⟩
  | y :: l, k, h, e => by
    rw [List.length_cons, show k + ((l.length + 1 : Nat) : Int) = k + 1 + (l.length : Int) by omega] at e
    exact ⟨h.1, wb_s h.2 e⟩
theorem wb_e {T T' : Zt} : ∀ {l : List Int} {k : Int}, WB_ T l k → (∀ j, k ≤ j → j < k + (l.length : Int) → T' 432 0 j = T 432 0 j) → WB_ T' l k
  | [], _, _, _ => trivial
  | y :: l, k, h, e => ⟨(e k (by omega) (by rw [List.length_cons]; omega)).trans h.1, wb_e h.2 (fun j a b => e j (by omega) (by rw [List.length_cons]; omega))⟩
theorem wb_w {T : Zt} : ∀ {l : List Int} {k : Int}, WB_ T l k → k + (l.length : Int) = T 101 0 13 → WL_ T l k
  | [], k, _, e => by
    rw [List.length_nil] at e
    show k = T 101 0 13
    omega
  | y :: l, k, h, e => ⟨h.1, wb_w h.2 (by rw [List.length_cons] at e; omega)⟩
/-- what was counted is what there is -/
def FV_ (T : Zt) : Prop := T 101 0 6 = (nw_ (dh_ T) (-1) (-1) (lhw_ T) (ghw_ T) : Nat) ∧ (∀ c ∈ lhw_ T, ∀ u, 0 ≤ u → u < 4 → T 431 0 (c * 4 + u) = (nw_ (dh_ T) c u (lhw_ T) (ghw_ T) : Nat)) ∧ WL_ T (lhw_ T) 0
def RFP_ (T T' : Zt) : Prop := (T 101 0 7 ≠ 0 ∧ T' = T) ∨ (T 101 0 7 = 0 ∧ T' 101 0 7 = 1 ∧ FV_ T')
theorem lhw_m {T : Zt} {x : Int} (h : x ∈ lhw_ T) : 0 ≤ x ∧ x < 12 ∧ T 429 0 x = -1 ∧ 0 ≤ T 428 0 x ∧ T 428 0 x ≤ 2 := by
  have q := lq_m h
  have r : T 429 0 x = -1 := q.2.2.2.2
  have r2 : T 428 0 x < ((3 : Nat) : Int) := q.2.2.2.1
  have r3 := q.2.1
  exact ⟨q.1, by omega, r, q.2.2.1, by omega⟩
theorem lhw_d (T : Zt) : (lhw_ T).Nodup := by
  have := lq_d (fun k => T 428 0 k) (ghw_ T) 12 3 0
  have e : lpk_ (fun k => T 428 0 k) (ghw_ T) ((3 : Nat) : Int) 0 = [] := rfl
  rw [e, List.append_nil] at this
  exact this
theorem lhw_i {T : Zt} {x : Int} (h0 : 0 ≤ x) (hn : x < 12) (hg : T 429 0 x = -1) (h1 : 0 ≤ T 428 0 x) (h2 : T 428 0 x ≤ 2) : x ∈ lhw_ T := lq_i h0 (by omega) h1 hg (by show T 428 0 x < 3; omega)
theorem dh_e {T T1 : Zt} (a : ∀ k, T1 428 0 k = T 428 0 k) (b : ∀ k, T1 561 0 k = T 561 0 k) (d : T1 101 0 1 = T 101 0 1) (e : T1 101 0 2 = T 101 0 2) : dh_ T1 = dh_ T := by
  unfold dh_
  rw [d, e, show (fun k => T1 428 0 k) = (fun k => T 428 0 k) from funext a, show (fun k => T1 561 0 k) = (fun k => T 561 0 k) from funext b]
theorem ghw_e {T T1 : Zt} (a : ∀ k, T1 429 0 k = T 429 0 k) : ghw_ T1 = ghw_ T := funext a
theorem lhw_e {T T1 : Zt} (a : ∀ k, T1 428 0 k = T 428 0 k) (b : ∀ k, T1 429 0 k = T 429 0 k) : lhw_ T1 = lhw_ T := by
  unfold lhw_
  rw [ghw_e b, show (fun k => T1 428 0 k) = (fun k => T 428 0 k) from funext a]
theorem fv_i {T T1 U U2 : Zt} {x : Int} (hE : ∀ k, U2 428 0 k = T 428 0 k) (hC : ∀ k, U2 561 0 k = T 561 0 k) (hG : ∀ k, U2 429 0 k = T 429 0 k) (h1 : U2 101 0 1 = T 101 0 1) (h2 : U2 101 0 2 = T 101 0 2) (p : PC_ T1 U (dh_ T) (lhw_ T) (ghw_ T) x) (h6 : U2 101 0 6 = x) (h4 : ∀ j, U2 431 0 j = U 431 0 j) (z : ∀ j, 0 ≤ j → j < 48 → T1 431 0 j = 0) (fz : FZ_ T (ghw_ T) (lhw_ T)) (wl : WL_ U2 (lhw_ T) 0) : FV_ U2 := by
  unfold FV_
  rw [dh_e hE hC h1 h2, lhw_e hE hG, ghw_e hG]
  refine ⟨h6.trans p.1, fun c hc u a b => ?_, (wl :)⟩
  have q := fz.2 c hc
  have b9 := fz_b (T := T) (fx := c) (gp := u) rfl fz
  rw [h4, p.2.2.2.1 c hc u a b, z _ (by omega) (by omega), show (0 : Int) + ((nw_ (dh_ T) c u (lhw_ T) (ghw_ T) : Nat) : Int) = ((nw_ (dh_ T) c u (lhw_ T) (ghw_ T) : Nat) : Int) by omega]
  exact wr_i (by omega)
theorem bk_X1_refresh_e_46 : ck_ fX1 none cX1_refresh 46 [.iload 2, .iconst 12, .if_icmp .ge 155, .aload 0, .tableswitch 0 1 8 #[], .iload 2, .iaload, .iload 1, .if_icmp .ne 95, .aload 0, .tableswitch 0 1 9 #[], .iload 2, .iaload, .iconst (-1), .if_icmp .ne 95, .aload 0, .tableswitch 0 1 12 #[], .aload 0, .tableswitch 0 1 13 #[], .iload 2, .iastore, .aload 0, .dup, .tableswitch 0 1 13 #[], .iconst 1, .iadd, .tableswitch 1 1 13 #[], .goto 149] 95 = true := qck_r (nn_ _) (by decide +kernel)
theorem bs_X1_refresh_e_46 {P : Zt → Option Zv → Prop} (K : Int → Zl → List Zv → Zt → Prop) : sx_ K P [.iload 2, .iconst 12, .if_icmp .ge 155, .aload 0, .tableswitch 0 1 8 #[], .iload 2, .iaload, .iload 1, .if_icmp .ne 95, .aload 0, .tableswitch 0 1 9 #[], .iload 2, .iaload, .iconst (-1), .if_icmp .ne 95, .aload 0, .tableswitch 0 1 12 #[], .aload 0, .tableswitch 0 1 13 #[], .iload 2, .iastore, .aload 0, .dup, .tableswitch 0 1 13 #[], .iconst 1, .iadd, .tableswitch 1 1 13 #[], .goto 149] 95 = x_iload 2 (x_iconst 12 (x_if_icmp .ge 155 K (x_aload 0 (x_g1 101 428 (x_iload 2 (x_iaload (x_iload 1 (x_if_icmp .ne 95 K (x_aload 0 (x_g1 101 429 (x_iload 2 (x_iaload (x_iconst (-1) (x_if_icmp .ne 95 K (x_aload 0 (x_g1 101 432 (x_aload 0 (x_g0 101 13 0 12 (x_iload 2 (x_iastore (x_aload 0 (x_dup (x_g0 101 13 0 12 (x_iconst 1 (x_iadd (x_p 101 13 0 12 (x_goto 149 K))))))))))))))))))))))))))) := ((xe_iload 2).trans (congrArg (x_iload 2) ((xe_iconst 12).trans (congrArg (x_iconst 12) ((xe_if_icmp .ge 155).trans (congrArg (x_if_icmp .ge 155 K) ((xe_aload 0).trans (congrArg (x_aload 0) ((xe_g1 (kk := 101) rfl tl_1_8).trans (congrArg (x_g1 101 428) ((xe_iload 2).trans (congrArg (x_iload 2) ((xe_iaload).trans (congrArg (x_iaload) ((xe_iload 1).trans (congrArg (x_iload 1) ((xe_if_icmp .ne 95).trans (congrArg (x_if_icmp .ne 95 K) ((xe_aload 0).trans (congrArg (x_aload 0) ((xe_g1 (kk := 101) rfl tl_1_9).trans (congrArg (x_g1 101 429) ((xe_iload 2).trans (congrArg (x_iload 2) ((xe_iaload).trans (congrArg (x_iaload) ((xe_iconst (-1)).trans (congrArg (x_iconst (-1)) ((xe_if_icmp .ne 95).trans (congrArg (x_if_icmp .ne 95 K) ((xe_aload 0).trans (congrArg (x_aload 0) ((xe_g1 (kk := 101) rfl tl_1_12).trans (congrArg (x_g1 101 432) ((xe_aload 0).trans (congrArg (x_aload 0) ((xe_g0 (kk := 101) rfl tl_1_13).trans (congrArg (x_g0 101 13 0 12) ((xe_iload 2).trans (congrArg (x_iload 2) ((xe_iastore).trans (congrArg (x_iastore) ((xe_aload 0).trans (congrArg (x_aload 0) ((xe_dup).trans (congrArg (x_dup) ((xe_g0 (kk := 101) rfl tl_1_13).trans (congrArg (x_g0 101 13 0 12) ((xe_iconst 1).trans (congrArg (x_iconst 1) ((xe_iadd).trans (congrArg (x_iadd) ((xe_p (kk := 101) rfl tl_1_13).trans (congrArg (x_p 101 13 0 12) (xe_goto 149)))))))))))))))))))))))))))))))))))))))))))))))))))))))
theorem bk_X1_refresh_e_155 : ck_ fX1 none cX1_refresh 155 [.iinc 1 1, .goto 39] 161 = true := qck_r (nn_ _) (by decide +kernel)
theorem bs_X1_refresh_e_155 {P : Zt → Option Zv → Prop} (K : Int → Zl → List Zv → Zt → Prop) : sx_ K P [.iinc 1 1, .goto 39] 161 = x_iinc 1 1 (x_goto 39 K) := ((xe_iinc 1 1).trans (congrArg (x_iinc 1 1) (xe_goto 39)))
theorem bk_X1_refresh_e_95 : ck_ fX1 none cX1_refresh 95 [.aload 0, .tableswitch 0 1 8 #[], .iload 2, .iaload, .iload 1, .if_icmp .ne 149, .aload 0, .tableswitch 0 1 14 #[], .iload 1, .iconst 4, .imul, .aload 0, .tableswitch 0 1 9 #[], .iload 2, .iaload, .iadd, .iconst 1, .iastore, .aload 0, .tableswitch 0 1 15 #[], .aload 0, .tableswitch 0 1 9 #[], .iload 2, .iaload, .iconst 8, .imul, .aload 0, .tableswitch 0 1 0 #[], .tableswitch 0 8 1 #[], .iload 2, .iaload, .iadd, .dup2, .iaload, .iconst 1, .iadd, .iastore, .iinc 2 1, .goto 46] 155 = true := qck_r (nn_ _) (by decide +kernel)
theorem bs_X1_refresh_e_95 {P : Zt → Option Zv → Prop} (K : Int → Zl → List Zv → Zt → Prop) : sx_ K P [.aload 0, .tableswitch 0 1 8 #[], .iload 2, .iaload, .iload 1, .if_icmp .ne 149, .aload 0, .tableswitch 0 1 14 #[], .iload 1, .iconst 4, .imul, .aload 0, .tableswitch 0 1 9 #[], .iload 2, .iaload, .iadd, .iconst 1, .iastore, .aload 0, .tableswitch 0 1 15 #[], .aload 0, .tableswitch 0 1 9 #[], .iload 2, .iaload, .iconst 8, .imul, .aload 0, .tableswitch 0 1 0 #[], .tableswitch 0 8 1 #[], .iload 2, .iaload, .iadd, .dup2, .iaload, .iconst 1, .iadd, .iastore, .iinc 2 1, .goto 46] 155 = x_aload 0 (x_g1 101 428 (x_iload 2 (x_iaload (x_iload 1 (x_if_icmp .ne 149 K (x_aload 0 (x_g1 101 434 (x_iload 1 (x_iconst 4 (x_imul (x_aload 0 (x_g1 101 429 (x_iload 2 (x_iaload (x_iadd (x_iconst 1 (x_iastore (x_aload 0 (x_g1 101 435 (x_aload 0 (x_g1 101 429 (x_iload 2 (x_iaload (x_iconst 8 (x_imul (x_aload 0 (x_g1 101 108 (x_g1 108 561 (x_iload 2 (x_iaload (x_iadd (x_dup2 (x_iaload (x_iconst 1 (x_iadd (x_iastore (x_iinc 2 1 (x_goto 46 K)))))))))))))))))))))))))))))))))))))) := ((xe_aload 0).trans (congrArg (x_aload 0) ((xe_g1 (kk := 101) rfl tl_1_8).trans (congrArg (x_g1 101 428) ((xe_iload 2).trans (congrArg (x_iload 2) ((xe_iaload).trans (congrArg (x_iaload) ((xe_iload 1).trans (congrArg (x_iload 1) ((xe_if_icmp .ne 149).trans (congrArg (x_if_icmp .ne 149 K) ((xe_aload 0).trans (congrArg (x_aload 0) ((xe_g1 (kk := 101) rfl tl_1_14).trans (congrArg (x_g1 101 434) ((xe_iload 1).trans (congrArg (x_iload 1) ((xe_iconst 4).trans (congrArg (x_iconst 4) ((xe_imul).trans (congrArg (x_imul) ((xe_aload 0).trans (congrArg (x_aload 0) ((xe_g1 (kk := 101) rfl tl_1_9).trans (congrArg (x_g1 101 429) ((xe_iload 2).trans (congrArg (x_iload 2) ((xe_iaload).trans (congrArg (x_iaload) ((xe_iadd).trans (congrArg (x_iadd) ((xe_iconst 1).trans (congrArg (x_iconst 1) ((xe_iastore).trans (congrArg (x_iastore) ((xe_aload 0).trans (congrArg (x_aload 0) ((xe_g1 (kk := 101) rfl tl_1_15).trans (congrArg (x_g1 101 435) ((xe_aload 0).trans (congrArg (x_aload 0) ((xe_g1 (kk := 101) rfl tl_1_9).trans (congrArg (x_g1 101 429) ((xe_iload 2).trans (congrArg (x_iload 2) ((xe_iaload).trans (congrArg (x_iaload) ((xe_iconst 8).trans (congrArg (x_iconst 8) ((xe_imul).trans (congrArg (x_imul) ((xe_aload 0).trans (congrArg (x_aload 0) ((xe_g1 (kk := 101) rfl tl_1_0).trans (congrArg (x_g1 101 108) ((xe_g1 (kk := 108) rfl tl_8_1).trans (congrArg (x_g1 108 561) ((xe_iload 2).trans (congrArg (x_iload 2) ((xe_iaload).trans (congrArg (x_iaload) ((xe_iadd).trans (congrArg (x_iadd) ((xe_dup2).trans (congrArg (x_dup2) ((xe_iaload).trans (congrArg (x_iaload) ((xe_iconst 1).trans (congrArg (x_iconst 1) ((xe_iadd).trans (congrArg (x_iadd) ((xe_iastore).trans (congrArg (x_iastore) ((xe_iinc 2 1).trans (congrArg (x_iinc 2 1) (xe_goto 46)))))))))))))))))))))))))))))))))))))))))))))))))))))))))))))))))))))))))))))
theorem bk_X1_refresh_e_149 : ck_ fX1 none cX1_refresh 149 [.iinc 2 1, .goto 46] 155 = true := qck_r (nn_ _) (by decide +kernel)
theorem bs_X1_refresh_e_149 {P : Zt → Option Zv → Prop} (K : Int → Zl → List Zv → Zt → Prop) : sx_ K P [.iinc 2 1, .goto 46] 155 = x_iinc 2 1 (x_goto 46 K) := ((xe_iinc 2 1).trans (congrArg (x_iinc 2 1) (xe_goto 46)))
theorem bk_X1_refresh_e_39 : ck_ fX1 none cX1_refresh 39 [.iload 1, .iconst 3, .if_icmp .ge 161, .iconst 0, .istore 2] 46 = true := qck_r (nn_ _) (by decide +kernel)
theorem bs_X1_refresh_e_39 {P : Zt → Option Zv → Prop} (K : Int → Zl → List Zv → Zt → Prop) : sx_ K P [.iload 1, .iconst 3, .if_icmp .ge 161, .iconst 0, .istore 2] 46 = x_iload 1 (x_iconst 3 (x_if_icmp .ge 161 K (x_iconst 0 (x_istore 2 (K 46))))) := ((xe_iload 1).trans (congrArg (x_iload 1) ((xe_iconst 3).trans (congrArg (x_iconst 3) ((xe_if_icmp .ge 161).trans (congrArg (x_if_icmp .ge 161 K) ((xe_iconst 0).trans (congrArg (x_iconst 0) ((xe_istore 2).trans (congrArg (x_istore 2) xe_nil))))))))))
theorem bk_X1_refresh_e_161 : ck_ fX1 none cX1_refresh 161 [.aload 0, .aload 0, .iconst 0] 164 = true := qck_r (nn_ _) (by decide +kernel)
theorem bs_X1_refresh_e_161 {P : Zt → Option Zv → Prop} (K : Int → Zl → List Zv → Zt → Prop) : sx_ K P [.aload 0, .aload 0, .iconst 0] 164 = x_aload 0 (x_aload 0 (x_iconst 0 (K 164))) := ((xe_aload 0).trans (congrArg (x_aload 0) ((xe_aload 0).trans (congrArg (x_aload 0) ((xe_iconst 0).trans (congrArg (x_iconst 0) xe_nil))))))
theorem bk_X1_refresh_e_167 : ck_ fX1 none cX1_refresh 167 [.tableswitch 1 1 6 #[], .aload 0, .iconst 1, .tableswitch 1 1 7 #[], .return_] 176 = true := qck_r (nn_ _) (by decide +kernel)
theorem bs_X1_refresh_e_167 {P : Zt → Option Zv → Prop} (K : Int → Zl → List Zv → Zt → Prop) : sx_ K P [.tableswitch 1 1 6 #[], .aload 0, .iconst 1, .tableswitch 1 1 7 #[], .return_] 176 = x_p 101 6 (-2147483648) 2147483647 (x_aload 0 (x_iconst 1 (x_p 101 7 0 1 (x_return_ P)))) := ((xe_p (kk := 101) rfl tl_1_6).trans (congrArg (x_p 101 6 (-2147483648) 2147483647) ((xe_aload 0).trans (congrArg (x_aload 0) ((xe_iconst 1).trans (congrArg (x_iconst 1) ((xe_p (kk := 101) rfl tl_1_7).trans (congrArg (x_p 101 7 0 1) (xe_return_)))))))))
theorem bk_X1_refresh_e_0 : ck_ fX1 none cX1_refresh 0 [.aload 0, .tableswitch 0 1 7 #[], .ifCond .eq 8, .return_] 8 = true := qck_r (nn_ _) (by decide +kernel)
theorem bs_X1_refresh_e_0 {P : Zt → Option Zv → Prop} (K : Int → Zl → List Zv → Zt → Prop) : sx_ K P [.aload 0, .tableswitch 0 1 7 #[], .ifCond .eq 8, .return_] 8 = x_aload 0 (x_g0 101 7 0 1 (x_ifCond .eq 8 K (x_return_ P))) := ((xe_aload 0).trans (congrArg (x_aload 0) ((xe_g0 (kk := 101) rfl tl_1_7).trans (congrArg (x_g0 101 7 0 1) ((xe_ifCond .eq 8).trans (congrArg (x_ifCond .eq 8 K) (xe_return_)))))))
theorem bk_X1_refresh_e_8 : ck_ fX1 none cX1_refresh 8 [.aload 0, .tableswitch 0 1 11 #[], .iconst 0] 13 = true := qck_r (nn_ _) (by decide +kernel)
theorem bs_X1_refresh_e_8 {P : Zt → Option Zv → Prop} (K : Int → Zl → List Zv → Zt → Prop) : sx_ K P [.aload 0, .tableswitch 0 1 11 #[], .iconst 0] 13 = x_aload 0 (x_g1 101 431 (x_iconst 0 (K 13))) := ((xe_aload 0).trans (congrArg (x_aload 0) ((xe_g1 (kk := 101) rfl tl_1_11).trans (congrArg (x_g1 101 431) ((xe_iconst 0).trans (congrArg (x_iconst 0) xe_nil))))))
theorem bk_X1_refresh_e_16 : ck_ fX1 none cX1_refresh 16 [.aload 0, .tableswitch 0 1 14 #[], .iconst 0] 21 = true := qck_r (nn_ _) (by decide +kernel)
theorem bs_X1_refresh_e_16 {P : Zt → Option Zv → Prop} (K : Int → Zl → List Zv → Zt → Prop) : sx_ K P [.aload 0, .tableswitch 0 1 14 #[], .iconst 0] 21 = x_aload 0 (x_g1 101 434 (x_iconst 0 (K 21))) := ((xe_aload 0).trans (congrArg (x_aload 0) ((xe_g1 (kk := 101) rfl tl_1_14).trans (congrArg (x_g1 101 434) ((xe_iconst 0).trans (congrArg (x_iconst 0) xe_nil))))))
theorem bk_X1_refresh_e_24 : ck_ fX1 none cX1_refresh 24 [.aload 0, .tableswitch 0 1 15 #[], .iconst 0] 29 = true := qck_r (nn_ _) (by decide +kernel)
theorem bs_X1_refresh_e_24 {P : Zt → Option Zv → Prop} (K : Int → Zl → List Zv → Zt → Prop) : sx_ K P [.aload 0, .tableswitch 0 1 15 #[], .iconst 0] 29 = x_aload 0 (x_g1 101 435 (x_iconst 0 (K 29))) := ((xe_aload 0).trans (congrArg (x_aload 0) ((xe_g1 (kk := 101) rfl tl_1_15).trans (congrArg (x_g1 101 435) ((xe_iconst 0).trans (congrArg (x_iconst 0) xe_nil))))))
theorem bk_X1_refresh_e_32 : ck_ fX1 none cX1_refresh 32 [.aload 0, .iconst 0, .tableswitch 1 1 13 #[], .iconst 0, .istore 1] 39 = true := qck_r (nn_ _) (by decide +kernel)
theorem bs_X1_refresh_e_32 {P : Zt → Option Zv → Prop} (K : Int → Zl → List Zv → Zt → Prop) : sx_ K P [.aload 0, .iconst 0, .tableswitch 1 1 13 #[], .iconst 0, .istore 1] 39 = x_aload 0 (x_iconst 0 (x_p 101 13 0 12 (x_iconst 0 (x_istore 1 (K 39))))) := ((xe_aload 0).trans (congrArg (x_aload 0) ((xe_iconst 0).trans (congrArg (x_iconst 0) ((xe_p (kk := 101) rfl tl_1_13).trans (congrArg (x_p 101 13 0 12) ((xe_iconst 0).trans (congrArg (x_iconst 0) ((xe_istore 1).trans (congrArg (x_istore 1) xe_nil))))))))))
abbrev po_X1_refresh_e (T : Zt) : Zt → Option Zv → Prop := fun T' r => r = none ∧ fr_ [(101, [13, 6, 7]), (434, []), (435, []), (431, []), (432, [])] T T' ∧ (RFP_ T T')
set_option maxHeartbeats 4000000 in
theorem ct_X1_refresh_e {T : Zt} : Ct_ yX1_refresh zX1_refresh T [vR 101 0] (po_X1_refresh_e T) := by
  refine ct_of pn_1 rfl rfl (Nat.le_of_ble_eq_true rfl) (fun hT hav => ?_)
  have hz : zX1_refresh.2.2.2.1 = some .boolean → ∀ (T' : Zt) (x : Int), po_X1_refresh_e T T' (some (vI x)) → 0 ≤ x ∧ x ≤ 1 := fun h => by cases h
  show J_ zX1_refresh T (po_X1_refresh_e T) 0 0 0 [some (vR 101 0), none, none] [] T
  have c_39 : ∀ (nn : Nat) (p : Int) (T1 : Zt), ((3 - p).toNat) ≤ nn → (fr_ [(101, [13]), (434, []), (435, []), (431, []), (432, [])] T T1) → (0 ≤ p ∧ p ≤ 3 ∧ T 101 0 7 = 0) → (T1 101 0 13 = ((lq_ (fun k => T 428 0 k) (ghw_ T) 12 p.toNat).length : Int)) → (WB_ T1 (lq_ (fun k => T 428 0 k) (ghw_ T) 12 p.toNat) 0) → (OCW_ T1 (ep_ (fun k => T 428 0 k) p 0) (fun k => T 561 0 k) (ghw_ T)) → (∀ j, 0 ≤ j → j < 48 → T1 431 0 j = 0) → J_ zX1_refresh T (po_X1_refresh_e T) 0 0 39 [some (vR 101 0), some (vI p), none] [] T1 := by
    intro nn
    induction nn using Nat.strongRecOn with
    | _ nn ih_39 =>
      intro p T1 hm_39 hf_39 i1 wc1 wb1 oc1 wi1
      replace hm_39 := fun (_ : Unit) => hm_39
      have c_46 : ∀ (nn : Nat) (c : Int) (T2 : Zt), ((12 - c).toNat) ≤ nn → (fr_ [(101, [13]), (434, []), (435, []), (431, []), (432, [])] T T2) → (0 ≤ c ∧ c ≤ 12 ∧ p < 3) → (T2 101 0 13 = ((lq_ (fun k => T 428 0 k) (ghw_ T) 12 p.toNat ++ lpk_ (fun k => T 428 0 k) (ghw_ T) p c.toNat).length : Int)) → (WB_ T2 (lq_ (fun k => T 428 0 k) (ghw_ T) 12 p.toNat ++ lpk_ (fun k => T 428 0 k) (ghw_ T) p c.toNat) 0) → (OCW_ T2 (ep_ (fun k => T 428 0 k) p c) (fun k => T 561 0 k) (ghw_ T)) → (∀ j, 0 ≤ j → j < 48 → T2 431 0 j = 0) → J_ zX1_refresh T (po_X1_refresh_e T) 0 0 46 [some (vR 101 0), some (vI p), some (vI c)] [] T2 := by
        intro nn
        induction nn using Nat.strongRecOn with
        | _ nn ih_46 =>
          intro c T2 hm_46 hf_46 i2 wc2 wb2 oc2 wi2
          replace hm_46 := fun (_ : Unit) => hm_46
          refine j_blx (F := fX1) tb_X1 (nn_ _) bk_X1_refresh_e_46 bs_X1_refresh_e_46 hz (fun K hK => ?_)
          refine And.intro (fun c1 => ?_) (fun c1 => ?_)
          · refine hK 155 _ [] T2 ?_
            refine j_blx (F := fX1) tb_X1 (nn_ _) bk_X1_refresh_e_155 bs_X1_refresh_e_155 hz (fun K hK => ?_)
            refine rg_i (by omega) ?_
            refine hK 39 [some (vR 101 0), some (vI (p + 1)), some (vI c)] [] T2 ?_
            refine j_drop [some (vR 101 0), some (vI (p + 1)), none] (fun k v hk => ?_) rfl ?_
            · match k, hk with
              | 0, hk => exact hk
              | 1, hk => exact hk
              | 2, hk => cases hk
              | k + 3, hk => cases hk
            refine ih_39 _ ?_ (p + 1) T2 (Nat.le_refl _) ?_ ?_ ?_ ?_ ?_ ?_
            · have hm_39 := hm_39 (); omega
            · exact fr_t (fr_0 _ _) (fr_s hf_46 rfl)
            · omega
            · rw [lq_t (by omega)]
              have h9 := wc2
              rw [show c.toNat = 12 by omega] at h9
              exact h9
            · rw [lq_t (by omega)]
              have h9 := wb2
              rw [show c.toNat = 12 by omega] at h9
              exact h9
            · refine oc_c oc2 (fun k a b => Or.inl ?_)
              rw [show c = 12 by omega]
              exact ep_p (by omega) b a
            · exact wi2
          · refine ix_i (by omega) ?_
            intro b2 b2b
            have e3 : T2 428 0 c = T 428 0 c := hf_46 428 0 c rfl
            rw [e3] at b2 b2b ⊢
            refine And.intro (fun c4 => ?_) (fun c4 => ?_)
            · refine hK 95 [some (vR 101 0), some (vI p), some (vI c)] [] T2 ?_
              refine j_blx (F := fX1) tb_X1 (nn_ _) bk_X1_refresh_e_95 bs_X1_refresh_e_95 hz (fun K hK => ?_)
              refine ix_i (by omega) ?_
              intro b5 b5b
              have e6 : T2 428 0 c = T 428 0 c := hf_46 428 0 c rfl
              rw [e6] at b5 b5b ⊢
              refine And.intro (fun c7 => ?_) (fun c7 => ?_)
              · refine hK 149 _ [] T2 ?_
                refine j_blx (F := fX1) tb_X1 (nn_ _) bk_X1_refresh_e_149 bs_X1_refresh_e_149 hz (fun K hK => ?_)
                refine rg_i (by omega) ?_
                refine hK 46 [some (vR 101 0), some (vI p), some (vI (c + 1))] [] T2 ?_
                refine ih_46 _ ?_ (c + 1) T2 (Nat.le_refl _) ?_ ?_ ?_ ?_ ?_ ?_
                · have hm_46 := hm_46 (); omega
                · exact fr_t (fr_0 _ _) (fr_s hf_46 rfl)
                · omega
                · rw [lpk_f (E := fun k => T 428 0 k) (b := ghw_ T) (p := p) (k := c) (by omega) (show ¬ (T 428 0 c = p ∧ T 429 0 c = -1) by omega)]
                  exact wc2
                · rw [lpk_f (E := fun k => T 428 0 k) (b := ghw_ T) (p := p) (k := c) (by omega) (show ¬ (T 428 0 c = p ∧ T 429 0 c = -1) by omega)]
                  exact wb2
                · exact oc_c oc2 (fun k a b => Or.inl (ep_n (fun q => by have q2 : T 428 0 c = p := q.2; omega)))
                · exact wi2
              · refine rg_i (by omega) ?_
                refine ix_i (by omega) ?_
                intro b8 b8b
                have e9 : T2 429 0 c = T 429 0 c := hf_46 429 0 c rfl
                rw [e9] at b8 b8b ⊢
                refine rg_i (by omega) ?_
                refine iy_i (by omega) (by omega) ?_
                refine x_nm (fun U10 hU10 => ?_)
                have e11 := up_f hU10
                refine ix_i (by omega) ?_
                intro b12 b12b
                have e13 : U10 429 0 c = T 429 0 c := (up_k hU10 (by exact Nat.ne_of_beq_eq_false rfl) 0 c).trans (hf_46 429 0 c rfl)
                rw [e13] at b12 b12b ⊢
                refine rg_i (by omega) ?_
                refine ix_i (by omega) ?_
                intro b14 b14b
                have e15 : U10 561 0 c = T 561 0 c := (up_k hU10 (by exact Nat.ne_of_beq_eq_false rfl) 0 c).trans (hf_46 561 0 c rfl)
                rw [e15] at b14 b14b ⊢
                refine rg_i (by omega) ?_
                refine ix_i (by omega) ?_
                intro b16 b16b
                have e17 : U10 435 0 (((T 429 0 c) * 8) + (T 561 0 c)) = T2 435 0 (((T 429 0 c) * 8) + (T 561 0 c)) := up_k hU10 (by exact Nat.ne_of_beq_eq_false rfl) 0 (((T 429 0 c) * 8) + (T 561 0 c))
                rw [e17] at b16 b16b ⊢
                have hcb : T2 435 0 (T 429 0 c * 8 + T 561 0 c) = cmk_ (ep_ (fun k => T 428 0 k) p c) (fun k => T 561 0 k) (ghw_ T) (T 429 0 c) (T 561 0 c) 12 := oc2.2 (T 429 0 c) (T 561 0 c) (by omega) (by omega) (by omega) (by omega)
                have hcc := cmk_b (ep_ (fun k => T 428 0 k) p c) (fun k => T 561 0 k) (ghw_ T) (T 429 0 c) (T 561 0 c) 12
                refine rg_i (by omega) ?_
                refine iy_i (by omega) (by omega) ?_
                refine x_nm (fun U18 hU18 => ?_)
                have e19 := up_f hU18
                refine rg_i (by omega) ?_
                refine hK 46 _ [] U18 ?_
                have e20 : U18 101 0 13 = T2 101 0 13 := (up_k hU18 (by exact Nat.ne_of_beq_eq_false rfl) 0 13).trans (up_k hU10 (by exact Nat.ne_of_beq_eq_false rfl) 0 13)
                refine ih_46 _ ?_ (c + 1) U18 (Nat.le_refl _) ?_ ?_ ?_ ?_ ?_ ?_
                · have hm_46 := hm_46 (); omega
                · exact fr_u (fr_u (fr_t (fr_0 _ _) (fr_s hf_46 rfl)) hU10 rfl) hU18 rfl
                · omega
                · rw [show U18 101 0 13 = T2 101 0 13 from (up_k hU18 (by exact Nat.ne_of_beq_eq_false rfl) 0 _).trans (up_k hU10 (by exact Nat.ne_of_beq_eq_false rfl) 0 _)]
                  rw [lpk_f (E := fun k => T 428 0 k) (b := ghw_ T) (p := p) (k := c) (by omega) (show ¬ (T 428 0 c = p ∧ T 429 0 c = -1) by omega)]
                  exact wc2
                · rw [lpk_f (E := fun k => T 428 0 k) (b := ghw_ T) (p := p) (k := c) (by omega) (show ¬ (T 428 0 c = p ∧ T 429 0 c = -1) by omega)]
                  exact wb_e wb2 (fun j a b => (up_k hU18 (by exact Nat.ne_of_beq_eq_false rfl) 0 j).trans (up_k hU10 (by exact Nat.ne_of_beq_eq_false rfl) 0 j))
                · exact oc_p (x := c) (p0 := p) (g0 := T 429 0 c) oc2 (by omega) (ep_c (E := (fun k => T 428 0 k)) (show T 428 0 c = p by omega)).1 (ep_c (E := (fun k => T 428 0 k)) (show T 428 0 c = p by omega)).2 (fun k hk => ep_n (fun q => hk q.1)) rfl (by omega) (by omega) (show 0 ≤ T 561 0 c ∧ T 561 0 c < 8 by omega) (by rw [up_k hU18 (by exact Nat.ne_of_beq_eq_false rfl), up_f hU10]; decide) (fun j hj => (up_k hU18 (by exact Nat.ne_of_beq_eq_false rfl) 0 j).trans (up_g hU10 (fun q => hj q.2.2))) (by show U18 435 0 (T 429 0 c * 8 + T 561 0 c) = T2 435 0 (T 429 0 c * 8 + T 561 0 c) + 1; exact up_f hU18) (fun j hj => (up_g hU18 (fun q => hj q.2.2)).trans (up_k hU10 (by exact Nat.ne_of_beq_eq_false rfl) 0 j))
                · exact fun j a b => ((up_k hU18 (by exact Nat.ne_of_beq_eq_false rfl) 0 j).trans (up_k hU10 (by exact Nat.ne_of_beq_eq_false rfl) 0 j)).trans (wi2 j a b)
            · refine ix_i (by omega) ?_
              intro b21 b21b
              have e22 : T2 429 0 c = T 429 0 c := hf_46 429 0 c rfl
              rw [e22] at b21 b21b ⊢
              refine And.intro (fun c23 => ?_) (fun c23 => ?_)
              · refine hK 95 _ [] T2 ?_
                refine j_blx (F := fX1) tb_X1 (nn_ _) bk_X1_refresh_e_95 bs_X1_refresh_e_95 hz (fun K hK => ?_)
                refine ix_i (by omega) ?_
                intro b24 b24b
                have e25 : T2 428 0 c = T 428 0 c := hf_46 428 0 c rfl
                rw [e25] at b24 b24b ⊢
                refine And.intro (fun c26 => ?_) (fun c26 => ?_)
                · refine hK 149 _ [] T2 ?_
                  refine j_blx (F := fX1) tb_X1 (nn_ _) bk_X1_refresh_e_149 bs_X1_refresh_e_149 hz (fun K hK => ?_)
                  refine rg_i (by omega) ?_
                  refine hK 46 [some (vR 101 0), some (vI p), some (vI (c + 1))] [] T2 ?_
                  refine ih_46 _ ?_ (c + 1) T2 (Nat.le_refl _) ?_ ?_ ?_ ?_ ?_ ?_
                  · have hm_46 := hm_46 (); omega
                  · exact fr_t (fr_0 _ _) (fr_s hf_46 rfl)
                  · omega
                  · rw [lpk_f (E := fun k => T 428 0 k) (b := ghw_ T) (p := p) (k := c) (by omega) (show ¬ (T 428 0 c = p ∧ T 429 0 c = -1) by omega)]
                    exact wc2
                  · rw [lpk_f (E := fun k => T 428 0 k) (b := ghw_ T) (p := p) (k := c) (by omega) (show ¬ (T 428 0 c = p ∧ T 429 0 c = -1) by omega)]
                    exact wb2
                  · exact oc_c oc2 (fun k a b => Or.inl (ep_n (fun q => by have q2 : T 428 0 c = p := q.2; omega)))
                  · exact wi2
                · refine rg_i (by omega) ?_
                  refine ix_i (by omega) ?_
                  intro b27 b27b
                  have e28 : T2 429 0 c = T 429 0 c := hf_46 429 0 c rfl
                  rw [e28] at b27 b27b ⊢
                  refine rg_i (by omega) ?_
                  refine iy_i (by omega) (by omega) ?_
                  refine x_nm (fun U29 hU29 => ?_)
                  have e30 := up_f hU29
                  refine ix_i (by omega) ?_
                  intro b31 b31b
                  have e32 : U29 429 0 c = T 429 0 c := (up_k hU29 (by exact Nat.ne_of_beq_eq_false rfl) 0 c).trans (hf_46 429 0 c rfl)
                  rw [e32] at b31 b31b ⊢
                  refine rg_i (by omega) ?_
                  refine ix_i (by omega) ?_
                  intro b33 b33b
                  have e34 : U29 561 0 c = T 561 0 c := (up_k hU29 (by exact Nat.ne_of_beq_eq_false rfl) 0 c).trans (hf_46 561 0 c rfl)
                  rw [e34] at b33 b33b ⊢
                  refine rg_i (by omega) ?_
                  refine ix_i (by omega) ?_
                  intro b35 b35b
                  have e36 : U29 435 0 (((T 429 0 c) * 8) + (T 561 0 c)) = T2 435 0 (((T 429 0 c) * 8) + (T 561 0 c)) := up_k hU29 (by exact Nat.ne_of_beq_eq_false rfl) 0 (((T 429 0 c) * 8) + (T 561 0 c))
                  rw [e36] at b35 b35b ⊢
                  have hcb : T2 435 0 (T 429 0 c * 8 + T 561 0 c) = cmk_ (ep_ (fun k => T 428 0 k) p c) (fun k => T 561 0 k) (ghw_ T) (T 429 0 c) (T 561 0 c) 12 := oc2.2 (T 429 0 c) (T 561 0 c) (by omega) (by omega) (by omega) (by omega)
                  have hcc := cmk_b (ep_ (fun k => T 428 0 k) p c) (fun k => T 561 0 k) (ghw_ T) (T 429 0 c) (T 561 0 c) 12
                  refine rg_i (by omega) ?_
                  refine iy_i (by omega) (by omega) ?_
                  refine x_nm (fun U37 hU37 => ?_)
                  have e38 := up_f hU37
                  refine rg_i (by omega) ?_
                  refine hK 46 _ [] U37 ?_
                  have e39 : U37 101 0 13 = T2 101 0 13 := (up_k hU37 (by exact Nat.ne_of_beq_eq_false rfl) 0 13).trans (up_k hU29 (by exact Nat.ne_of_beq_eq_false rfl) 0 13)
                  refine ih_46 _ ?_ (c + 1) U37 (Nat.le_refl _) ?_ ?_ ?_ ?_ ?_ ?_
                  · have hm_46 := hm_46 (); omega
                  · exact fr_u (fr_u (fr_t (fr_0 _ _) (fr_s hf_46 rfl)) hU29 rfl) hU37 rfl
                  · omega
                  · rw [show U37 101 0 13 = T2 101 0 13 from (up_k hU37 (by exact Nat.ne_of_beq_eq_false rfl) 0 _).trans (up_k hU29 (by exact Nat.ne_of_beq_eq_false rfl) 0 _)]
                    rw [lpk_f (E := fun k => T 428 0 k) (b := ghw_ T) (p := p) (k := c) (by omega) (show ¬ (T 428 0 c = p ∧ T 429 0 c = -1) by omega)]
                    exact wc2
                  · rw [lpk_f (E := fun k => T 428 0 k) (b := ghw_ T) (p := p) (k := c) (by omega) (show ¬ (T 428 0 c = p ∧ T 429 0 c = -1) by omega)]
                    exact wb_e wb2 (fun j a b => (up_k hU37 (by exact Nat.ne_of_beq_eq_false rfl) 0 j).trans (up_k hU29 (by exact Nat.ne_of_beq_eq_false rfl) 0 j))
                  · exact oc_p (x := c) (p0 := p) (g0 := T 429 0 c) oc2 (by omega) (ep_c (E := (fun k => T 428 0 k)) (show T 428 0 c = p by omega)).1 (ep_c (E := (fun k => T 428 0 k)) (show T 428 0 c = p by omega)).2 (fun k hk => ep_n (fun q => hk q.1)) rfl (by omega) (by omega) (show 0 ≤ T 561 0 c ∧ T 561 0 c < 8 by omega) (by rw [up_k hU37 (by exact Nat.ne_of_beq_eq_false rfl), up_f hU29]; decide) (fun j hj => (up_k hU37 (by exact Nat.ne_of_beq_eq_false rfl) 0 j).trans (up_g hU29 (fun q => hj q.2.2))) (by show U37 435 0 (T 429 0 c * 8 + T 561 0 c) = T2 435 0 (T 429 0 c * 8 + T 561 0 c) + 1; exact up_f hU37) (fun j hj => (up_g hU37 (fun q => hj q.2.2)).trans (up_k hU29 (by exact Nat.ne_of_beq_eq_false rfl) 0 j))
                  · exact fun j a b => ((up_k hU37 (by exact Nat.ne_of_beq_eq_false rfl) 0 j).trans (up_k hU29 (by exact Nat.ne_of_beq_eq_false rfl) 0 j)).trans (wi2 j a b)
              · have hnd := lx_d (E := (fun k => T 428 0 k)) (b := (ghw_ T)) (n := 12) (p := p) (k := c + 1) (by omega)
                have hnm : ∀ x ∈ lq_ (fun k => T 428 0 k) (ghw_ T) 12 p.toNat ++ lpk_ (fun k => T 428 0 k) (ghw_ T) p (c + 1).toNat, 0 ≤ x ∧ x < 12 := fun x hx => by have := lx_m (n := 12) (by omega) (by omega) hx; omega
                have hnl := nd_len (by decide) hnm hnd
                rw [lpk_t (E := fun k => T 428 0 k) (b := ghw_ T) (p := p) (k := c) (by omega) (show T 428 0 c = p ∧ T 429 0 c = -1 by omega), ← List.append_assoc, List.length_append, List.length_singleton] at hnl
                intro b40 b40b
                refine iy_i (by omega) (by omega) ?_
                refine x_nm (fun U41 hU41 => ?_)
                have e42 := up_f hU41
                intro b43 b43b
                have e44 : U41 101 0 13 = T2 101 0 13 := up_k hU41 (by exact Nat.ne_of_beq_eq_false rfl) 0 13
                rw [e44] at b43 b43b ⊢
                refine rg_i (by omega) ?_
                refine bd_i (by omega) ?_
                refine x_nm (fun U45 hU45 => ?_)
                have e46 := up_f hU45
                refine hK 149 _ [] U45 ?_
                refine j_blx (F := fX1) tb_X1 (nn_ _) bk_X1_refresh_e_149 bs_X1_refresh_e_149 hz (fun K hK => ?_)
                refine rg_i (by omega) ?_
                refine hK 46 [some (vR 101 0), some (vI p), some (vI (c + 1))] [] U45 ?_
                have e47 : U45 101 0 13 = (T2 101 0 13) + 1 := up_f hU45
                refine ih_46 _ ?_ (c + 1) U45 (Nat.le_refl _) ?_ ?_ ?_ ?_ ?_ ?_
                · have hm_46 := hm_46 (); omega
                · exact fr_u (fr_u (fr_t (fr_0 _ _) (fr_s hf_46 rfl)) hU41 rfl) hU45 rfl
                · omega
                · rw [lpk_t (E := fun k => T 428 0 k) (b := ghw_ T) (p := p) (k := c) (by omega) (show T 428 0 c = p ∧ T 429 0 c = -1 by omega), ← List.append_assoc, List.length_append, List.length_singleton, up_f hU45]
                  omega
                · rw [lpk_t (E := fun k => T 428 0 k) (b := ghw_ T) (p := p) (k := c) (by omega) (show T 428 0 c = p ∧ T 429 0 c = -1 by omega), ← List.append_assoc]
                  refine wb_s (wb_e wb2 (fun j a b => (up_k hU45 (by exact Nat.ne_of_beq_eq_false rfl) 0 j).trans (up_g hU41 (fun q => by have := q.2.2; omega)))) ?_
                  rw [show (0 : Int) + ((lq_ (fun k => T 428 0 k) (ghw_ T) 12 p.toNat ++ lpk_ (fun k => T 428 0 k) (ghw_ T) p c.toNat).length : Int) = T2 101 0 13 by omega]
                  exact (up_k hU45 (by exact Nat.ne_of_beq_eq_false rfl) 0 _).trans (up_f hU41)
                · refine oc_c (oc_e oc2 (fun j => (up_k hU45 (by exact Nat.ne_of_beq_eq_false rfl) 0 j).trans (up_k hU41 (by exact Nat.ne_of_beq_eq_false rfl) 0 j)) (fun j => (up_k hU45 (by exact Nat.ne_of_beq_eq_false rfl) 0 j).trans (up_k hU41 (by exact Nat.ne_of_beq_eq_false rfl) 0 j))) (fun k a b => ?_)
                  by_cases z : k = c
                  · exact Or.inr (by rw [z]; show T 429 0 c = -1; omega)
                  · exact Or.inl (ep_n (fun q => z q.1))
                · exact fun j a b => ((up_k hU45 (by exact Nat.ne_of_beq_eq_false rfl) 0 j).trans (up_k hU41 (by exact Nat.ne_of_beq_eq_false rfl) 0 j)).trans (wi2 j a b)
      refine j_blx (F := fX1) tb_X1 (nn_ _) bk_X1_refresh_e_39 bs_X1_refresh_e_39 hz (fun K hK => ?_)
      refine And.intro (fun c48 => ?_) (fun c48 => ?_)
      · refine hK 161 _ [] T1 ?_
        refine j_blx (F := fX1) tb_X1 (nn_ _) bk_X1_refresh_e_161 bs_X1_refresh_e_161 hz (fun K hK => ?_)
        refine hK 164 _ [vI 0, vR 101 0, vR 101 0] T1 ?_
        have ep : p = 3 := by omega
        subst ep
        have hll : lq_ (fun k => T 428 0 k) (ghw_ T) 12 (3 : Int).toNat = lhw_ T := rfl
        rw [hll] at wc1 wb1
        have hfz : FZ_ T (ghw_ T) (lhw_ T) := ⟨lhw_d T, fun z hz => by
          have q := lhw_m hz
          exact ⟨⟨q.1, q.2.1⟩, q.2.2.1, q.2.2.2, bd_a hT 561 (by decide +kernel : ta_ 561 = some (1, some 12, 0, 7)) 0 q.1⟩⟩
        have hfz1 : FZ_ T1 (ghw_ T) (lhw_ T) := ⟨hfz.1, fun z hz => by rw [hf_39 428 0 z rfl, hf_39 561 0 z rfl]; exact hfz.2 z hz⟩
        have hoc : OCW_ T1 (dh_ T).E (dh_ T).C (ghw_ T) := oc_c oc1 (fun k a b => Or.inl (ep_3 (E := fun k => T 428 0 k) (bd_a hT 428 (by decide +kernel : ta_ 428 = some (1, some 12, -1, 2)) 0 a)).symm)
        have hwl := wb_w wb1 (show (0 : Int) + ((lhw_ T).length : Int) = T1 101 0 13 by omega)
        have hdq : dh_ T = dh_ T1 := (dh_e (fun k => hf_39 428 0 k rfl) (fun k => hf_39 561 0 k rfl) (hf_39 101 0 1 rfl) (hf_39 101 0 2 rfl)).symm
        have hnl := nd_len (n := 12) (by decide) (fun x hx => ⟨(lhw_m hx).1, (lhw_m hx).2.1⟩) (lhw_d T)
        refine j_callV (y := yX1_countFrom) (Yc := zX1_cf 12) (rest := [vR 101 0]) [vI 0] (ct_cf (lhw_ T) 12 (by omega) T1 (ghw_ T) 0 hdq (hwl :) hoc hfz1 (by decide)) (cl_cf 12) (by decide +kernel) (by decide) rfl (by decide +kernel) (Nat.le_of_ble_eq_true rfl) (by decide) (by decide) rfl ?_
        rintro U49 _ ⟨x50, rfl, fU49, qU49⟩
        have hb9 := fz_b (T := T) (fx := -1) (gp := -1) rfl hfz
        have hx9 : 0 ≤ x50 ∧ x50 ≤ 13824 := by have := qU49.1; omega
        show J_ zX1_refresh T (po_X1_refresh_e T) 0 0 167 [some (vR 101 0), some (vI 3), none] [vI x50, vR 101 0] U49
        refine j_blx (F := fX1) tb_X1 (nn_ _) bk_X1_refresh_e_167 bs_X1_refresh_e_167 hz (fun K hK => ?_)
        refine bd_i (by omega) ?_
        refine x_nm (fun U51 hU51 => ?_)
        have e52 := up_f hU51
        refine bd_i (by omega) ?_
        refine x_nm (fun U53 hU53 => ?_)
        have e54 := up_f hU53
        refine (show po_X1_refresh_e T U53 (none) from ?_)
        have hwl2 := wl_e (T := T1) (T' := U53) (fun j => (up_k hU53 (by exact Nat.ne_of_beq_eq_false rfl) 0 j).trans ((up_k hU51 (by exact Nat.ne_of_beq_eq_false rfl) 0 j).trans (fU49 432 0 j rfl))) ((up_j hU53 (by decide) 101 0).trans ((up_j hU51 (by decide) 101 0).trans (fU49 101 0 13 rfl))) (hwl :)
        exact ⟨rfl, fr_u (fr_u (fr_t (fr_t (fr_0 _ _) (fr_s hf_39 rfl)) (fr_s fU49 rfl)) hU51 rfl) hU53 rfl, Or.inr ⟨by omega, up_f hU53, fv_i (T := T) (T1 := T1) (U := U49) (fun k => (up_k hU53 (by exact Nat.ne_of_beq_eq_false rfl) 0 k).trans ((up_k hU51 (by exact Nat.ne_of_beq_eq_false rfl) 0 k).trans ((fU49 428 0 k rfl).trans (hf_39 428 0 k rfl)))) (fun k => (up_k hU53 (by exact Nat.ne_of_beq_eq_false rfl) 0 k).trans ((up_k hU51 (by exact Nat.ne_of_beq_eq_false rfl) 0 k).trans ((fU49 561 0 k rfl).trans (hf_39 561 0 k rfl)))) (fun k => (up_k hU53 (by exact Nat.ne_of_beq_eq_false rfl) 0 k).trans ((up_k hU51 (by exact Nat.ne_of_beq_eq_false rfl) 0 k).trans ((fU49 429 0 k rfl).trans (hf_39 429 0 k rfl)))) ((up_j hU53 (by decide) 101 0).trans ((up_j hU51 (by decide) 101 0).trans ((fU49 101 0 1 rfl).trans (hf_39 101 0 1 rfl)))) ((up_j hU53 (by decide) 101 0).trans ((up_j hU51 (by decide) 101 0).trans ((fU49 101 0 2 rfl).trans (hf_39 101 0 2 rfl)))) qU49 ((up_j hU53 (by decide) 101 0).trans (up_f hU51)) (fun j => (up_k hU53 (by exact Nat.ne_of_beq_eq_false rfl) 0 j).trans (up_k hU51 (by exact Nat.ne_of_beq_eq_false rfl) 0 j)) wi1 hfz (hwl2 :)⟩⟩
      · refine hK 46 [some (vR 101 0), some (vI p), some (vI 0)] [] T1 ?_
        refine c_46 _ 0 T1 (Nat.le_refl _) ?_ ?_ ?_ ?_ ?_ ?_
        · exact fr_t (fr_0 _ _) (fr_s hf_39 rfl)
        · omega
        · show _ = ((lq_ (fun k => T 428 0 k) (ghw_ T) 12 p.toNat ++ []).length : Int)
          rw [List.append_nil]
          exact wc1
        · show WB_ T1 (lq_ (fun k => T 428 0 k) (ghw_ T) 12 p.toNat ++ []) 0
          rw [List.append_nil]
          exact wb1
        · exact oc1
        · exact wi1
  refine j_blx (F := fX1) tb_X1 (nn_ _) bk_X1_refresh_e_0 bs_X1_refresh_e_0 hz (fun K hK => ?_)
  intro b55 b55b
  refine And.intro (fun c56 => ?_) (fun c56 => ?_)
  · refine hK 8 _ [] T ?_
    refine j_blx (F := fX1) tb_X1 (nn_ _) bk_X1_refresh_e_8 bs_X1_refresh_e_8 hz (fun K hK => ?_)
    refine hK 13 _ [vI 0, vR 431 0] T ?_
    refine j_callS (y := yJ7_fill_53178) (Yc := zJ7_fill_53178) (rest := []) [vR 431 0, vI 0] (ct_J7_fill_431 (T := T) (by omega)) cl_X1_54 (qd_c (by decide +kernel)) (nn_ _) rfl (rf_of rfl) (Nat.le_of_ble_eq_true rfl) (Nat.le_of_ble_eq_true rfl) (Nat.le_of_ble_eq_true rfl) rfl ?_
    rintro U57 _ ⟨rfl, fU57, qU57o, qU57⟩
    show J_ zX1_refresh T (po_X1_refresh_e T) 0 0 16 _ [] U57
    refine j_blx (F := fX1) tb_X1 (nn_ _) bk_X1_refresh_e_16 bs_X1_refresh_e_16 hz (fun K hK => ?_)
    refine hK 21 _ [vI 0, vR 434 0] U57 ?_
    refine j_callS (y := yJ7_fill_53178) (Yc := zJ7_fill_53178) (rest := []) [vR 434 0, vI 0] (ct_J7_fill_434 (T := U57) (by omega)) cl_X1_54 (qd_c (by decide +kernel)) (nn_ _) rfl (rf_of rfl) (Nat.le_of_ble_eq_true rfl) (Nat.le_of_ble_eq_true rfl) (Nat.le_of_ble_eq_true rfl) rfl ?_
    rintro U58 _ ⟨rfl, fU58, qU58o, qU58⟩
    show J_ zX1_refresh T (po_X1_refresh_e T) 0 0 24 _ [] U58
    refine j_blx (F := fX1) tb_X1 (nn_ _) bk_X1_refresh_e_24 bs_X1_refresh_e_24 hz (fun K hK => ?_)
    refine hK 29 _ [vI 0, vR 435 0] U58 ?_
    refine j_callS (y := yJ7_fill_53178) (Yc := zJ7_fill_53178) (rest := []) [vR 435 0, vI 0] (ct_J7_fill_435 (T := U58) (by omega)) cl_X1_54 (qd_c (by decide +kernel)) (nn_ _) rfl (rf_of rfl) (Nat.le_of_ble_eq_true rfl) (Nat.le_of_ble_eq_true rfl) (Nat.le_of_ble_eq_true rfl) rfl ?_
    rintro U59 _ ⟨rfl, fU59, qU59o, qU59⟩
    show J_ zX1_refresh T (po_X1_refresh_e T) 0 0 32 _ [] U59
    refine j_blx (F := fX1) tb_X1 (nn_ _) bk_X1_refresh_e_32 bs_X1_refresh_e_32 hz (fun K hK => ?_)
    refine bd_i (by omega) ?_
    refine x_nm (fun U60 hU60 => ?_)
    have e61 := up_f hU60
    refine hK 39 [some (vR 101 0), some (vI 0), none] [] U60 ?_
    have e62 : U60 101 0 13 = 0 := up_f hU60
    refine c_39 _ 0 U60 (Nat.le_refl _) ?_ ?_ ?_ ?_ ?_ ?_
    · exact fr_u (fr_t (fr_t (fr_t (fr_0 _ _) (fr_s fU57 rfl)) (fr_s fU58 rfl)) (fr_s fU59 rfl)) hU60 rfl
    · omega
    · rw [up_f hU60]; rfl
    · exact trivial
    · exact oc_z (fun j a b => (up_k hU60 (by exact Nat.ne_of_beq_eq_false rfl) 0 j).trans ((fU59 434 0 j rfl).trans (qU58 j a b))) (fun j a b => (up_k hU60 (by exact Nat.ne_of_beq_eq_false rfl) 0 j).trans (qU59 j a b))
    · exact fun j a b => (up_k hU60 (by exact Nat.ne_of_beq_eq_false rfl) 0 j).trans ((fU59 431 0 j rfl).trans ((fU58 431 0 j rfl).trans (qU57 j a b)))
  · refine (show po_X1_refresh_e T T (none) from ?_)
    exact ⟨rfl, fr_0 _ _, Or.inl ⟨by omega, rfl⟩⟩
