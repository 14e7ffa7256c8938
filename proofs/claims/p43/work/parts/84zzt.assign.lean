-- officials: the choice match by match, words
/-- the best by sets hangs on the matches and officials at hand alone -/
theorem mx_c {d d' : Int → Int → Int} {A A' : Int → Int → Prop} {k s : Int} {B B' : Int → Int} (hB : ∀ t, 0 ≤ t → t ≤ 4095 → B t = B' t) (hs : 0 ≤ s ∧ s ≤ 4095) : ∀ N : Nat, N ≤ 8 → (∀ o, 0 ≤ o → o < (N : Int) → d k o = d' k o ∧ (A k o ↔ A' k o)) → mx9_ d A k s B N = mx9_ d' A' k s B' N
  | 0, _, _ => hB s hs.1 hs.2
  | N + 1, hN, h => by
    have ih := mx_c hB hs N (by omega) (fun o a b => h o a (by omega))
    have e := h (N : Int) (by omega) (by omega)
    have o2 := or_b hs (sl_b (c := (N : Int)) (by omega))
    show cz_ ((an_ (sr_ s (N : Int)) 1 = 0 ∧ A k (N : Int)) ∧ mx9_ d A k s B N < 1000 - d k (N : Int) + B (or_ s (sl_ 1 (N : Int)))) (1000 - d k (N : Int) + B (or_ s (sl_ 1 (N : Int)))) (mx9_ d A k s B N) = cz_ ((an_ (sr_ s (N : Int)) 1 = 0 ∧ A' k (N : Int)) ∧ mx9_ d' A' k s B' N < 1000 - d' k (N : Int) + B' (or_ s (sl_ 1 (N : Int)))) (1000 - d' k (N : Int) + B' (or_ s (sl_ 1 (N : Int)))) (mx9_ d' A' k s B' N)
    rw [ih, e.1, hB _ o2.1 o2.2, show A k (N : Int) = A' k (N : Int) from propext e.2]
theorem bw_c {d d' : Int → Int → Int} {A A' : Int → Int → Prop} {n e : Int} (hn : n ≤ 8) : ∀ (j : Nat) (s : Int), (0 ≤ s ∧ s ≤ 4095) → (∀ i o, e - (j : Int) ≤ i → i < e → 0 ≤ o → o < n → d i o = d' i o ∧ (A i o ↔ A' i o)) → bw9_ d A n e j s = bw9_ d' A' n e j s
  | 0, _, _, _ => rfl
  | j + 1, s, hs, h => by
    show mx9_ d A (e - ((j + 1 : Nat) : Int)) s (fun t => bw9_ d A n e j t) n.toNat = mx9_ d' A' (e - ((j + 1 : Nat) : Int)) s (fun t => bw9_ d' A' n e j t) n.toNat
    exact mx_c (fun t a b => bw_c hn j t ⟨a, b⟩ (fun i o p q r u => h i o (by omega) q r u)) hs n.toNat (by omega) (fun o a b => h _ o (by omega) (by omega) a (by omega))
/-- the first official who keeps the best -/
noncomputable def fb9_ (d : Int → Int → Int) (A : Int → Int → Prop) (B : Int → Int) (V k s : Int) : Nat → Int
  | 0 => -1
  | w + 1 => cz_ (fb9_ d A B V k s w = -1 ∧ (an_ (sr_ s (w : Int)) 1 = 0 ∧ A k (w : Int)) ∧ 1000 - d k (w : Int) + B (or_ s (sl_ 1 (w : Int))) = V) (w : Int) (fb9_ d A B V k s w)
theorem fb_t {d : Int → Int → Int} {A : Int → Int → Prop} {B : Int → Int} {V k s w : Int} (hw : 0 ≤ w) (h : fb9_ d A B V k s w.toNat = -1 ∧ (an_ (sr_ s w) 1 = 0 ∧ A k w) ∧ 1000 - d k w + B (or_ s (sl_ 1 w)) = V) : fb9_ d A B V k s (w + 1).toNat = w := by
  rw [show (w + 1).toNat = w.toNat + 1 by omega]
  have e : ((w.toNat : Nat) : Int) = w := by omega
  show cz_ (fb9_ d A B V k s w.toNat = -1 ∧ (an_ (sr_ s ((w.toNat : Nat) : Int)) 1 = 0 ∧ A k ((w.toNat : Nat) : Int)) ∧ 1000 - d k ((w.toNat : Nat) : Int) + B (or_ s (sl_ 1 ((w.toNat : Nat) : Int))) = V) ((w.toNat : Nat) : Int) (fb9_ d A B V k s w.toNat) = _
  rw [e]
  exact cz_t h
theorem fb_f {d : Int → Int → Int} {A : Int → Int → Prop} {B : Int → Int} {V k s w : Int} (hw : 0 ≤ w) (h : ¬ (fb9_ d A B V k s w.toNat = -1 ∧ (an_ (sr_ s w) 1 = 0 ∧ A k w) ∧ 1000 - d k w + B (or_ s (sl_ 1 w)) = V)) : fb9_ d A B V k s (w + 1).toNat = fb9_ d A B V k s w.toNat := by
  rw [show (w + 1).toNat = w.toNat + 1 by omega]
  have e : ((w.toNat : Nat) : Int) = w := by omega
  show cz_ (fb9_ d A B V k s w.toNat = -1 ∧ (an_ (sr_ s ((w.toNat : Nat) : Int)) 1 = 0 ∧ A k ((w.toNat : Nat) : Int)) ∧ 1000 - d k ((w.toNat : Nat) : Int) + B (or_ s (sl_ 1 ((w.toNat : Nat) : Int))) = V) ((w.toNat : Nat) : Int) (fb9_ d A B V k s w.toNat) = _
  rw [e]
  exact cz_f h
/-- who is found stays found -/
theorem fb_k {d : Int → Int → Int} {A : Int → Int → Prop} {B : Int → Int} {V k s : Int} {a : Nat} : ∀ b : Nat, fb9_ d A B V k s a ≠ -1 → fb9_ d A B V k s (a + b) = fb9_ d A B V k s a
  | 0, _ => rfl
  | b + 1, h => by
    have ih := fb_k b h
    have e : fb9_ d A B V k s (a + (b + 1)) = fb9_ d A B V k s (a + b) := by
      show cz_ (fb9_ d A B V k s (a + b) = -1 ∧ _) _ (fb9_ d A B V k s (a + b)) = _
      exact cz_f (fun q => h (ih ▸ q.1))
    rw [e, ih]
theorem fb_n {d : Int → Int → Int} {A : Int → Int → Prop} {B : Int → Int} {V k s : Int} {a b : Nat} (hab : a ≤ b) (h : fb9_ d A B V k s a ≠ -1) : fb9_ d A B V k s b = fb9_ d A B V k s a := by
  have := fb_k (d := d) (A := A) (B := B) (V := V) (k := k) (s := s) (a := a) (b - a) h
  rw [show a + (b - a) = b by omega] at this
  exact this
theorem fb_s {d : Int → Int → Int} {A : Int → Int → Prop} {B : Int → Int} {V k s : Int} : ∀ N : Nat, (fb9_ d A B V k s N = -1 ∧ ∀ w : Int, 0 ≤ w → w < (N : Int) → (an_ (sr_ s w) 1 = 0 ∧ A k w) → 1000 - d k w + B (or_ s (sl_ 1 w)) ≠ V) ∨ ((0 ≤ fb9_ d A B V k s N ∧ fb9_ d A B V k s N < (N : Int)) ∧ (an_ (sr_ s (fb9_ d A B V k s N)) 1 = 0 ∧ A k (fb9_ d A B V k s N)) ∧ 1000 - d k (fb9_ d A B V k s N) + B (or_ s (sl_ 1 (fb9_ d A B V k s N))) = V)
  | 0 => Or.inl ⟨rfl, fun w a b => by omega⟩
  | N + 1 => by
    by_cases z : fb9_ d A B V k s N = -1 ∧ (an_ (sr_ s (N : Int)) 1 = 0 ∧ A k (N : Int)) ∧ 1000 - d k (N : Int) + B (or_ s (sl_ 1 (N : Int))) = V
    · have e : fb9_ d A B V k s (N + 1) = (N : Int) := cz_t z
      rw [e]
      exact Or.inr ⟨⟨by omega, by omega⟩, z.2⟩
    · have e : fb9_ d A B V k s (N + 1) = fb9_ d A B V k s N := cz_f z
      rw [e]
      rcases fb_s (d := d) (A := A) (B := B) (V := V) (k := k) (s := s) N with ⟨y1, y2⟩ | y
      · refine Or.inl ⟨y1, fun w a b c => ?_⟩
        by_cases x : w = (N : Int)
        · rw [x] at c ⊢
          exact fun q => z ⟨y1, c, q⟩
        · exact y2 w a (by omega) c
      · exact Or.inr ⟨⟨y.1.1, by omega⟩, y.2⟩
/-- who is taken at match k with a set gone -/
noncomputable def who9_ (d : Int → Int → Int) (A : Int → Int → Prop) (n e k s : Int) : Int := fb9_ d A (fun t => bw9_ d A n e (e - (k + 1)).toNat t) (bw9_ d A n e (e - k).toNat s) k s n.toNat
/-- the set gone after k matches; how many have one; who leads -/
noncomputable def sa9_ (d : Int → Int → Int) (A : Int → Int → Prop) (n e : Int) : Nat → Int
  | 0 => 0
  | k + 1 => cz_ (who9_ d A n e (k : Int) (sa9_ d A n e k) = -1) (sa9_ d A n e k) (or_ (sa9_ d A n e k) (sl_ 1 (who9_ d A n e (k : Int) (sa9_ d A n e k))))
noncomputable def nc9_ (d : Int → Int → Int) (A : Int → Int → Prop) (n e : Int) : Nat → Int
  | 0 => 0
  | k + 1 => nc9_ d A n e k + cz_ (who9_ d A n e (k : Int) (sa9_ d A n e k) = -1) 0 1
noncomputable def om9_ (d : Int → Int → Int) (A : Int → Int → Prop) (n e : Int) (L M : Int → Int) : Nat → Int → Int
  | 0 => M
  | k + 1 => fu_ (om9_ d A n e L M k) (L (k : Int)) (who9_ d A n e (k : Int) (sa9_ d A n e k))
theorem bwn_s {d : Int → Int → Int} {A : Int → Int → Prop} {n e k s : Int} (hk : 0 ≤ k ∧ k < e) : bw9_ d A n e (e - k).toNat s = mx9_ d A k s (fun t => bw9_ d A n e (e - (k + 1)).toNat t) n.toNat := by
  rw [show (e - k).toNat = (e - (k + 1)).toNat + 1 by omega]
  show mx9_ d A (e - (((e - (k + 1)).toNat + 1 : Nat) : Int)) s (fun t => bw9_ d A n e (e - (k + 1)).toNat t) n.toNat = _
  rw [show e - (((e - (k + 1)).toNat + 1 : Nat) : Int) = k by omega]
/-- what taking that one does to the best of the rest -/
theorem who_s {d : Int → Int → Int} {A : Int → Int → Prop} {n e k s : Int} (hk : 0 ≤ k ∧ k < e) (hn : 0 ≤ n) : (who9_ d A n e k s = -1 ∧ bw9_ d A n e (e - (k + 1)).toNat s = bw9_ d A n e (e - k).toNat s) ∨ ((0 ≤ who9_ d A n e k s ∧ who9_ d A n e k s < n) ∧ (an_ (sr_ s (who9_ d A n e k s)) 1 = 0 ∧ A k (who9_ d A n e k s)) ∧ 1000 - d k (who9_ d A n e k s) + bw9_ d A n e (e - (k + 1)).toNat (or_ s (sl_ 1 (who9_ d A n e k s))) = bw9_ d A n e (e - k).toNat s) := by
  rcases fb_s (d := d) (A := A) (B := fun t => bw9_ d A n e (e - (k + 1)).toNat t) (V := bw9_ d A n e (e - k).toNat s) (k := k) (s := s) n.toNat with ⟨y1, y2⟩ | y
  · refine Or.inl ⟨y1, ?_⟩
    rw [bwn_s hk] at y2 ⊢
    rcases mx_a (d := d) (A := A) (k := k) (s := s) (B := fun t => bw9_ d A n e (e - (k + 1)).toNat t) n.toNat with z | ⟨w, a, b, c⟩
    · exact z.symm
    · exact absurd c.symm (y2 w a.1 a.2 b)
  · exact Or.inr ⟨⟨y.1.1, show fb9_ d A (fun t => bw9_ d A n e (e - (k + 1)).toNat t) (bw9_ d A n e (e - k).toNat s) k s n.toNat < n by have := y.1.2; omega⟩, y.2⟩
/-- the best by sets is so many thousands less a small cost -/
theorem bw_r {d : Int → Int → Int} {A : Int → Int → Prop} {n e : Int} (hn : 0 ≤ n ∧ n ≤ 8) {j : Nat} {s : Int} (hs : 0 ≤ s ∧ s ≤ 4095) (D : ∀ i o, e - (j : Int) ≤ i → i < e → 0 ≤ o → o < n → 0 ≤ d i o ∧ d i o ≤ 11) : ∃ a b : Int, bw9_ d A n e j s = 1000 * a - b ∧ (0 ≤ a ∧ a ≤ 8) ∧ (0 ≤ b ∧ b ≤ 88) := by
  obtain ⟨g, g1, g2⟩ := bw_a (d := d) (A := A) (n := n) (e := e) hn.2 j s hs
  have b := mc_b (F := OG_ d A n e s (e - (j : Int))) D g1 hn.1
  have ef : (e - (e - (j : Int))).toNat = j := by omega
  have v := vl_e (d := d) (g := g) (f := e - (j : Int)) (j := j)
  have m1 : mc9_ (OG_ d A n e s (e - (j : Int))) g = sf9_ (tk9_ g (fun _ _ => 1)) (e - (j : Int)) j := by
    show sf9_ (tk9_ g (fun _ _ => 1)) (e - (j : Int)) (e - (e - (j : Int))).toNat = _
    rw [ef]
  have m2 : ms9_ (OG_ d A n e s (e - (j : Int))) g = sf9_ (tk9_ g d) (e - (j : Int)) j := by
    show sf9_ (tk9_ g d) (e - (j : Int)) (e - (e - (j : Int))).toNat = _
    rw [ef]
  rw [m1, m2] at b
  have b8 : sf9_ (tk9_ g (fun _ _ => 1)) (e - (j : Int)) j ≤ n := b.1.2
  exact ⟨sf9_ (tk9_ g (fun _ _ => 1)) (e - (j : Int)) j, sf9_ (tk9_ g d) (e - (j : Int)) j, by rw [← g2]; exact v, ⟨b.1.1, by omega⟩, ⟨b.2.1, by have := b.2.2; omega⟩⟩
theorem sa_n {d : Int → Int → Int} {A : Int → Int → Prop} {n e k : Int} (hk : 0 ≤ k) (h : who9_ d A n e k (sa9_ d A n e k.toNat) = -1) : sa9_ d A n e (k + 1).toNat = sa9_ d A n e k.toNat ∧ nc9_ d A n e (k + 1).toNat = nc9_ d A n e k.toNat := by
  rw [show (k + 1).toNat = k.toNat + 1 by omega]
  have e1 : ((k.toNat : Nat) : Int) = k := by omega
  refine ⟨?_, ?_⟩
  · show cz_ (who9_ d A n e ((k.toNat : Nat) : Int) (sa9_ d A n e k.toNat) = -1) (sa9_ d A n e k.toNat) (or_ (sa9_ d A n e k.toNat) (sl_ 1 (who9_ d A n e ((k.toNat : Nat) : Int) (sa9_ d A n e k.toNat)))) = _
    rw [e1]
    exact cz_t h
  · show nc9_ d A n e k.toNat + cz_ (who9_ d A n e ((k.toNat : Nat) : Int) (sa9_ d A n e k.toNat) = -1) 0 1 = _
    rw [e1, cz_t h, Int.add_zero]
theorem sa_w {d : Int → Int → Int} {A : Int → Int → Prop} {n e k : Int} (hk : 0 ≤ k) (h : who9_ d A n e k (sa9_ d A n e k.toNat) ≠ -1) : sa9_ d A n e (k + 1).toNat = or_ (sa9_ d A n e k.toNat) (sl_ 1 (who9_ d A n e k (sa9_ d A n e k.toNat))) ∧ nc9_ d A n e (k + 1).toNat = nc9_ d A n e k.toNat + 1 := by
  rw [show (k + 1).toNat = k.toNat + 1 by omega]
  have e1 : ((k.toNat : Nat) : Int) = k := by omega
  refine ⟨?_, ?_⟩
  · show cz_ (who9_ d A n e ((k.toNat : Nat) : Int) (sa9_ d A n e k.toNat) = -1) (sa9_ d A n e k.toNat) (or_ (sa9_ d A n e k.toNat) (sl_ 1 (who9_ d A n e ((k.toNat : Nat) : Int) (sa9_ d A n e k.toNat)))) = _
    rw [e1]
    exact cz_f h
  · show nc9_ d A n e k.toNat + cz_ (who9_ d A n e ((k.toNat : Nat) : Int) (sa9_ d A n e k.toNat) = -1) 0 1 = _
    rw [e1, cz_f h]
theorem om_s {d : Int → Int → Int} {A : Int → Int → Prop} {n e k : Int} {L M : Int → Int} (hk : 0 ≤ k) : om9_ d A n e L M (k + 1).toNat = fu_ (om9_ d A n e L M k.toNat) (L k) (who9_ d A n e k (sa9_ d A n e k.toNat)) := by
  rw [show (k + 1).toNat = k.toNat + 1 by omega]
  have e1 : ((k.toNat : Nat) : Int) = k := by omega
  show fu_ (om9_ d A n e L M k.toNat) (L ((k.toNat : Nat) : Int)) (who9_ d A n e ((k.toNat : Nat) : Int) (sa9_ d A n e k.toNat)) = _
  rw [e1]
/-- a match of that day that is left -/
def LDr_ (T : Zt) (d m : Int) : Prop := T 234 0 m = d ∧ (T 235 0 m = 0 ∨ T 235 0 m = 1)
noncomputable def DLr_ (T : Zt) (d : Int) : Int × (Int → Int) := dl9_ (LDr_ T d) (T 111 0 29).toNat
noncomputable def dr9_ (T : Zt) (d : Int) : Int → Int → Int := fun i o => di_ T ((DLr_ T d).2 i) o
def ar9_ (T : Zt) (d : Int) : Int → Int → Prop := fun i o => ld_ T ((DLr_ T d).2 i) o
/-- the best rest, told by sets -/
theorem mb_w {T T1 T2 : Zt} {tk f : Int} {L : Int → Int} (m : MB_ T1 T2 tk f) (hs : 0 ≤ tk ∧ tk ≤ 4095) (hn : 0 ≤ T1 111 0 21 ∧ T1 111 0 21 ≤ 8) (hf : 0 ≤ f ∧ f ≤ T1 111 0 107) (D : ∀ i o, 0 ≤ i → i < T1 111 0 107 → 0 ≤ o → o < T1 111 0 21 → 0 ≤ di_ T (L i) o ∧ di_ T (L i) o ≤ 11) (e : ∀ i, 0 ≤ i → i < T1 111 0 107 → T1 306 0 i = L i) (dk : ∀ m o, di_ T1 m o = di_ T m o) (lk : ∀ m o, ld_ T1 m o ↔ ld_ T m o) : bw9_ (fun i o => di_ T (L i) o) (fun i o => ld_ T (L i) o) (T1 111 0 21) (T1 111 0 107) (T1 111 0 107 - f).toNat tk = 1000 * T2 111 0 112 - T2 111 0 113 ∧ (0 ≤ T2 111 0 113 ∧ T2 111 0 113 ≤ 88) ∧ 0 ≤ T2 111 0 112 := by
  obtain ⟨m1, m2, m3, m4⟩ := m
  have q := bw_q (d := fun i o => di_ T1 (T1 306 0 i) o) (A := fun i o => ld_ T1 (T1 306 0 i) o) (n := T1 111 0 21) (e := T1 111 0 107) (f := f) (s := tk) (ho := gh_ T2) hn.2 hf.2 hs m1 m4
  have q' : bw9_ (fun i o => di_ T1 (T1 306 0 i) o) (fun i o => ld_ T1 (T1 306 0 i) o) (T1 111 0 21) (T1 111 0 107) (T1 111 0 107 - f).toNat tk = 1000 * mc9_ (ofs_ T1 tk f) (gh_ T2) - ms9_ (ofs_ T1 tk f) (gh_ T2) := q
  have c := bw_c (d := fun i o => di_ T1 (T1 306 0 i) o) (A := fun i o => ld_ T1 (T1 306 0 i) o) (d' := fun i o => di_ T (L i) o) (A' := fun i o => ld_ T (L i) o) (n := T1 111 0 21) (e := T1 111 0 107) hn.2 (T1 111 0 107 - f).toNat tk hs (fun i o a b p r => by
    show di_ T1 (T1 306 0 i) o = di_ T (L i) o ∧ (ld_ T1 (T1 306 0 i) o ↔ ld_ T (L i) o)
    rw [e i (by omega) b]
    exact ⟨dk _ _, lk _ _⟩)
  have bb := mc_b (F := ofs_ T1 tk f) (of_9 (fun i o a b p r => by
    rw [e i (by omega) b, dk]
    exact D i o (by omega) b p r)) m1 hn.1
  have b8 : mc9_ (ofs_ T1 tk f) (gh_ T2) ≤ T1 111 0 21 := bb.1.2
  rw [m2, m3]
  refine ⟨by rw [← c]; exact q', ⟨bb.2.1, by have := bb.2.2; omega⟩, bb.1.1⟩
theorem bk_X11_assign_e_116 : ck_ fX11 (some .int) cX11_assign 116 [.iload 8, .aload 0, .tableswitch 0 11 21 #[], .if_icmp .ge 219, .iload 7, .iconst (-1), .if_icmp .ne 219, .iload 5, .iload 8, .ishr, .iconst 1, .iand, .ifCond .ne 213, .aload 0, .aload 0, .tableswitch 0 11 106 #[], .iload 6, .iaload, .iload 8] 151 = true := qck_r (nn_ _) (by decide +kernel)
theorem bs_X11_assign_e_116 {P : Zt → Option Zv → Prop} (K : Int → Zl → List Zv → Zt → Prop) : sx_ K P [.iload 8, .aload 0, .tableswitch 0 11 21 #[], .if_icmp .ge 219, .iload 7, .iconst (-1), .if_icmp .ne 219, .iload 5, .iload 8, .ishr, .iconst 1, .iand, .ifCond .ne 213, .aload 0, .aload 0, .tableswitch 0 11 106 #[], .iload 6, .iaload, .iload 8] 151 = x_iload 8 (x_aload 0 (x_g0 111 21 0 8 (x_if_icmp .ge 219 K (x_iload 7 (x_iconst (-1) (x_if_icmp .ne 219 K (x_iload 5 (x_iload 8 (x_ishr (x_iconst 1 (x_iand (x_ifCond .ne 213 K (x_aload 0 (x_aload 0 (x_g1 111 306 (x_iload 6 (x_iaload (x_iload 8 (K 151))))))))))))))))))) := ((xe_iload 8).trans (congrArg (x_iload 8) ((xe_aload 0).trans (congrArg (x_aload 0) ((xe_g0 (kk := 111) rfl tl_11_21).trans (congrArg (x_g0 111 21 0 8) ((xe_if_icmp .ge 219).trans (congrArg (x_if_icmp .ge 219 K) ((xe_iload 7).trans (congrArg (x_iload 7) ((xe_iconst (-1)).trans (congrArg (x_iconst (-1)) ((xe_if_icmp .ne 219).trans (congrArg (x_if_icmp .ne 219 K) ((xe_iload 5).trans (congrArg (x_iload 5) ((xe_iload 8).trans (congrArg (x_iload 8) ((xe_ishr).trans (congrArg (x_ishr) ((xe_iconst 1).trans (congrArg (x_iconst 1) ((xe_iand).trans (congrArg (x_iand) ((xe_ifCond .ne 213).trans (congrArg (x_ifCond .ne 213 K) ((xe_aload 0).trans (congrArg (x_aload 0) ((xe_aload 0).trans (congrArg (x_aload 0) ((xe_g1 (kk := 111) rfl tl_11_106).trans (congrArg (x_g1 111 306) ((xe_iload 6).trans (congrArg (x_iload 6) ((xe_iaload).trans (congrArg (x_iaload) ((xe_iload 8).trans (congrArg (x_iload 8) xe_nil))))))))))))))))))))))))))))))))))))))
theorem bk_X11_assign_e_219 : ck_ fX11 (some .int) cX11_assign 219 [.aload 0, .tableswitch 0 11 38 #[], .aload 0, .tableswitch 0 11 106 #[], .iload 6, .iaload, .iload 7, .iastore, .iload 7, .iconst (-1), .if_icmp .eq 269, .iload 5, .iconst 1, .iload 7, .ishl, .ior, .istore 5, .iinc 3 (-1), .iload 4, .aload 0, .aload 0, .tableswitch 0 11 106 #[], .iload 6, .iaload, .iload 7] 263 = true := qck_r (nn_ _) (by decide +kernel)
theorem bs_X11_assign_e_219 {P : Zt → Option Zv → Prop} (K : Int → Zl → List Zv → Zt → Prop) : sx_ K P [.aload 0, .tableswitch 0 11 38 #[], .aload 0, .tableswitch 0 11 106 #[], .iload 6, .iaload, .iload 7, .iastore, .iload 7, .iconst (-1), .if_icmp .eq 269, .iload 5, .iconst 1, .iload 7, .ishl, .ior, .istore 5, .iinc 3 (-1), .iload 4, .aload 0, .aload 0, .tableswitch 0 11 106 #[], .iload 6, .iaload, .iload 7] 263 = x_aload 0 (x_g1 111 238 (x_aload 0 (x_g1 111 306 (x_iload 6 (x_iaload (x_iload 7 (x_iastore (x_iload 7 (x_iconst (-1) (x_if_icmp .eq 269 K (x_iload 5 (x_iconst 1 (x_iload 7 (x_ishl (x_ior (x_istore 5 (x_iinc 3 (-1) (x_iload 4 (x_aload 0 (x_aload 0 (x_g1 111 306 (x_iload 6 (x_iaload (x_iload 7 (K 263))))))))))))))))))))))))) := ((xe_aload 0).trans (congrArg (x_aload 0) ((xe_g1 (kk := 111) rfl tl_11_38).trans (congrArg (x_g1 111 238) ((xe_aload 0).trans (congrArg (x_aload 0) ((xe_g1 (kk := 111) rfl tl_11_106).trans (congrArg (x_g1 111 306) ((xe_iload 6).trans (congrArg (x_iload 6) ((xe_iaload).trans (congrArg (x_iaload) ((xe_iload 7).trans (congrArg (x_iload 7) ((xe_iastore).trans (congrArg (x_iastore) ((xe_iload 7).trans (congrArg (x_iload 7) ((xe_iconst (-1)).trans (congrArg (x_iconst (-1)) ((xe_if_icmp .eq 269).trans (congrArg (x_if_icmp .eq 269 K) ((xe_iload 5).trans (congrArg (x_iload 5) ((xe_iconst 1).trans (congrArg (x_iconst 1) ((xe_iload 7).trans (congrArg (x_iload 7) ((xe_ishl).trans (congrArg (x_ishl) ((xe_ior).trans (congrArg (x_ior) ((xe_istore 5).trans (congrArg (x_istore 5) ((xe_iinc 3 (-1)).trans (congrArg (x_iinc 3 (-1)) ((xe_iload 4).trans (congrArg (x_iload 4) ((xe_aload 0).trans (congrArg (x_aload 0) ((xe_aload 0).trans (congrArg (x_aload 0) ((xe_g1 (kk := 111) rfl tl_11_106).trans (congrArg (x_g1 111 306) ((xe_iload 6).trans (congrArg (x_iload 6) ((xe_iaload).trans (congrArg (x_iaload) ((xe_iload 7).trans (congrArg (x_iload 7) xe_nil))))))))))))))))))))))))))))))))))))))))))))))))))
theorem bk_X11_assign_e_269 : ck_ fX11 (some .int) cX11_assign 269 [.iinc 6 1, .goto 101] 275 = true := qck_r (nn_ _) (by decide +kernel)
theorem bs_X11_assign_e_269 {P : Zt → Option Zv → Prop} (K : Int → Zl → List Zv → Zt → Prop) : sx_ K P [.iinc 6 1, .goto 101] 275 = x_iinc 6 1 (x_goto 101 K) := ((xe_iinc 6 1).trans (congrArg (x_iinc 6 1) (xe_goto 101)))
theorem bk_X11_assign_e_266 : ck_ fX11 (some .int) cX11_assign 266 [.isub, .istore 4, .iinc 6 1, .goto 101] 275 = true := qck_r (nn_ _) (by decide +kernel)
theorem bs_X11_assign_e_266 {P : Zt → Option Zv → Prop} (K : Int → Zl → List Zv → Zt → Prop) : sx_ K P [.isub, .istore 4, .iinc 6 1, .goto 101] 275 = x_isub (x_istore 4 (x_iinc 6 1 (x_goto 101 K))) := ((xe_isub).trans (congrArg (x_isub) ((xe_istore 4).trans (congrArg (x_istore 4) ((xe_iinc 6 1).trans (congrArg (x_iinc 6 1) (xe_goto 101)))))))
theorem bk_X11_assign_e_213 : ck_ fX11 (some .int) cX11_assign 213 [.iinc 8 1, .goto 116] 219 = true := qck_r (nn_ _) (by decide +kernel)
theorem bs_X11_assign_e_213 {P : Zt → Option Zv → Prop} (K : Int → Zl → List Zv → Zt → Prop) : sx_ K P [.iinc 8 1, .goto 116] 219 = x_iinc 8 1 (x_goto 116 K) := ((xe_iinc 8 1).trans (congrArg (x_iinc 8 1) (xe_goto 116)))
theorem bk_X11_assign_e_154 : ck_ fX11 (some .int) cX11_assign 154 [.ifCond .eq 213, .aload 0, .iload 6, .iconst 1, .iadd, .iload 5, .iconst 1, .iload 8, .ishl, .ior] 169 = true := qck_r (nn_ _) (by decide +kernel)
theorem bs_X11_assign_e_154 {P : Zt → Option Zv → Prop} (K : Int → Zl → List Zv → Zt → Prop) : sx_ K P [.ifCond .eq 213, .aload 0, .iload 6, .iconst 1, .iadd, .iload 5, .iconst 1, .iload 8, .ishl, .ior] 169 = x_ifCond .eq 213 K (x_aload 0 (x_iload 6 (x_iconst 1 (x_iadd (x_iload 5 (x_iconst 1 (x_iload 8 (x_ishl (x_ior (K 169)))))))))) := ((xe_ifCond .eq 213).trans (congrArg (x_ifCond .eq 213 K) ((xe_aload 0).trans (congrArg (x_aload 0) ((xe_iload 6).trans (congrArg (x_iload 6) ((xe_iconst 1).trans (congrArg (x_iconst 1) ((xe_iadd).trans (congrArg (x_iadd) ((xe_iload 5).trans (congrArg (x_iload 5) ((xe_iconst 1).trans (congrArg (x_iconst 1) ((xe_iload 8).trans (congrArg (x_iload 8) ((xe_ishl).trans (congrArg (x_ishl) ((xe_ior).trans (congrArg (x_ior) xe_nil))))))))))))))))))))
theorem bk_X11_assign_e_172 : ck_ fX11 (some .int) cX11_assign 172 [.aload 0, .tableswitch 0 11 112 #[], .iconst 1, .iadd, .iload 3, .if_icmp .ne 210, .aload 0, .tableswitch 0 11 113 #[], .aload 0, .aload 0, .tableswitch 0 11 106 #[], .iload 6, .iaload, .iload 8] 196 = true := qck_r (nn_ _) (by decide +kernel)
theorem bs_X11_assign_e_172 {P : Zt → Option Zv → Prop} (K : Int → Zl → List Zv → Zt → Prop) : sx_ K P [.aload 0, .tableswitch 0 11 112 #[], .iconst 1, .iadd, .iload 3, .if_icmp .ne 210, .aload 0, .tableswitch 0 11 113 #[], .aload 0, .aload 0, .tableswitch 0 11 106 #[], .iload 6, .iaload, .iload 8] 196 = x_aload 0 (x_g0 111 112 (-2147483648) 2147483647 (x_iconst 1 (x_iadd (x_iload 3 (x_if_icmp .ne 210 K (x_aload 0 (x_g0 111 113 (-2147483648) 2147483647 (x_aload 0 (x_aload 0 (x_g1 111 306 (x_iload 6 (x_iaload (x_iload 8 (K 196)))))))))))))) := ((xe_aload 0).trans (congrArg (x_aload 0) ((xe_g0 (kk := 111) rfl tl_11_112).trans (congrArg (x_g0 111 112 (-2147483648) 2147483647) ((xe_iconst 1).trans (congrArg (x_iconst 1) ((xe_iadd).trans (congrArg (x_iadd) ((xe_iload 3).trans (congrArg (x_iload 3) ((xe_if_icmp .ne 210).trans (congrArg (x_if_icmp .ne 210 K) ((xe_aload 0).trans (congrArg (x_aload 0) ((xe_g0 (kk := 111) rfl tl_11_113).trans (congrArg (x_g0 111 113 (-2147483648) 2147483647) ((xe_aload 0).trans (congrArg (x_aload 0) ((xe_aload 0).trans (congrArg (x_aload 0) ((xe_g1 (kk := 111) rfl tl_11_106).trans (congrArg (x_g1 111 306) ((xe_iload 6).trans (congrArg (x_iload 6) ((xe_iaload).trans (congrArg (x_iaload) ((xe_iload 8).trans (congrArg (x_iload 8) xe_nil))))))))))))))))))))))))))))
theorem bk_X11_assign_e_210 : ck_ fX11 (some .int) cX11_assign 210 [.iconst (-1), .istore 7, .iinc 8 1, .goto 116] 219 = true := qck_r (nn_ _) (by decide +kernel)
theorem bs_X11_assign_e_210 {P : Zt → Option Zv → Prop} (K : Int → Zl → List Zv → Zt → Prop) : sx_ K P [.iconst (-1), .istore 7, .iinc 8 1, .goto 116] 219 = x_iconst (-1) (x_istore 7 (x_iinc 8 1 (x_goto 116 K))) := ((xe_iconst (-1)).trans (congrArg (x_iconst (-1)) ((xe_istore 7).trans (congrArg (x_istore 7) ((xe_iinc 8 1).trans (congrArg (x_iinc 8 1) (xe_goto 116)))))))
theorem bk_X11_assign_e_199 : ck_ fX11 (some .int) cX11_assign 199 [.iadd, .iload 4, .if_icmp .ne 210, .iload 8, .goto 211] 210 = true := qck_r (nn_ _) (by decide +kernel)
theorem bs_X11_assign_e_199 {P : Zt → Option Zv → Prop} (K : Int → Zl → List Zv → Zt → Prop) : sx_ K P [.iadd, .iload 4, .if_icmp .ne 210, .iload 8, .goto 211] 210 = x_iadd (x_iload 4 (x_if_icmp .ne 210 K (x_iload 8 (x_goto 211 K)))) := ((xe_iadd).trans (congrArg (x_iadd) ((xe_iload 4).trans (congrArg (x_iload 4) ((xe_if_icmp .ne 210).trans (congrArg (x_if_icmp .ne 210 K) ((xe_iload 8).trans (congrArg (x_iload 8) (xe_goto 211)))))))))
theorem bk_X11_assign_e_211 : ck_ fX11 (some .int) cX11_assign 211 [.istore 7, .iinc 8 1, .goto 116] 219 = true := qck_r (nn_ _) (by decide +kernel)
theorem bs_X11_assign_e_211 {P : Zt → Option Zv → Prop} (K : Int → Zl → List Zv → Zt → Prop) : sx_ K P [.istore 7, .iinc 8 1, .goto 116] 219 = x_istore 7 (x_iinc 8 1 (x_goto 116 K)) := ((xe_istore 7).trans (congrArg (x_istore 7) ((xe_iinc 8 1).trans (congrArg (x_iinc 8 1) (xe_goto 116)))))
theorem bk_X11_assign_e_101 : ck_ fX11 (some .int) cX11_assign 101 [.iload 6, .aload 0, .tableswitch 0 11 107 #[], .if_icmp .ge 275, .iconst (-1), .istore 7, .iconst 0, .istore 8] 116 = true := qck_r (nn_ _) (by decide +kernel)
theorem bs_X11_assign_e_101 {P : Zt → Option Zv → Prop} (K : Int → Zl → List Zv → Zt → Prop) : sx_ K P [.iload 6, .aload 0, .tableswitch 0 11 107 #[], .if_icmp .ge 275, .iconst (-1), .istore 7, .iconst 0, .istore 8] 116 = x_iload 6 (x_aload 0 (x_g0 111 107 0 400 (x_if_icmp .ge 275 K (x_iconst (-1) (x_istore 7 (x_iconst 0 (x_istore 8 (K 116)))))))) := ((xe_iload 6).trans (congrArg (x_iload 6) ((xe_aload 0).trans (congrArg (x_aload 0) ((xe_g0 (kk := 111) rfl tl_11_107).trans (congrArg (x_g0 111 107 0 400) ((xe_if_icmp .ge 275).trans (congrArg (x_if_icmp .ge 275 K) ((xe_iconst (-1)).trans (congrArg (x_iconst (-1)) ((xe_istore 7).trans (congrArg (x_istore 7) ((xe_iconst 0).trans (congrArg (x_iconst 0) ((xe_istore 8).trans (congrArg (x_istore 8) xe_nil))))))))))))))))
theorem bk_X11_assign_e_275 : ck_ fX11 (some .int) cX11_assign 275 [.iload 2, .ireturn] 277 = true := qck_r (nn_ _) (by decide +kernel)
theorem bs_X11_assign_e_275 {P : Zt → Option Zv → Prop} (K : Int → Zl → List Zv → Zt → Prop) : sx_ K P [.iload 2, .ireturn] 277 = x_iload 2 (x_ireturn P) := ((xe_iload 2).trans (congrArg (x_iload 2) (xe_ireturn)))
theorem bk_X11_assign_e_21 : ck_ fX11 (some .int) cX11_assign 21 [.iload 2, .aload 0, .tableswitch 0 11 29 #[], .if_icmp .ge 73, .aload 0, .tableswitch 0 11 34 #[], .iload 2, .iaload, .iload 1, .if_icmp .ne 67, .aload 0, .iload 2] 41 = true := qck_r (nn_ _) (by decide +kernel)
theorem bs_X11_assign_e_21 {P : Zt → Option Zv → Prop} (K : Int → Zl → List Zv → Zt → Prop) : sx_ K P [.iload 2, .aload 0, .tableswitch 0 11 29 #[], .if_icmp .ge 73, .aload 0, .tableswitch 0 11 34 #[], .iload 2, .iaload, .iload 1, .if_icmp .ne 67, .aload 0, .iload 2] 41 = x_iload 2 (x_aload 0 (x_g0 111 29 0 400 (x_if_icmp .ge 73 K (x_aload 0 (x_g1 111 234 (x_iload 2 (x_iaload (x_iload 1 (x_if_icmp .ne 67 K (x_aload 0 (x_iload 2 (K 41)))))))))))) := ((xe_iload 2).trans (congrArg (x_iload 2) ((xe_aload 0).trans (congrArg (x_aload 0) ((xe_g0 (kk := 111) rfl tl_11_29).trans (congrArg (x_g0 111 29 0 400) ((xe_if_icmp .ge 73).trans (congrArg (x_if_icmp .ge 73 K) ((xe_aload 0).trans (congrArg (x_aload 0) ((xe_g1 (kk := 111) rfl tl_11_34).trans (congrArg (x_g1 111 234) ((xe_iload 2).trans (congrArg (x_iload 2) ((xe_iaload).trans (congrArg (x_iaload) ((xe_iload 1).trans (congrArg (x_iload 1) ((xe_if_icmp .ne 67).trans (congrArg (x_if_icmp .ne 67 K) ((xe_aload 0).trans (congrArg (x_aload 0) ((xe_iload 2).trans (congrArg (x_iload 2) xe_nil))))))))))))))))))))))))
theorem bk_X11_assign_e_73 : ck_ fX11 (some .int) cX11_assign 73 [.aload 0, .iconst 0, .iconst 0] 76 = true := qck_r (nn_ _) (by decide +kernel)
theorem bs_X11_assign_e_73 {P : Zt → Option Zv → Prop} (K : Int → Zl → List Zv → Zt → Prop) : sx_ K P [.aload 0, .iconst 0, .iconst 0] 76 = x_aload 0 (x_iconst 0 (x_iconst 0 (K 76))) := ((xe_aload 0).trans (congrArg (x_aload 0) ((xe_iconst 0).trans (congrArg (x_iconst 0) ((xe_iconst 0).trans (congrArg (x_iconst 0) xe_nil))))))
theorem bk_X11_assign_e_79 : ck_ fX11 (some .int) cX11_assign 79 [.aload 0, .tableswitch 0 11 112 #[], .istore 2, .aload 0, .tableswitch 0 11 112 #[], .istore 3, .aload 0, .tableswitch 0 11 113 #[], .istore 4, .iconst 0, .istore 5, .iconst 0, .istore 6] 101 = true := qck_r (nn_ _) (by decide +kernel)
theorem bs_X11_assign_e_79 {P : Zt → Option Zv → Prop} (K : Int → Zl → List Zv → Zt → Prop) : sx_ K P [.aload 0, .tableswitch 0 11 112 #[], .istore 2, .aload 0, .tableswitch 0 11 112 #[], .istore 3, .aload 0, .tableswitch 0 11 113 #[], .istore 4, .iconst 0, .istore 5, .iconst 0, .istore 6] 101 = x_aload 0 (x_g0 111 112 (-2147483648) 2147483647 (x_istore 2 (x_aload 0 (x_g0 111 112 (-2147483648) 2147483647 (x_istore 3 (x_aload 0 (x_g0 111 113 (-2147483648) 2147483647 (x_istore 4 (x_iconst 0 (x_istore 5 (x_iconst 0 (x_istore 6 (K 101))))))))))))) := ((xe_aload 0).trans (congrArg (x_aload 0) ((xe_g0 (kk := 111) rfl tl_11_112).trans (congrArg (x_g0 111 112 (-2147483648) 2147483647) ((xe_istore 2).trans (congrArg (x_istore 2) ((xe_aload 0).trans (congrArg (x_aload 0) ((xe_g0 (kk := 111) rfl tl_11_112).trans (congrArg (x_g0 111 112 (-2147483648) 2147483647) ((xe_istore 3).trans (congrArg (x_istore 3) ((xe_aload 0).trans (congrArg (x_aload 0) ((xe_g0 (kk := 111) rfl tl_11_113).trans (congrArg (x_g0 111 113 (-2147483648) 2147483647) ((xe_istore 4).trans (congrArg (x_istore 4) ((xe_iconst 0).trans (congrArg (x_iconst 0) ((xe_istore 5).trans (congrArg (x_istore 5) ((xe_iconst 0).trans (congrArg (x_iconst 0) ((xe_istore 6).trans (congrArg (x_istore 6) xe_nil))))))))))))))))))))))))))
theorem bk_X11_assign_e_67 : ck_ fX11 (some .int) cX11_assign 67 [.iinc 2 1, .goto 21] 73 = true := qck_r (nn_ _) (by decide +kernel)
theorem bs_X11_assign_e_67 {P : Zt → Option Zv → Prop} (K : Int → Zl → List Zv → Zt → Prop) : sx_ K P [.iinc 2 1, .goto 21] 73 = x_iinc 2 1 (x_goto 21 K) := ((xe_iinc 2 1).trans (congrArg (x_iinc 2 1) (xe_goto 21)))
theorem bk_X11_assign_e_44 : ck_ fX11 (some .int) cX11_assign 44 [.ifCond .eq 67, .aload 0, .tableswitch 0 11 106 #[], .aload 0, .tableswitch 0 11 107 #[], .iload 2, .iastore, .aload 0, .dup, .tableswitch 0 11 107 #[], .iconst 1, .iadd, .tableswitch 1 11 107 #[], .iinc 2 1, .goto 21] 73 = true := qck_r (nn_ _) (by decide +kernel)
theorem bs_X11_assign_e_44 {P : Zt → Option Zv → Prop} (K : Int → Zl → List Zv → Zt → Prop) : sx_ K P [.ifCond .eq 67, .aload 0, .tableswitch 0 11 106 #[], .aload 0, .tableswitch 0 11 107 #[], .iload 2, .iastore, .aload 0, .dup, .tableswitch 0 11 107 #[], .iconst 1, .iadd, .tableswitch 1 11 107 #[], .iinc 2 1, .goto 21] 73 = x_ifCond .eq 67 K (x_aload 0 (x_g1 111 306 (x_aload 0 (x_g0 111 107 0 400 (x_iload 2 (x_iastore (x_aload 0 (x_dup (x_g0 111 107 0 400 (x_iconst 1 (x_iadd (x_p 111 107 0 400 (x_iinc 2 1 (x_goto 21 K)))))))))))))) := ((xe_ifCond .eq 67).trans (congrArg (x_ifCond .eq 67 K) ((xe_aload 0).trans (congrArg (x_aload 0) ((xe_g1 (kk := 111) rfl tl_11_106).trans (congrArg (x_g1 111 306) ((xe_aload 0).trans (congrArg (x_aload 0) ((xe_g0 (kk := 111) rfl tl_11_107).trans (congrArg (x_g0 111 107 0 400) ((xe_iload 2).trans (congrArg (x_iload 2) ((xe_iastore).trans (congrArg (x_iastore) ((xe_aload 0).trans (congrArg (x_aload 0) ((xe_dup).trans (congrArg (x_dup) ((xe_g0 (kk := 111) rfl tl_11_107).trans (congrArg (x_g0 111 107 0 400) ((xe_iconst 1).trans (congrArg (x_iconst 1) ((xe_iadd).trans (congrArg (x_iadd) ((xe_p (kk := 111) rfl tl_11_107).trans (congrArg (x_p 111 107 0 400) ((xe_iinc 2 1).trans (congrArg (x_iinc 2 1) (xe_goto 21)))))))))))))))))))))))))))))
theorem bk_X11_assign_e_0 : ck_ fX11 (some .int) cX11_assign 0 [.iload 1, .iconst 0, .iconst 999] 5 = true := qck_r (nn_ _) (by decide +kernel)
theorem bs_X11_assign_e_0 {P : Zt → Option Zv → Prop} (K : Int → Zl → List Zv → Zt → Prop) : sx_ K P [.iload 1, .iconst 0, .iconst 999] 5 = x_iload 1 (x_iconst 0 (x_iconst 999 (K 5))) := ((xe_iload 1).trans (congrArg (x_iload 1) ((xe_iconst 0).trans (congrArg (x_iconst 0) ((xe_iconst 999).trans (congrArg (x_iconst 999) xe_nil))))))
theorem bk_X11_assign_e_8 : ck_ fX11 (some .int) cX11_assign 8 [.ifCond .ne 14, .iconst (-3), .ireturn] 14 = true := qck_r (nn_ _) (by decide +kernel)
theorem bs_X11_assign_e_8 {P : Zt → Option Zv → Prop} (K : Int → Zl → List Zv → Zt → Prop) : sx_ K P [.ifCond .ne 14, .iconst (-3), .ireturn] 14 = x_ifCond .ne 14 K (x_iconst (-3) (x_ireturn P)) := ((xe_ifCond .ne 14).trans (congrArg (x_ifCond .ne 14 K) ((xe_iconst (-3)).trans (congrArg (x_iconst (-3)) (xe_ireturn)))))
theorem bk_X11_assign_e_14 : ck_ fX11 (some .int) cX11_assign 14 [.aload 0, .iconst 0, .tableswitch 1 11 107 #[], .iconst 0, .istore 2] 21 = true := qck_r (nn_ _) (by decide +kernel)
theorem bs_X11_assign_e_14 {P : Zt → Option Zv → Prop} (K : Int → Zl → List Zv → Zt → Prop) : sx_ K P [.aload 0, .iconst 0, .tableswitch 1 11 107 #[], .iconst 0, .istore 2] 21 = x_aload 0 (x_iconst 0 (x_p 111 107 0 400 (x_iconst 0 (x_istore 2 (K 21))))) := ((xe_aload 0).trans (congrArg (x_aload 0) ((xe_iconst 0).trans (congrArg (x_iconst 0) ((xe_p (kk := 111) rfl tl_11_107).trans (congrArg (x_p 111 107 0 400) ((xe_iconst 0).trans (congrArg (x_iconst 0) ((xe_istore 2).trans (congrArg (x_istore 2) xe_nil))))))))))
abbrev po_X11_assign_e (T : Zt) (d : Int) : Zt → Option Zv → Prop := fun T' r => ∃ x : Int, r = some (vI x) ∧ fr_ [(306, []), (308, []), (311, []), (309, []), (310, []), (238, []), (111, [107, 112, 113])] T T' ∧ ((x = -3 ∧ ¬ (0 ≤ d ∧ d ≤ 999) ∧ ∀ m, T' 238 0 m = T 238 0 m) ∨ ((0 ≤ d ∧ d ≤ 999) ∧ x = nc9_ (dr9_ T d) (ar9_ T d) (T 111 0 21) (DLr_ T d).1 (DLr_ T d).1.toNat ∧ ∀ m, T' 238 0 m = om9_ (dr9_ T d) (ar9_ T d) (T 111 0 21) (DLr_ T d).1 (DLr_ T d).2 (fun m => T 238 0 m) (DLr_ T d).1.toNat m))
set_option maxHeartbeats 4000000 in
theorem ct_X11_assign_e {T : Zt} {d : Int} : Ct_ yX11_assign zX11_assign T [vR 111 0, vI d] (po_X11_assign_e T d) := by
  refine ct_of pn_11 rfl rfl (Nat.le_of_ble_eq_true rfl) (fun hT hav => ?_)
  have hr_d : -2147483648 ≤ d ∧ d ≤ 2147483647 := hav (vI d) (List.mem_cons_of_mem _ List.mem_cons_self)
  have hz : zX11_assign.2.2.2.1 = some .boolean → ∀ (T' : Zt) (x : Int), po_X11_assign_e T d T' (some (vI x)) → 0 ≤ x ∧ x ≤ 1 := fun h => by cases h
  have hb_29 : 0 ≤ T 111 0 29 ∧ T 111 0 29 ≤ 400 := bd_f hT 111 29 tl_11_29 0
  have hb_21 : 0 ≤ T 111 0 21 ∧ T 111 0 21 ≤ 8 := bd_f hT 111 21 tl_11_21 0
  have hde : 0 ≤ (DLr_ T d).1 ∧ (DLr_ T d).1 ≤ T 111 0 29 := by
    have y := (dl_b (D := LDr_ T d) (T 111 0 29).toNat).1
    have y2 : 0 ≤ (DLr_ T d).1 ∧ (DLr_ T d).1 ≤ ((T 111 0 29).toNat : Int) := y
    omega
  have hdr : ∀ i o, 0 ≤ i → i < (DLr_ T d).1 → 0 ≤ o → o < 8 → 0 ≤ di_ T ((DLr_ T d).2 i) o ∧ di_ T ((DLr_ T d).2 i) o ≤ 11 := by
    intro i o a b c d9
    have hL := (dl_b (D := LDr_ T d) (T 111 0 29).toNat).2 i a b
    have hL2 : 0 ≤ (DLr_ T d).2 i ∧ (DLr_ T d).2 i < ((T 111 0 29).toNat : Int) := hL
    have u2 : 0 ≤ T 232 0 ((DLr_ T d).2 i) ∧ T 232 0 ((DLr_ T d).2 i) ≤ 11 := bd_a hT 232 (by decide +kernel : ta_ 232 = some (1, some 400, 0, 11)) 0 (by omega)
    have u3 : 0 ≤ T 213 0 (T 232 0 ((DLr_ T d).2 i)) ∧ T 213 0 (T 232 0 ((DLr_ T d).2 i)) ≤ 11 := bd_a hT 213 (by decide +kernel : ta_ 213 = some (1, some 12, 0, 11)) 0 (by omega)
    have u4 : 0 ≤ T 222 0 o ∧ T 222 0 o ≤ 11 := bd_a hT 222 (by decide +kernel : ta_ 222 = some (1, some 8, 0, 11)) 0 (by omega)
    unfold di_
    split <;> omega
  show J_ zX11_assign T (po_X11_assign_e T d) 0 0 0 [some (vR 111 0), some (vI d), none, none, none, none, none, none, none] [] T
  have c_101 : ∀ (nn : Nat) (mn : Int) (wn : Int) (sm : Int) (tk : Int) (i : Int) (T2 : Zt), ((400 - i).toNat) ≤ nn → (fr_ [(306, []), (308, []), (311, []), (309, []), (310, []), (238, []), (111, [107, 112, 113])] T T2) → ((0 ≤ d ∧ d ≤ 999) ∧ (0 ≤ i ∧ i ≤ (DLr_ T d).1) ∧ (0 ≤ wn ∧ wn ≤ 8) ∧ (0 ≤ sm ∧ sm ≤ 88) ∧ (0 ≤ tk ∧ tk ≤ 4095) ∧ T2 111 0 107 = (DLr_ T d).1) → (tk = sa9_ (dr9_ T d) (ar9_ T d) (T 111 0 21) (DLr_ T d).1 i.toNat) → (bw9_ (dr9_ T d) (ar9_ T d) (T 111 0 21) (DLr_ T d).1 ((DLr_ T d).1 - i).toNat tk = 1000 * wn - sm) → (∀ j, 0 ≤ j → j < (DLr_ T d).1 → T2 306 0 j = (DLr_ T d).2 j) → (∀ m, T2 238 0 m = om9_ (dr9_ T d) (ar9_ T d) (T 111 0 21) (DLr_ T d).1 (DLr_ T d).2 (fun m => T 238 0 m) i.toNat m) → (mn = wn + nc9_ (dr9_ T d) (ar9_ T d) (T 111 0 21) (DLr_ T d).1 i.toNat) → J_ zX11_assign T (po_X11_assign_e T d) 0 0 101 [some (vR 111 0), some (vI d), some (vI mn), some (vI wn), some (vI sm), some (vI tk), some (vI i), none, none] [] T2 := by
    intro nn
    induction nn using Nat.strongRecOn with
    | _ nn ih_101 =>
      intro mn wn sm tk i T2 hm_101 hf_101 i2 t2 v2 l2 m2 c2
      replace hm_101 := fun (_ : Unit) => hm_101
      have c_116 : ∀ (nn : Nat) (wh : Int) (o : Int) (T3 : Zt), ((8 - o).toNat) ≤ nn → (fr_ [(306, []), (308, []), (311, []), (309, []), (310, []), (238, []), (111, [107, 112, 113])] T T3) → (-1 ≤ wh ∧ wh ≤ 7 ∧ 0 ≤ o ∧ o ≤ T 111 0 21 ∧ i < (DLr_ T d).1 ∧ T3 111 0 107 = (DLr_ T d).1) → (wh = fb9_ (dr9_ T d) (ar9_ T d) (fun t => bw9_ (dr9_ T d) (ar9_ T d) (T 111 0 21) (DLr_ T d).1 ((DLr_ T d).1 - (i + 1)).toNat t) (bw9_ (dr9_ T d) (ar9_ T d) (T 111 0 21) (DLr_ T d).1 ((DLr_ T d).1 - i).toNat tk) i tk o.toNat) → (∀ j, 0 ≤ j → j < (DLr_ T d).1 → T3 306 0 j = (DLr_ T d).2 j) → (∀ m, T3 238 0 m = om9_ (dr9_ T d) (ar9_ T d) (T 111 0 21) (DLr_ T d).1 (DLr_ T d).2 (fun m => T 238 0 m) i.toNat m) → J_ zX11_assign T (po_X11_assign_e T d) 0 0 116 [some (vR 111 0), some (vI d), some (vI mn), some (vI wn), some (vI sm), some (vI tk), some (vI i), some (vI wh), some (vI o)] [] T3 := by
        intro nn
        induction nn using Nat.strongRecOn with
        | _ nn ih_116 =>
          intro wh o T3 hm_116 hf_116 i3 w3 l3 m3
          replace hm_116 := fun (_ : Unit) => hm_116
          refine j_blx (F := fX11) tb_X11 (nn_ _) bk_X11_assign_e_116 bs_X11_assign_e_116 hz (fun K hK => ?_)
          intro b1 b1b
          have e2 : T3 111 0 21 = T 111 0 21 := hf_116 111 0 21 rfl
          rw [e2] at b1 b1b ⊢
          refine And.intro (fun c3 => ?_) (fun c3 => ?_)
          · refine hK 219 _ [] T3 ?_
            have hwh : wh = who9_ (dr9_ T d) (ar9_ T d) (T 111 0 21) (DLr_ T d).1 i tk := by
              rcases (by omega : wh ≠ -1 ∨ T 111 0 21 ≤ o) with z | z
              · rw [w3] at z ⊢
                exact (fb_n (by omega) z).symm
              · rw [w3, show o.toNat = (T 111 0 21).toNat by omega]
                rfl
            have hws := who_s (d := (dr9_ T d)) (A := (ar9_ T d)) (n := T 111 0 21) (e := (DLr_ T d).1) (k := i) (s := tk) (by omega) (by omega)
            rw [← hwh] at hws
            refine j_blx (F := fX11) tb_X11 (nn_ _) bk_X11_assign_e_219 bs_X11_assign_e_219 hz (fun K hK => ?_)
            refine ix_i (by omega) ?_
            intro b4 b4b
            refine iy_i (by omega) (by omega) ?_
            refine x_nm (fun U5 hU5 => ?_)
            have e6 := up_f hU5
            refine And.intro (fun c7 => ?_) (fun c7 => ?_)
            · refine hK 269 _ [] U5 ?_
              refine j_blx (F := fX11) tb_X11 (nn_ _) bk_X11_assign_e_269 bs_X11_assign_e_269 hz (fun K hK => ?_)
              refine rg_i (by omega) ?_
              refine hK 101 [some (vR 111 0), some (vI d), some (vI mn), some (vI wn), some (vI sm), some (vI tk), some (vI (i + 1)), some (vI wh), some (vI o)] [] U5 ?_
              refine j_drq [some (vR 111 0), some (vI d), some (vI mn), some (vI wn), some (vI sm), some (vI tk), some (vI (i + 1)), none, none] (drq_s (drq_s (drq_s (drq_s (drq_s (drq_s (drq_s (drq_n (drq_n drq_0))))))))) ?_
              have e8 : U5 111 0 107 = T3 111 0 107 := up_k hU5 (by exact Nat.ne_of_beq_eq_false rfl) 0 107
              refine ih_101 _ ?_ mn wn sm tk (i + 1) U5 (Nat.le_refl _) ?_ ?_ ?_ ?_ ?_ ?_ ?_
              · have hm_101 := hm_101 (); omega
              · exact fr_u (fr_t (fr_0 _ _) (fr_s hf_116 rfl)) hU5 rfl
              · omega
              · rw [(sa_n (by omega) (by rw [← t2, ← hwh]; omega)).1]
                exact t2
              · rcases hws with z | z
                · rw [z.2]; exact v2
                · omega
              · exact fun j a b => (up_k hU5 (by exact Nat.ne_of_beq_eq_false rfl) 0 j).trans (l3 j a b)
              · intro m9
                rw [om_s (by omega), ← t2, ← hwh]
                by_cases z : m9 = (DLr_ T d).2 i
                · rw [z, fu_s, ← l3 i (by omega) (by omega)]
                  exact (rfl).trans (up_f hU5)
                · rw [fu_n z, ← m3]
                  exact (rfl).trans (up_g hU5 (fun q => z (by rw [← l3 i (by omega) (by omega)]; exact q.2.2)))
              · rw [(sa_n (by omega) (by rw [← t2, ← hwh]; omega)).2]
                omega
            · intro w9 w9b
              intro w10 w10b
              refine rg_i (by omega) ?_
              refine ix_i (by omega) ?_
              intro b11 b11b
              have e12 : U5 306 0 i = T3 306 0 i := up_k hU5 (by exact Nat.ne_of_beq_eq_false rfl) 0 i
              rw [e12] at b11 b11b ⊢
              refine hK 263 [some (vR 111 0), some (vI d), some (vI mn), some (vI (wn + (-1))), some (vI sm), some (vI (or_ tk (sl_ 1 wh))), some (vI i), some (vI wh), some (vI o)] [vI wh, vI (T3 306 0 i), vR 111 0, vI sm] U5 ?_
              refine j_callV (y := yX11_distanceOf) (Yc := zX11_distanceOf) (rest := [vI sm]) [vI (T3 306 0 i), vI wh] (ct_X11_distanceOf (T := U5) (by omega) (by omega)) cl_X11_610 (qd_c (by decide +kernel)) (nn_ _) rfl (rf_of rfl) (Nat.le_of_ble_eq_true rfl) (Nat.le_of_ble_eq_true rfl) (Nat.le_of_ble_eq_true rfl) rfl ?_
              rintro _ _ ⟨rfl, rfl⟩
              show J_ zX11_assign T (po_X11_assign_e T d) 0 0 266 _ [vI (di_ U5 (T3 306 0 i) wh), vI sm] U5
              have hdz : di_ U5 (T3 306 0 i) wh = di_ T ((DLr_ T d).2 i) wh := by
                rw [← l3 i (by omega) (by omega)]
                exact di_e (fun j => (up_k hU5 (by exact Nat.ne_of_beq_eq_false rfl) 0 j).trans (hf_116 222 0 j rfl)) (fun j => (up_k hU5 (by exact Nat.ne_of_beq_eq_false rfl) 0 j).trans (hf_116 213 0 j rfl)) (fun j => (up_k hU5 (by exact Nat.ne_of_beq_eq_false rfl) 0 j).trans (hf_116 232 0 j rfl))
              have hdy := hdr i wh (by omega) (by omega) (by omega) (by omega)
              refine j_blx (F := fX11) tb_X11 (nn_ _) bk_X11_assign_e_266 bs_X11_assign_e_266 hz (fun K hK => ?_)
              refine rg_i (by omega) ?_
              refine rg_i (by omega) ?_
              refine hK 101 [some (vR 111 0), some (vI d), some (vI mn), some (vI (wn + (-1))), some (vI (sm - (di_ U5 (T3 306 0 i) wh))), some (vI (or_ tk (sl_ 1 wh))), some (vI (i + 1)), some (vI wh), some (vI o)] [] U5 ?_
              refine j_drq [some (vR 111 0), some (vI d), some (vI mn), some (vI (wn + (-1))), some (vI (sm - (di_ U5 (T3 306 0 i) wh))), some (vI (or_ tk (sl_ 1 wh))), some (vI (i + 1)), none, none] (drq_s (drq_s (drq_s (drq_s (drq_s (drq_s (drq_s (drq_n (drq_n drq_0))))))))) ?_
              have e13 : U5 111 0 107 = T3 111 0 107 := up_k hU5 (by exact Nat.ne_of_beq_eq_false rfl) 0 107
              refine ih_101 _ ?_ mn (wn + (-1)) (sm - (di_ U5 (T3 306 0 i) wh)) (or_ tk (sl_ 1 wh)) (i + 1) U5 (Nat.le_refl _) ?_ ?_ ?_ ?_ ?_ ?_ ?_
              · have hm_101 := hm_101 (); omega
              · exact fr_u (fr_t (fr_0 _ _) (fr_s hf_116 rfl)) hU5 rfl
              · have z := hws.resolve_left (by omega)
                have z2 : 1000 - di_ T ((DLr_ T d).2 i) wh + bw9_ (dr9_ T d) (ar9_ T d) (T 111 0 21) (DLr_ T d).1 ((DLr_ T d).1 - (i + 1)).toNat (or_ tk (sl_ 1 wh)) = bw9_ (dr9_ T d) (ar9_ T d) (T 111 0 21) (DLr_ T d).1 ((DLr_ T d).1 - i).toNat tk := z.2.2
                have o9 := or_b (x := tk) (by omega) (sl_b (c := wh) (by omega))
                have y4 := hdr i wh (by omega) (by omega) (by omega) (by omega)
                obtain ⟨a9, b9, r1, r2, r3⟩ := bw_r (d := (dr9_ T d)) (A := (ar9_ T d)) (n := T 111 0 21) (e := (DLr_ T d).1) (j := ((DLr_ T d).1 - (i + 1)).toNat) (s := or_ tk (sl_ 1 wh)) (by omega) o9 (fun i9 o8 p1 p2 p3 p4 => hdr i9 o8 (by omega) p2 p3 (by omega))
                omega
              · rw [(sa_w (by omega) (by rw [← t2, ← hwh]; omega)).1, ← t2, ← hwh]
              · have z := hws.resolve_left (by omega)
                have z2 : 1000 - di_ T ((DLr_ T d).2 i) wh + bw9_ (dr9_ T d) (ar9_ T d) (T 111 0 21) (DLr_ T d).1 ((DLr_ T d).1 - (i + 1)).toNat (or_ tk (sl_ 1 wh)) = bw9_ (dr9_ T d) (ar9_ T d) (T 111 0 21) (DLr_ T d).1 ((DLr_ T d).1 - i).toNat tk := z.2.2
                omega
              · exact fun j a b => (up_k hU5 (by exact Nat.ne_of_beq_eq_false rfl) 0 j).trans (l3 j a b)
              · intro m9
                rw [om_s (by omega), ← t2, ← hwh]
                by_cases z : m9 = (DLr_ T d).2 i
                · rw [z, fu_s, ← l3 i (by omega) (by omega)]
                  exact (rfl).trans (up_f hU5)
                · rw [fu_n z, ← m3]
                  exact (rfl).trans (up_g hU5 (fun q => z (by rw [← l3 i (by omega) (by omega)]; exact q.2.2)))
              · rw [(sa_w (by omega) (by rw [← t2, ← hwh]; omega)).2]
                omega
          · refine And.intro (fun c14 => ?_) (fun c14 => ?_)
            · refine hK 219 _ [] T3 ?_
              have hwh : wh = who9_ (dr9_ T d) (ar9_ T d) (T 111 0 21) (DLr_ T d).1 i tk := by
                rcases (by omega : wh ≠ -1 ∨ T 111 0 21 ≤ o) with z | z
                · rw [w3] at z ⊢
                  exact (fb_n (by omega) z).symm
                · rw [w3, show o.toNat = (T 111 0 21).toNat by omega]
                  rfl
              have hws := who_s (d := (dr9_ T d)) (A := (ar9_ T d)) (n := T 111 0 21) (e := (DLr_ T d).1) (k := i) (s := tk) (by omega) (by omega)
              rw [← hwh] at hws
              refine j_blx (F := fX11) tb_X11 (nn_ _) bk_X11_assign_e_219 bs_X11_assign_e_219 hz (fun K hK => ?_)
              refine ix_i (by omega) ?_
              intro b15 b15b
              refine iy_i (by omega) (by omega) ?_
              refine x_nm (fun U16 hU16 => ?_)
              have e17 := up_f hU16
              refine And.intro (fun c18 => ?_) (fun c18 => ?_)
              · refine hK 269 _ [] U16 ?_
                refine j_blx (F := fX11) tb_X11 (nn_ _) bk_X11_assign_e_269 bs_X11_assign_e_269 hz (fun K hK => ?_)
                refine rg_i (by omega) ?_
                refine hK 101 [some (vR 111 0), some (vI d), some (vI mn), some (vI wn), some (vI sm), some (vI tk), some (vI (i + 1)), some (vI wh), some (vI o)] [] U16 ?_
                refine j_drq [some (vR 111 0), some (vI d), some (vI mn), some (vI wn), some (vI sm), some (vI tk), some (vI (i + 1)), none, none] (drq_s (drq_s (drq_s (drq_s (drq_s (drq_s (drq_s (drq_n (drq_n drq_0))))))))) ?_
                have e19 : U16 111 0 107 = T3 111 0 107 := up_k hU16 (by exact Nat.ne_of_beq_eq_false rfl) 0 107
                refine ih_101 _ ?_ mn wn sm tk (i + 1) U16 (Nat.le_refl _) ?_ ?_ ?_ ?_ ?_ ?_ ?_
                · have hm_101 := hm_101 (); omega
                · exact fr_u (fr_t (fr_0 _ _) (fr_s hf_116 rfl)) hU16 rfl
                · omega
                · rw [(sa_n (by omega) (by rw [← t2, ← hwh]; omega)).1]
                  exact t2
                · rcases hws with z | z
                  · rw [z.2]; exact v2
                  · omega
                · exact fun j a b => (up_k hU16 (by exact Nat.ne_of_beq_eq_false rfl) 0 j).trans (l3 j a b)
                · intro m9
                  rw [om_s (by omega), ← t2, ← hwh]
                  by_cases z : m9 = (DLr_ T d).2 i
                  · rw [z, fu_s, ← l3 i (by omega) (by omega)]
                    exact (rfl).trans (up_f hU16)
                  · rw [fu_n z, ← m3]
                    exact (rfl).trans (up_g hU16 (fun q => z (by rw [← l3 i (by omega) (by omega)]; exact q.2.2)))
                · rw [(sa_n (by omega) (by rw [← t2, ← hwh]; omega)).2]
                  omega
              · intro w20 w20b
                intro w21 w21b
                refine rg_i (by omega) ?_
                refine ix_i (by omega) ?_
                intro b22 b22b
                have e23 : U16 306 0 i = T3 306 0 i := up_k hU16 (by exact Nat.ne_of_beq_eq_false rfl) 0 i
                rw [e23] at b22 b22b ⊢
                refine hK 263 [some (vR 111 0), some (vI d), some (vI mn), some (vI (wn + (-1))), some (vI sm), some (vI (or_ tk (sl_ 1 wh))), some (vI i), some (vI wh), some (vI o)] [vI wh, vI (T3 306 0 i), vR 111 0, vI sm] U16 ?_
                refine j_callV (y := yX11_distanceOf) (Yc := zX11_distanceOf) (rest := [vI sm]) [vI (T3 306 0 i), vI wh] (ct_X11_distanceOf (T := U16) (by omega) (by omega)) cl_X11_610 (qd_c (by decide +kernel)) (nn_ _) rfl (rf_of rfl) (Nat.le_of_ble_eq_true rfl) (Nat.le_of_ble_eq_true rfl) (Nat.le_of_ble_eq_true rfl) rfl ?_
                rintro _ _ ⟨rfl, rfl⟩
                show J_ zX11_assign T (po_X11_assign_e T d) 0 0 266 _ [vI (di_ U16 (T3 306 0 i) wh), vI sm] U16
                have hdz : di_ U16 (T3 306 0 i) wh = di_ T ((DLr_ T d).2 i) wh := by
                  rw [← l3 i (by omega) (by omega)]
                  exact di_e (fun j => (up_k hU16 (by exact Nat.ne_of_beq_eq_false rfl) 0 j).trans (hf_116 222 0 j rfl)) (fun j => (up_k hU16 (by exact Nat.ne_of_beq_eq_false rfl) 0 j).trans (hf_116 213 0 j rfl)) (fun j => (up_k hU16 (by exact Nat.ne_of_beq_eq_false rfl) 0 j).trans (hf_116 232 0 j rfl))
                have hdy := hdr i wh (by omega) (by omega) (by omega) (by omega)
                refine j_blx (F := fX11) tb_X11 (nn_ _) bk_X11_assign_e_266 bs_X11_assign_e_266 hz (fun K hK => ?_)
                refine rg_i (by omega) ?_
                refine rg_i (by omega) ?_
                refine hK 101 [some (vR 111 0), some (vI d), some (vI mn), some (vI (wn + (-1))), some (vI (sm - (di_ U16 (T3 306 0 i) wh))), some (vI (or_ tk (sl_ 1 wh))), some (vI (i + 1)), some (vI wh), some (vI o)] [] U16 ?_
                refine j_drq [some (vR 111 0), some (vI d), some (vI mn), some (vI (wn + (-1))), some (vI (sm - (di_ U16 (T3 306 0 i) wh))), some (vI (or_ tk (sl_ 1 wh))), some (vI (i + 1)), none, none] (drq_s (drq_s (drq_s (drq_s (drq_s (drq_s (drq_s (drq_n (drq_n drq_0))))))))) ?_
                have e24 : U16 111 0 107 = T3 111 0 107 := up_k hU16 (by exact Nat.ne_of_beq_eq_false rfl) 0 107
                refine ih_101 _ ?_ mn (wn + (-1)) (sm - (di_ U16 (T3 306 0 i) wh)) (or_ tk (sl_ 1 wh)) (i + 1) U16 (Nat.le_refl _) ?_ ?_ ?_ ?_ ?_ ?_ ?_
                · have hm_101 := hm_101 (); omega
                · exact fr_u (fr_t (fr_0 _ _) (fr_s hf_116 rfl)) hU16 rfl
                · have z := hws.resolve_left (by omega)
                  have z2 : 1000 - di_ T ((DLr_ T d).2 i) wh + bw9_ (dr9_ T d) (ar9_ T d) (T 111 0 21) (DLr_ T d).1 ((DLr_ T d).1 - (i + 1)).toNat (or_ tk (sl_ 1 wh)) = bw9_ (dr9_ T d) (ar9_ T d) (T 111 0 21) (DLr_ T d).1 ((DLr_ T d).1 - i).toNat tk := z.2.2
                  have o9 := or_b (x := tk) (by omega) (sl_b (c := wh) (by omega))
                  have y4 := hdr i wh (by omega) (by omega) (by omega) (by omega)
                  obtain ⟨a9, b9, r1, r2, r3⟩ := bw_r (d := (dr9_ T d)) (A := (ar9_ T d)) (n := T 111 0 21) (e := (DLr_ T d).1) (j := ((DLr_ T d).1 - (i + 1)).toNat) (s := or_ tk (sl_ 1 wh)) (by omega) o9 (fun i9 o8 p1 p2 p3 p4 => hdr i9 o8 (by omega) p2 p3 (by omega))
                  omega
                · rw [(sa_w (by omega) (by rw [← t2, ← hwh]; omega)).1, ← t2, ← hwh]
                · have z := hws.resolve_left (by omega)
                  have z2 : 1000 - di_ T ((DLr_ T d).2 i) wh + bw9_ (dr9_ T d) (ar9_ T d) (T 111 0 21) (DLr_ T d).1 ((DLr_ T d).1 - (i + 1)).toNat (or_ tk (sl_ 1 wh)) = bw9_ (dr9_ T d) (ar9_ T d) (T 111 0 21) (DLr_ T d).1 ((DLr_ T d).1 - i).toNat tk := z.2.2
                  omega
                · exact fun j a b => (up_k hU16 (by exact Nat.ne_of_beq_eq_false rfl) 0 j).trans (l3 j a b)
                · intro m9
                  rw [om_s (by omega), ← t2, ← hwh]
                  by_cases z : m9 = (DLr_ T d).2 i
                  · rw [z, fu_s, ← l3 i (by omega) (by omega)]
                    exact (rfl).trans (up_f hU16)
                  · rw [fu_n z, ← m3]
                    exact (rfl).trans (up_g hU16 (fun q => z (by rw [← l3 i (by omega) (by omega)]; exact q.2.2)))
                · rw [(sa_w (by omega) (by rw [← t2, ← hwh]; omega)).2]
                  omega
            · intro w25 w25b
              intro w26 w26b
              refine And.intro (fun c27 => ?_) (fun c27 => ?_)
              · refine hK 213 _ [] T3 ?_
                refine j_blx (F := fX11) tb_X11 (nn_ _) bk_X11_assign_e_213 bs_X11_assign_e_213 hz (fun K hK => ?_)
                refine rg_i (by omega) ?_
                refine hK 116 [some (vR 111 0), some (vI d), some (vI mn), some (vI wn), some (vI sm), some (vI tk), some (vI i), some (vI wh), some (vI (o + 1))] [] T3 ?_
                refine ih_116 _ ?_ wh (o + 1) T3 (Nat.le_refl _) ?_ ?_ ?_ ?_ ?_
                · have hm_116 := hm_116 (); omega
                · exact fr_t (fr_0 _ _) (fr_s hf_116 rfl)
                · omega
                · rw [fb_f (by omega) (fun q => ?_)]
                  · exact w3
                  · first
                    | exact absurd q.2.1.1 (by omega)
                    | (have y : ld_ T ((DLr_ T d).2 i) o := q.2.1.2
                       rw [← l3 i (by omega) (by omega)] at y
                       exact absurd ((ld_e (fun j => hf_116 223 0 j rfl) (fun j => hf_116 214 0 j rfl) (fun j => hf_116 232 0 j rfl) (fun j => hf_116 233 0 j rfl)).mpr y) (hlx.resolve_left (fun z => absurd z.1 (by omega))).2)
                · exact fun j a b => (rfl).trans (l3 j a b)
                · exact fun m => (rfl).trans (m3 m)
              · refine ix_i (by omega) ?_
                intro b28 b28b
                refine hK 151 [some (vR 111 0), some (vI d), some (vI mn), some (vI wn), some (vI sm), some (vI tk), some (vI i), some (vI wh), some (vI o)] [vI o, vI (T3 306 0 i), vR 111 0] T3 ?_
                refine j_callV (y := yX11_mayLead) (Yc := zX11_mayLead) (rest := []) [vI (T3 306 0 i), vI o] (ct_X11_mayLead (T := T3) (by omega) (by omega)) cl_X11_613 (qd_c (by decide +kernel)) (nn_ _) rfl (rf_of rfl) (Nat.le_of_ble_eq_true rfl) (Nat.le_of_ble_eq_true rfl) (Nat.le_of_ble_eq_true rfl) rfl ?_
                rintro _ _ ⟨rfl, x29, rfl, hx29⟩
                show J_ zX11_assign T (po_X11_assign_e T d) 0 0 154 _ [vI x29] T3
                have hlx := hx29
                refine j_blx (F := fX11) tb_X11 (nn_ _) bk_X11_assign_e_154 bs_X11_assign_e_154 hz (fun K hK => ?_)
                refine And.intro (fun c30 => ?_) (fun c30 => ?_)
                · refine hK 213 _ [] T3 ?_
                  refine j_blx (F := fX11) tb_X11 (nn_ _) bk_X11_assign_e_213 bs_X11_assign_e_213 hz (fun K hK => ?_)
                  refine rg_i (by omega) ?_
                  refine hK 116 [some (vR 111 0), some (vI d), some (vI mn), some (vI wn), some (vI sm), some (vI tk), some (vI i), some (vI wh), some (vI (o + 1))] [] T3 ?_
                  refine ih_116 _ ?_ wh (o + 1) T3 (Nat.le_refl _) ?_ ?_ ?_ ?_ ?_
                  · have hm_116 := hm_116 (); omega
                  · exact fr_t (fr_0 _ _) (fr_s hf_116 rfl)
                  · omega
                  · rw [fb_f (by omega) (fun q => ?_)]
                    · exact w3
                    · first
                      | exact absurd q.2.1.1 (by omega)
                      | (have y : ld_ T ((DLr_ T d).2 i) o := q.2.1.2
                         rw [← l3 i (by omega) (by omega)] at y
                         exact absurd ((ld_e (fun j => hf_116 223 0 j rfl) (fun j => hf_116 214 0 j rfl) (fun j => hf_116 232 0 j rfl) (fun j => hf_116 233 0 j rfl)).mpr y) (hlx.resolve_left (fun z => absurd z.1 (by omega))).2)
                  · exact fun j a b => (rfl).trans (l3 j a b)
                  · exact fun m => (rfl).trans (m3 m)
                · refine rg_i (by omega) ?_
                  intro w31 w31b
                  intro w32 w32b
                  refine hK 169 [some (vR 111 0), some (vI d), some (vI mn), some (vI wn), some (vI sm), some (vI tk), some (vI i), some (vI wh), some (vI o)] [vI (or_ tk (sl_ 1 o)), vI (i + 1), vR 111 0] T3 ?_
                  refine j_callV (y := yX11_matchRest) (Yc := zX11_matchRest) (rest := []) [vI (i + 1), vI (or_ tk (sl_ 1 o))] (ct_X11_matchRest_e (T := T3) (by omega)) cl_X11_628 (qd_c (by decide +kernel)) (nn_ _) rfl (rf_of rfl) (Nat.le_of_ble_eq_true rfl) (Nat.le_of_ble_eq_true rfl) (Nat.le_of_ble_eq_true rfl) rfl ?_
                  rintro U33 _ ⟨rfl, fU33, ⟨qU33b, qU33m⟩⟩
                  show J_ zX11_assign T (po_X11_assign_e T d) 0 0 172 _ [] U33
                  have e34 : T3 111 0 21 = T 111 0 21 := hf_116 111 0 21 rfl
                  have hw9 := mb_w (T := T) (L := (DLr_ T d).2) qU33m (or_b (by omega) (sl_b (by omega))) ⟨by omega, by omega⟩ ⟨by omega, by omega⟩ (fun i o a b c e => hdr i o a (by omega) c (by omega)) (fun i a b => (rfl).trans (l3 i a (by omega))) (fun m o => di_e (fun j => hf_116 222 0 j rfl) (fun j => hf_116 213 0 j rfl) (fun j => hf_116 232 0 j rfl)) (fun m o => ld_e (fun j => hf_116 223 0 j rfl) (fun j => hf_116 214 0 j rfl) (fun j => hf_116 232 0 j rfl) (fun j => hf_116 233 0 j rfl))
                  have hv9 : bw9_ (dr9_ T d) (ar9_ T d) (T 111 0 21) (DLr_ T d).1 ((DLr_ T d).1 - (i + 1)).toNat (or_ tk (sl_ 1 o)) = 1000 * U33 111 0 112 - U33 111 0 113 := by
                    have y := hw9.1
                    rw [show T3 111 0 21 = T 111 0 21 by omega, show T3 111 0 107 = (DLr_ T d).1 by omega] at y
                    exact y
                  refine j_blx (F := fX11) tb_X11 (nn_ _) bk_X11_assign_e_172 bs_X11_assign_e_172 hz (fun K hK => ?_)
                  intro b35 b35b
                  refine rg_i (by omega) ?_
                  refine And.intro (fun c36 => ?_) (fun c36 => ?_)
                  · refine hK 210 _ [] U33 ?_
                    refine j_blx (F := fX11) tb_X11 (nn_ _) bk_X11_assign_e_210 bs_X11_assign_e_210 hz (fun K hK => ?_)
                    refine rg_i (by omega) ?_
                    refine hK 116 [some (vR 111 0), some (vI d), some (vI mn), some (vI wn), some (vI sm), some (vI tk), some (vI i), some (vI (-1)), some (vI (o + 1))] [] U33 ?_
                    have e37 : U33 111 0 107 = T3 111 0 107 := fU33 111 0 107 rfl
                    refine ih_116 _ ?_ (-1) (o + 1) U33 (Nat.le_refl _) ?_ ?_ ?_ ?_ ?_
                    · have hm_116 := hm_116 (); omega
                    · exact fr_t (fr_t (fr_0 _ _) (fr_s hf_116 rfl)) (fr_s fU33 rfl)
                    · omega
                    · have y1 : an_ (sr_ tk o) 1 = 0 := by omega
                      have y2 : ld_ T3 (T3 306 0 i) o := (hlx.resolve_right (fun z => absurd z.1 (by omega))).2
                      have y3 : ld_ T ((DLr_ T d).2 i) o := by
                        rw [← l3 i (by omega) (by omega)]
                        exact (ld_e (fun j => hf_116 223 0 j rfl) (fun j => hf_116 214 0 j rfl) (fun j => hf_116 232 0 j rfl) (fun j => hf_116 233 0 j rfl)).mp y2
                      have y4 := hdr i o (by omega) (by omega) (by omega) (by omega)
                      rw [fb_f (by omega) (fun q => ?_)]
                      · omega
                      · have q2 : 1000 - di_ T ((DLr_ T d).2 i) o + bw9_ (dr9_ T d) (ar9_ T d) (T 111 0 21) (DLr_ T d).1 ((DLr_ T d).1 - (i + 1)).toNat (or_ tk (sl_ 1 o)) = bw9_ (dr9_ T d) (ar9_ T d) (T 111 0 21) (DLr_ T d).1 ((DLr_ T d).1 - i).toNat tk := q.2.2
                        omega
                    · exact fun j a b => (fU33 306 0 j rfl).trans (l3 j a b)
                    · exact fun m => (fU33 238 0 m rfl).trans (m3 m)
                  · intro b38 b38b
                    refine ix_i (by omega) ?_
                    intro b39 b39b
                    have e40 : U33 306 0 i = T3 306 0 i := fU33 306 0 i rfl
                    rw [e40] at b39 b39b ⊢
                    refine hK 196 [some (vR 111 0), some (vI d), some (vI mn), some (vI wn), some (vI sm), some (vI tk), some (vI i), some (vI wh), some (vI o)] [vI o, vI (T3 306 0 i), vR 111 0, vI (U33 111 0 113)] U33 ?_
                    refine j_callV (y := yX11_distanceOf) (Yc := zX11_distanceOf) (rest := [vI (U33 111 0 113)]) [vI (T3 306 0 i), vI o] (ct_X11_distanceOf (T := U33) (by omega) (by omega)) cl_X11_610 (qd_c (by decide +kernel)) (nn_ _) rfl (rf_of rfl) (Nat.le_of_ble_eq_true rfl) (Nat.le_of_ble_eq_true rfl) (Nat.le_of_ble_eq_true rfl) rfl ?_
                    rintro _ _ ⟨rfl, rfl⟩
                    show J_ zX11_assign T (po_X11_assign_e T d) 0 0 199 _ [vI (di_ U33 (T3 306 0 i) o), vI (U33 111 0 113)] U33
                    have hdz : di_ U33 (T3 306 0 i) o = di_ T ((DLr_ T d).2 i) o := by
                      rw [← l3 i (by omega) (by omega)]
                      exact di_e (fun j => (fU33 222 0 j rfl).trans (hf_116 222 0 j rfl)) (fun j => (fU33 213 0 j rfl).trans (hf_116 213 0 j rfl)) (fun j => (fU33 232 0 j rfl).trans (hf_116 232 0 j rfl))
                    have hdy := hdr i o (by omega) (by omega) (by omega) (by omega)
                    refine j_blx (F := fX11) tb_X11 (nn_ _) bk_X11_assign_e_199 bs_X11_assign_e_199 hz (fun K hK => ?_)
                    refine rg_i (by omega) ?_
                    refine And.intro (fun c41 => ?_) (fun c41 => ?_)
                    · refine hK 210 _ [] U33 ?_
                      refine j_blx (F := fX11) tb_X11 (nn_ _) bk_X11_assign_e_210 bs_X11_assign_e_210 hz (fun K hK => ?_)
                      refine rg_i (by omega) ?_
                      refine hK 116 [some (vR 111 0), some (vI d), some (vI mn), some (vI wn), some (vI sm), some (vI tk), some (vI i), some (vI (-1)), some (vI (o + 1))] [] U33 ?_
                      have e42 : U33 111 0 107 = T3 111 0 107 := fU33 111 0 107 rfl
                      refine ih_116 _ ?_ (-1) (o + 1) U33 (Nat.le_refl _) ?_ ?_ ?_ ?_ ?_
                      · have hm_116 := hm_116 (); omega
                      · exact fr_t (fr_t (fr_0 _ _) (fr_s hf_116 rfl)) (fr_s fU33 rfl)
                      · omega
                      · have y1 : an_ (sr_ tk o) 1 = 0 := by omega
                        have y2 : ld_ T3 (T3 306 0 i) o := (hlx.resolve_right (fun z => absurd z.1 (by omega))).2
                        have y3 : ld_ T ((DLr_ T d).2 i) o := by
                          rw [← l3 i (by omega) (by omega)]
                          exact (ld_e (fun j => hf_116 223 0 j rfl) (fun j => hf_116 214 0 j rfl) (fun j => hf_116 232 0 j rfl) (fun j => hf_116 233 0 j rfl)).mp y2
                        have y4 := hdr i o (by omega) (by omega) (by omega) (by omega)
                        rw [fb_f (by omega) (fun q => ?_)]
                        · omega
                        · have q2 : 1000 - di_ T ((DLr_ T d).2 i) o + bw9_ (dr9_ T d) (ar9_ T d) (T 111 0 21) (DLr_ T d).1 ((DLr_ T d).1 - (i + 1)).toNat (or_ tk (sl_ 1 o)) = bw9_ (dr9_ T d) (ar9_ T d) (T 111 0 21) (DLr_ T d).1 ((DLr_ T d).1 - i).toNat tk := q.2.2
                          omega
                      · exact fun j a b => (fU33 306 0 j rfl).trans (l3 j a b)
                      · exact fun m => (fU33 238 0 m rfl).trans (m3 m)
                    · refine hK 211 [some (vR 111 0), some (vI d), some (vI mn), some (vI wn), some (vI sm), some (vI tk), some (vI i), some (vI wh), some (vI o)] [vI o] U33 ?_
                      refine j_blx (F := fX11) tb_X11 (nn_ _) bk_X11_assign_e_211 bs_X11_assign_e_211 hz (fun K hK => ?_)
                      refine rg_i (by omega) ?_
                      refine hK 116 [some (vR 111 0), some (vI d), some (vI mn), some (vI wn), some (vI sm), some (vI tk), some (vI i), some (vI o), some (vI (o + 1))] [] U33 ?_
                      have e43 : U33 111 0 107 = T3 111 0 107 := fU33 111 0 107 rfl
                      refine ih_116 _ ?_ o (o + 1) U33 (Nat.le_refl _) ?_ ?_ ?_ ?_ ?_
                      · have hm_116 := hm_116 (); omega
                      · exact fr_t (fr_t (fr_0 _ _) (fr_s hf_116 rfl)) (fr_s fU33 rfl)
                      · omega
                      · have y1 : an_ (sr_ tk o) 1 = 0 := by omega
                        have y2 : ld_ T3 (T3 306 0 i) o := (hlx.resolve_right (fun z => absurd z.1 (by omega))).2
                        have y3 : ld_ T ((DLr_ T d).2 i) o := by
                          rw [← l3 i (by omega) (by omega)]
                          exact (ld_e (fun j => hf_116 223 0 j rfl) (fun j => hf_116 214 0 j rfl) (fun j => hf_116 232 0 j rfl) (fun j => hf_116 233 0 j rfl)).mp y2
                        have y4 := hdr i o (by omega) (by omega) (by omega) (by omega)
                        have y5 : 1000 - dr9_ T d i o + (fun t => bw9_ (dr9_ T d) (ar9_ T d) (T 111 0 21) (DLr_ T d).1 ((DLr_ T d).1 - (i + 1)).toNat t) (or_ tk (sl_ 1 o)) = bw9_ (dr9_ T d) (ar9_ T d) (T 111 0 21) (DLr_ T d).1 ((DLr_ T d).1 - i).toNat tk := by
                          show 1000 - di_ T ((DLr_ T d).2 i) o + bw9_ (dr9_ T d) (ar9_ T d) (T 111 0 21) (DLr_ T d).1 ((DLr_ T d).1 - (i + 1)).toNat (or_ tk (sl_ 1 o)) = bw9_ (dr9_ T d) (ar9_ T d) (T 111 0 21) (DLr_ T d).1 ((DLr_ T d).1 - i).toNat tk
                          omega
                        exact (fb_t (d := (dr9_ T d)) (A := (ar9_ T d)) (B := fun t => bw9_ (dr9_ T d) (ar9_ T d) (T 111 0 21) (DLr_ T d).1 ((DLr_ T d).1 - (i + 1)).toNat t) (V := bw9_ (dr9_ T d) (ar9_ T d) (T 111 0 21) (DLr_ T d).1 ((DLr_ T d).1 - i).toNat tk) (k := i) (s := tk) (w := o) (by omega) ⟨by omega, ⟨y1, y3⟩, y5⟩).symm
                      · exact fun j a b => (fU33 306 0 j rfl).trans (l3 j a b)
                      · exact fun m => (fU33 238 0 m rfl).trans (m3 m)
      refine j_blx (F := fX11) tb_X11 (nn_ _) bk_X11_assign_e_101 bs_X11_assign_e_101 hz (fun K hK => ?_)
      intro b44 b44b
      refine And.intro (fun c45 => ?_) (fun c45 => ?_)
      · refine hK 275 _ [] T2 ?_
        refine j_blx (F := fX11) tb_X11 (nn_ _) bk_X11_assign_e_275 bs_X11_assign_e_275 hz (fun K hK => ?_)
        refine (show po_X11_assign_e T d T2 (some (vI mn)) from ?_)
        have ei : i = (DLr_ T d).1 := by omega
        have v9 : bw9_ (dr9_ T d) (ar9_ T d) (T 111 0 21) (DLr_ T d).1 ((DLr_ T d).1 - i).toNat tk = 0 := by rw [show ((DLr_ T d).1 - i).toNat = 0 by omega]; rfl
        refine ⟨_, rfl, fr_t (fr_0 _ _) (fr_s hf_101 rfl), Or.inr ⟨by omega, ?_, fun m => ?_⟩⟩
        · rw [show (DLr_ T d).1.toNat = i.toNat by omega]; omega
        · rw [show (DLr_ T d).1.toNat = i.toNat by omega]; exact m2 m
      · refine hK 116 [some (vR 111 0), some (vI d), some (vI mn), some (vI wn), some (vI sm), some (vI tk), some (vI i), some (vI (-1)), some (vI 0)] [] T2 ?_
        refine c_116 _ (-1) 0 T2 (Nat.le_refl _) ?_ ?_ ?_ ?_ ?_
        · exact fr_t (fr_0 _ _) (fr_s hf_101 rfl)
        · omega
        · rfl
        · exact l2
        · exact m2
  have c_21 : ∀ (nn : Nat) (m : Int) (T1 : Zt), ((400 - m).toNat) ≤ nn → (fr_ [(306, []), (111, [107])] T T1) → ((0 ≤ d ∧ d ≤ 999) ∧ 0 ≤ m ∧ m ≤ T 111 0 29 ∧ 0 ≤ T1 111 0 107 ∧ T1 111 0 107 ≤ m) → (T1 111 0 107 = (dl9_ (LDr_ T d) m.toNat).1 ∧ ∀ j, 0 ≤ j → j < T1 111 0 107 → T1 306 0 j = (dl9_ (LDr_ T d) m.toNat).2 j) → J_ zX11_assign T (po_X11_assign_e T d) 0 0 21 [some (vR 111 0), some (vI d), some (vI m), none, none, none, none, none, none] [] T1 := by
    intro nn
    induction nn using Nat.strongRecOn with
    | _ nn ih_21 =>
      intro m T1 hm_21 hf_21 i1 l1
      replace hm_21 := fun (_ : Unit) => hm_21
      refine j_blx (F := fX11) tb_X11 (nn_ _) bk_X11_assign_e_21 bs_X11_assign_e_21 hz (fun K hK => ?_)
      intro b46 b46b
      have e47 : T1 111 0 29 = T 111 0 29 := hf_21 111 0 29 rfl
      rw [e47] at b46 b46b ⊢
      refine And.intro (fun c48 => ?_) (fun c48 => ?_)
      · refine hK 73 _ [] T1 ?_
        refine j_blx (F := fX11) tb_X11 (nn_ _) bk_X11_assign_e_73 bs_X11_assign_e_73 hz (fun K hK => ?_)
        refine hK 76 _ [vI 0, vI 0, vR 111 0] T1 ?_
        refine j_callV (y := yX11_matchRest) (Yc := zX11_matchRest) (rest := []) [vI 0, vI 0] (ct_X11_matchRest_e (T := T1) (by omega)) cl_X11_628 (qd_c (by decide +kernel)) (nn_ _) rfl (rf_of rfl) (Nat.le_of_ble_eq_true rfl) (Nat.le_of_ble_eq_true rfl) (Nat.le_of_ble_eq_true rfl) rfl ?_
        rintro U49 _ ⟨rfl, fU49, ⟨qU49b, qU49m⟩⟩
        show J_ zX11_assign T (po_X11_assign_e T d) 0 0 79 _ [] U49
        have em : m = T 111 0 29 := by omega
        have eL : (dl9_ (LDr_ T d) m.toNat) = (DLr_ T d) := by rw [em]; rfl
        rw [eL] at l1
        have l1b : ∀ j, 0 ≤ j → j < (DLr_ T d).1 → T1 306 0 j = (DLr_ T d).2 j := fun j a b => l1.2 j a (by omega)
        have e50 : T1 111 0 21 = T 111 0 21 := hf_21 111 0 21 rfl
        have hw9 := mb_w (T := T) (L := (DLr_ T d).2) qU49m ⟨by omega, by omega⟩ ⟨by omega, by omega⟩ ⟨by omega, by omega⟩ (fun i o a b c e => hdr i o a (by omega) c (by omega)) (fun i a b => (rfl).trans (l1b i a (by omega))) (fun m o => di_e (fun j => hf_21 222 0 j rfl) (fun j => hf_21 213 0 j rfl) (fun j => hf_21 232 0 j rfl)) (fun m o => ld_e (fun j => hf_21 223 0 j rfl) (fun j => hf_21 214 0 j rfl) (fun j => hf_21 232 0 j rfl) (fun j => hf_21 233 0 j rfl))
        have hv9 : bw9_ (dr9_ T d) (ar9_ T d) (T 111 0 21) (DLr_ T d).1 ((DLr_ T d).1 - 0).toNat 0 = 1000 * U49 111 0 112 - U49 111 0 113 := by
          have y := hw9.1
          rw [show T1 111 0 21 = T 111 0 21 by omega, show T1 111 0 107 = (DLr_ T d).1 by omega] at y
          exact y
        refine j_blx (F := fX11) tb_X11 (nn_ _) bk_X11_assign_e_79 bs_X11_assign_e_79 hz (fun K hK => ?_)
        intro b51 b51b
        intro b52 b52b
        intro b53 b53b
        refine hK 101 [some (vR 111 0), some (vI d), some (vI (U49 111 0 112)), some (vI (U49 111 0 112)), some (vI (U49 111 0 113)), some (vI 0), some (vI 0), none, none] [] U49 ?_
        have e54 : U49 111 0 107 = T1 111 0 107 := fU49 111 0 107 rfl
        refine c_101 _ (U49 111 0 112) (U49 111 0 112) (U49 111 0 113) 0 0 U49 (Nat.le_refl _) ?_ ?_ ?_ ?_ ?_ ?_ ?_
        · exact fr_t (fr_t (fr_0 _ _) (fr_s hf_21 rfl)) (fr_s fU49 rfl)
        · omega
        · rfl
        · exact hv9
        · exact fun j a b => (fU49 306 0 j rfl).trans (l1b j a b)
        · exact fun m => (fU49 238 0 m rfl).trans (hf_21 238 0 m rfl)
        · show _ = _ + (0 : Int)
          omega
      · refine ix_i (by omega) ?_
        intro b55 b55b
        have e56 : T1 234 0 m = T 234 0 m := hf_21 234 0 m rfl
        rw [e56] at b55 b55b ⊢
        refine And.intro (fun c57 => ?_) (fun c57 => ?_)
        · refine hK 67 [some (vR 111 0), some (vI d), some (vI m), none, none, none, none, none, none] [] T1 ?_
          refine j_blx (F := fX11) tb_X11 (nn_ _) bk_X11_assign_e_67 bs_X11_assign_e_67 hz (fun K hK => ?_)
          refine rg_i (by omega) ?_
          refine hK 21 [some (vR 111 0), some (vI d), some (vI (m + 1)), none, none, none, none, none, none] [] T1 ?_
          refine ih_21 _ ?_ (m + 1) T1 (Nat.le_refl _) ?_ ?_ ?_
          · have hm_21 := hm_21 (); omega
          · exact fr_t (fr_0 _ _) (fr_s hf_21 rfl)
          · omega
          have hmw : T1 235 0 m = T 235 0 m := hf_21 235 0 m rfl
          · rw [dl_f (by omega) (by unfold LDr_; omega)]
            exact l1
        · refine hK 41 [some (vR 111 0), some (vI d), some (vI m), none, none, none, none, none, none] [vI m, vR 111 0] T1 ?_
          refine j_callV (y := yX11_isLeft) (Yc := zX11_isLeft) (rest := []) [vI m] (ct_X11_isLeft (T := T1) (by omega)) cl_X11_538 (qd_c (by decide +kernel)) (nn_ _) rfl (rf_of rfl) (Nat.le_of_ble_eq_true rfl) (Nat.le_of_ble_eq_true rfl) (Nat.le_of_ble_eq_true rfl) rfl ?_
          rintro _ _ ⟨rfl, x58, rfl, hx58⟩
          show J_ zX11_assign T (po_X11_assign_e T d) 0 0 44 _ [vI x58] T1
          refine j_blx (F := fX11) tb_X11 (nn_ _) bk_X11_assign_e_44 bs_X11_assign_e_44 hz (fun K hK => ?_)
          refine And.intro (fun c59 => ?_) (fun c59 => ?_)
          · replace hx58 := hx58.resolve_left (fun z => absurd (c59.symm.trans z.1) (by decide))
            clear c59
            refine hK 67 _ [] T1 ?_
            refine j_blx (F := fX11) tb_X11 (nn_ _) bk_X11_assign_e_67 bs_X11_assign_e_67 hz (fun K hK => ?_)
            refine rg_i (by omega) ?_
            refine hK 21 [some (vR 111 0), some (vI d), some (vI (m + 1)), none, none, none, none, none, none] [] T1 ?_
            refine ih_21 _ ?_ (m + 1) T1 (Nat.le_refl _) ?_ ?_ ?_
            · have hm_21 := hm_21 (); omega
            · exact fr_t (fr_0 _ _) (fr_s hf_21 rfl)
            · omega
            have hmw : T1 235 0 m = T 235 0 m := hf_21 235 0 m rfl
            · rw [dl_f (by omega) (by unfold LDr_; omega)]
              exact l1
          · replace hx58 := hx58.resolve_right (fun z => c59 z.1)
            clear c59
            intro b60 b60b
            refine iy_i (by omega) (by omega) ?_
            refine x_nm (fun U61 hU61 => ?_)
            have e62 := up_f hU61
            intro b63 b63b
            have e64 : U61 111 0 107 = T1 111 0 107 := up_k hU61 (by exact Nat.ne_of_beq_eq_false rfl) 0 107
            rw [e64] at b63 b63b ⊢
            refine rg_i (by omega) ?_
            refine bd_i (by omega) ?_
            refine x_nm (fun U65 hU65 => ?_)
            have e66 := up_f hU65
            refine rg_i (by omega) ?_
            refine hK 21 _ [] U65 ?_
            have e67 : U65 111 0 107 = (T1 111 0 107) + 1 := up_f hU65
            refine ih_21 _ ?_ (m + 1) U65 (Nat.le_refl _) ?_ ?_ ?_
            · have hm_21 := hm_21 (); omega
            · exact fr_u (fr_u (fr_t (fr_0 _ _) (fr_s hf_21 rfl)) hU61 rfl) hU65 rfl
            · omega
            have hmw : T1 235 0 m = T 235 0 m := hf_21 235 0 m rfl
            · rw [dl_t (by omega) (show LDr_ T d m by unfold LDr_; omega)]
              refine ⟨by show U65 111 0 107 = (dl9_ (LDr_ T d) m.toNat).1 + 1; omega, fun j a b => ?_⟩
              show U65 306 0 j = fu_ (dl9_ (LDr_ T d) m.toNat).2 (dl9_ (LDr_ T d) m.toNat).1 m j
              by_cases z : j = (dl9_ (LDr_ T d) m.toNat).1
              · rw [z, fu_s, ← l1.1]
                exact (up_k hU65 (by exact Nat.ne_of_beq_eq_false rfl) 0 (T1 111 0 107)).trans (up_f hU61)
              · rw [fu_n z, ← l1.2 j a (by omega)]
                exact (up_k hU65 (by exact Nat.ne_of_beq_eq_false rfl) 0 j).trans (up_g hU61 (fun q => z (by omega)))
  refine j_blx (F := fX11) tb_X11 (nn_ _) bk_X11_assign_e_0 bs_X11_assign_e_0 hz (fun K hK => ?_)
  refine hK 5 _ [vI 999, vI 0, vI d] T ?_
  refine j_callS (y := yX11_in) (Yc := zX11_in) (rest := []) [vI d, vI 0, vI 999] (ct_X11_in (T := T)) cl_X11_255 (qd_c (by decide +kernel)) (nn_ _) rfl (rf_of rfl) (Nat.le_of_ble_eq_true rfl) (Nat.le_of_ble_eq_true rfl) (Nat.le_of_ble_eq_true rfl) rfl ?_
  rintro _ _ ⟨rfl, x68, rfl, hx68⟩
  show J_ zX11_assign T (po_X11_assign_e T d) 0 0 8 _ [vI x68] T
  refine j_blx (F := fX11) tb_X11 (nn_ _) bk_X11_assign_e_8 bs_X11_assign_e_8 hz (fun K hK => ?_)
  refine And.intro (fun c69 => ?_) (fun c69 => ?_)
  · replace hx68 := hx68.resolve_right (fun z => c69 z.1)
    clear c69
    refine hK 14 _ [] T ?_
    refine j_blx (F := fX11) tb_X11 (nn_ _) bk_X11_assign_e_14 bs_X11_assign_e_14 hz (fun K hK => ?_)
    refine bd_i (by omega) ?_
    refine x_nm (fun U70 hU70 => ?_)
    have e71 := up_f hU70
    refine hK 21 [some (vR 111 0), some (vI d), some (vI 0), none, none, none, none, none, none] [] U70 ?_
    have e72 : U70 111 0 107 = 0 := up_f hU70
    refine c_21 _ 0 U70 (Nat.le_refl _) ?_ ?_ ?_
    · exact fr_u (fr_0 _ _) hU70 rfl
    · omega
    · exact ⟨by show _ = (0 : Int); omega, fun j a b => by omega⟩
  · replace hx68 := hx68.resolve_left (fun z => absurd (c69.symm.trans z.1) (by decide))
    clear c69
    refine (show po_X11_assign_e T d T (some (vI (-3))) from ?_)
    exact ⟨_, rfl, fr_0 _ _, Or.inl ⟨rfl, by omega, fun _ => rfl⟩⟩
-- officials of the house: words
/-- how far, and who may -/
def dh8_ (T : Zt) (p w : Int) : Int := if 0 ≤ T 570 0 w - T 560 0 (T 102 p 3) then T 570 0 w - T 560 0 (T 102 p 3) else -(T 570 0 w - T 560 0 (T 102 p 3))
def lh8_ (T : Zt) (p w : Int) : Prop := T 561 0 (T 102 p 3) ≠ T 571 0 w ∧ T 561 0 (T 102 p 4) ≠ T 571 0 w
theorem mx_t {d : Int → Int → Int} {A : Int → Int → Prop} {k s w : Int} {B : Int → Int} (hw : 0 ≤ w) (h : (an_ (sr_ s w) 1 = 0 ∧ A k w) ∧ mx9_ d A k s B w.toNat < 1000 - d k w + B (or_ s (sl_ 1 w))) : mx9_ d A k s B (w + 1).toNat = 1000 - d k w + B (or_ s (sl_ 1 w)) := by
  rw [show (w + 1).toNat = w.toNat + 1 by omega]
  have e : ((w.toNat : Nat) : Int) = w := by omega
  show cz_ ((an_ (sr_ s ((w.toNat : Nat) : Int)) 1 = 0 ∧ A k ((w.toNat : Nat) : Int)) ∧ mx9_ d A k s B w.toNat < 1000 - d k ((w.toNat : Nat) : Int) + B (or_ s (sl_ 1 ((w.toNat : Nat) : Int)))) (1000 - d k ((w.toNat : Nat) : Int) + B (or_ s (sl_ 1 ((w.toNat : Nat) : Int)))) (mx9_ d A k s B w.toNat) = _
  rw [e]
  exact cz_t h
theorem mx_f {d : Int → Int → Int} {A : Int → Int → Prop} {k s w : Int} {B : Int → Int} (hw : 0 ≤ w) (h : ¬ ((an_ (sr_ s w) 1 = 0 ∧ A k w) ∧ mx9_ d A k s B w.toNat < 1000 - d k w + B (or_ s (sl_ 1 w)))) : mx9_ d A k s B (w + 1).toNat = mx9_ d A k s B w.toNat := by
  rw [show (w + 1).toNat = w.toNat + 1 by omega]
  have e : ((w.toNat : Nat) : Int) = w := by omega
  show cz_ ((an_ (sr_ s ((w.toNat : Nat) : Int)) 1 = 0 ∧ A k ((w.toNat : Nat) : Int)) ∧ mx9_ d A k s B w.toNat < 1000 - d k ((w.toNat : Nat) : Int) + B (or_ s (sl_ 1 ((w.toNat : Nat) : Int)))) (1000 - d k ((w.toNat : Nat) : Int) + B (or_ s (sl_ 1 ((w.toNat : Nat) : Int)))) (mx9_ d A k s B w.toNat) = _
  rw [e]
  exact cz_f h
theorem mx_d {d d' : Int → Int → Int} {A A' : Int → Int → Prop} {k k' s : Int} {B B' : Int → Int} (h0 : B s = B' s) : ∀ N : Nat, (∀ w, 0 ≤ w → w < (N : Int) → d k w = d' k' w ∧ (A k w ↔ A' k' w) ∧ B (or_ s (sl_ 1 w)) = B' (or_ s (sl_ 1 w))) → mx9_ d A k s B N = mx9_ d' A' k' s B' N
  | 0, _ => h0
  | N + 1, h => by
    have ih := mx_d h0 N (fun w a b => h w a (by omega))
    have e := h (N : Int) (by omega) (by omega)
    show cz_ ((an_ (sr_ s (N : Int)) 1 = 0 ∧ A k (N : Int)) ∧ mx9_ d A k s B N < 1000 - d k (N : Int) + B (or_ s (sl_ 1 (N : Int)))) (1000 - d k (N : Int) + B (or_ s (sl_ 1 (N : Int)))) (mx9_ d A k s B N) = cz_ ((an_ (sr_ s (N : Int)) 1 = 0 ∧ A' k' (N : Int)) ∧ mx9_ d' A' k' s B' N < 1000 - d' k' (N : Int) + B' (or_ s (sl_ 1 (N : Int)))) (1000 - d' k' (N : Int) + B' (or_ s (sl_ 1 (N : Int)))) (mx9_ d' A' k' s B' N)
    rw [ih, e.1, e.2.2, show A k (N : Int) = A' k' (N : Int) from propext e.2.1]
theorem fb_d {d d' : Int → Int → Int} {A A' : Int → Int → Prop} {k k' s V V' : Int} {B B' : Int → Int} (h0 : V = V') : ∀ N : Nat, (∀ w, 0 ≤ w → w < (N : Int) → d k w = d' k' w ∧ (A k w ↔ A' k' w) ∧ B (or_ s (sl_ 1 w)) = B' (or_ s (sl_ 1 w))) → fb9_ d A B V k s N = fb9_ d' A' B' V' k' s N
  | 0, _ => rfl
  | N + 1, h => by
    have ih := fb_d h0 N (fun w a b => h w a (by omega))
    have e := h (N : Int) (by omega) (by omega)
    show cz_ (fb9_ d A B V k s N = -1 ∧ (an_ (sr_ s (N : Int)) 1 = 0 ∧ A k (N : Int)) ∧ 1000 - d k (N : Int) + B (or_ s (sl_ 1 (N : Int))) = V) (N : Int) (fb9_ d A B V k s N) = cz_ (fb9_ d' A' B' V' k' s N = -1 ∧ (an_ (sr_ s (N : Int)) 1 = 0 ∧ A' k' (N : Int)) ∧ 1000 - d' k' (N : Int) + B' (or_ s (sl_ 1 (N : Int))) = V') (N : Int) (fb9_ d' A' B' V' k' s N)
    rw [ih, e.1, e.2.2, h0, show A k (N : Int) = A' k' (N : Int) from propext e.2.1]
theorem bw_p {d : Int → Int → Int} {A : Int → Int → Prop} {n e : Int} : ∀ (j : Nat) (s : Int), 0 ≤ bw9_ d A n e j s
  | 0, _ => Int.le_refl _
  | j + 1, s => Int.le_trans (bw_p j s) (mx_g (d := d) (A := A) (k := e - ((j + 1 : Nat) : Int)) (s := s) (B := fun t => bw9_ d A n e j t) n.toNat).1
theorem bk_X4_gainOf_e_0 : ck_ fX4 (some .int) cX4_gainOf 0 [.aload 0, .tableswitch 0 4 1 #[], .tableswitch 0 8 11 #[], .iload 2, .iaload, .istore 4, .iload 3, .iload 2, .ishr, .iconst 1, .iand, .ifCond .ne 53, .aload 0, .tableswitch 0 4 1 #[], .tableswitch 0 8 1 #[], .aload 1, .tableswitch 0 2 3 #[], .iaload, .iload 4, .if_icmp .eq 53, .aload 0, .tableswitch 0 4 1 #[], .tableswitch 0 8 1 #[], .aload 1, .tableswitch 0 2 4 #[], .iaload, .iload 4, .if_icmp .ne 55, .iconst (-1), .ireturn] 55 = true := qck_r (nn_ _) (by decide +kernel)
theorem bs_X4_gainOf_e_0 {P : Zt → Option Zv → Prop} (K : Int → Zl → List Zv → Zt → Prop) : sx_ K P [.aload 0, .tableswitch 0 4 1 #[], .tableswitch 0 8 11 #[], .iload 2, .iaload, .istore 4, .iload 3, .iload 2, .ishr, .iconst 1, .iand, .ifCond .ne 53, .aload 0, .tableswitch 0 4 1 #[], .tableswitch 0 8 1 #[], .aload 1, .tableswitch 0 2 3 #[], .iaload, .iload 4, .if_icmp .eq 53, .aload 0, .tableswitch 0 4 1 #[], .tableswitch 0 8 1 #[], .aload 1, .tableswitch 0 2 4 #[], .iaload, .iload 4, .if_icmp .ne 55, .iconst (-1), .ireturn] 55 = x_aload 0 (x_g1 104 108 (x_g1 108 571 (x_iload 2 (x_iaload (x_istore 4 (x_iload 3 (x_iload 2 (x_ishr (x_iconst 1 (x_iand (x_ifCond .ne 53 K (x_aload 0 (x_g1 104 108 (x_g1 108 561 (x_aload 1 (x_g0 102 3 0 11 (x_iaload (x_iload 4 (x_if_icmp .eq 53 K (x_aload 0 (x_g1 104 108 (x_g1 108 561 (x_aload 1 (x_g0 102 4 0 11 (x_iaload (x_iload 4 (x_if_icmp .ne 55 K (x_iconst (-1) (x_ireturn P))))))))))))))))))))))))))))) := ((xe_aload 0).trans (congrArg (x_aload 0) ((xe_g1 (kk := 104) rfl tl_4_1).trans (congrArg (x_g1 104 108) ((xe_g1 (kk := 108) rfl tl_8_11).trans (congrArg (x_g1 108 571) ((xe_iload 2).trans (congrArg (x_iload 2) ((xe_iaload).trans (congrArg (x_iaload) ((xe_istore 4).trans (congrArg (x_istore 4) ((xe_iload 3).trans (congrArg (x_iload 3) ((xe_iload 2).trans (congrArg (x_iload 2) ((xe_ishr).trans (congrArg (x_ishr) ((xe_iconst 1).trans (congrArg (x_iconst 1) ((xe_iand).trans (congrArg (x_iand) ((xe_ifCond .ne 53).trans (congrArg (x_ifCond .ne 53 K) ((xe_aload 0).trans (congrArg (x_aload 0) ((xe_g1 (kk := 104) rfl tl_4_1).trans (congrArg (x_g1 104 108) ((xe_g1 (kk := 108) rfl tl_8_1).trans (congrArg (x_g1 108 561) ((xe_aload 1).trans (congrArg (x_aload 1) ((xe_g0 (kk := 102) rfl tl_2_3).trans (congrArg (x_g0 102 3 0 11) ((xe_iaload).trans (congrArg (x_iaload) ((xe_iload 4).trans (congrArg (x_iload 4) ((xe_if_icmp .eq 53).trans (congrArg (x_if_icmp .eq 53 K) ((xe_aload 0).trans (congrArg (x_aload 0) ((xe_g1 (kk := 104) rfl tl_4_1).trans (congrArg (x_g1 104 108) ((xe_g1 (kk := 108) rfl tl_8_1).trans (congrArg (x_g1 108 561) ((xe_aload 1).trans (congrArg (x_aload 1) ((xe_g0 (kk := 102) rfl tl_2_4).trans (congrArg (x_g0 102 4 0 11) ((xe_iaload).trans (congrArg (x_iaload) ((xe_iload 4).trans (congrArg (x_iload 4) ((xe_if_icmp .ne 55).trans (congrArg (x_if_icmp .ne 55 K) ((xe_iconst (-1)).trans (congrArg (x_iconst (-1)) (xe_ireturn)))))))))))))))))))))))))))))))))))))))))))))))))))))))))))
theorem bk_X4_gainOf_e_53 : ck_ fX4 (some .int) cX4_gainOf 53 [.iconst (-1), .ireturn] 55 = true := qck_r (nn_ _) (by decide +kernel)
theorem bs_X4_gainOf_e_53 {P : Zt → Option Zv → Prop} (K : Int → Zl → List Zv → Zt → Prop) : sx_ K P [.iconst (-1), .ireturn] 55 = x_iconst (-1) (x_ireturn P) := ((xe_iconst (-1)).trans (congrArg (x_iconst (-1)) (xe_ireturn)))
theorem bk_X4_gainOf_e_55 : ck_ fX4 (some .int) cX4_gainOf 55 [.iconst 1000, .aload 0, .tableswitch 0 4 1 #[], .tableswitch 0 8 10 #[], .iload 2, .iaload, .aload 0, .tableswitch 0 4 1 #[], .tableswitch 0 8 0 #[], .aload 1, .tableswitch 0 2 3 #[], .iaload, .isub] 80 = true := qck_r (nn_ _) (by decide +kernel)
theorem bs_X4_gainOf_e_55 {P : Zt → Option Zv → Prop} (K : Int → Zl → List Zv → Zt → Prop) : sx_ K P [.iconst 1000, .aload 0, .tableswitch 0 4 1 #[], .tableswitch 0 8 10 #[], .iload 2, .iaload, .aload 0, .tableswitch 0 4 1 #[], .tableswitch 0 8 0 #[], .aload 1, .tableswitch 0 2 3 #[], .iaload, .isub] 80 = x_iconst 1000 (x_aload 0 (x_g1 104 108 (x_g1 108 570 (x_iload 2 (x_iaload (x_aload 0 (x_g1 104 108 (x_g1 108 560 (x_aload 1 (x_g0 102 3 0 11 (x_iaload (x_isub (K 80))))))))))))) := ((xe_iconst 1000).trans (congrArg (x_iconst 1000) ((xe_aload 0).trans (congrArg (x_aload 0) ((xe_g1 (kk := 104) rfl tl_4_1).trans (congrArg (x_g1 104 108) ((xe_g1 (kk := 108) rfl tl_8_10).trans (congrArg (x_g1 108 570) ((xe_iload 2).trans (congrArg (x_iload 2) ((xe_iaload).trans (congrArg (x_iaload) ((xe_aload 0).trans (congrArg (x_aload 0) ((xe_g1 (kk := 104) rfl tl_4_1).trans (congrArg (x_g1 104 108) ((xe_g1 (kk := 108) rfl tl_8_0).trans (congrArg (x_g1 108 560) ((xe_aload 1).trans (congrArg (x_aload 1) ((xe_g0 (kk := 102) rfl tl_2_3).trans (congrArg (x_g0 102 3 0 11) ((xe_iaload).trans (congrArg (x_iaload) ((xe_isub).trans (congrArg (x_isub) xe_nil))))))))))))))))))))))))))
theorem bk_X4_gainOf_e_83 : ck_ fX4 (some .int) cX4_gainOf 83 [.isub, .ireturn] 85 = true := qck_r (nn_ _) (by decide +kernel)
theorem bs_X4_gainOf_e_83 {P : Zt → Option Zv → Prop} (K : Int → Zl → List Zv → Zt → Prop) : sx_ K P [.isub, .ireturn] 85 = x_isub (x_ireturn P) := ((xe_isub).trans (congrArg (x_isub) (xe_ireturn)))
abbrev po_X4_gainOf_e (T : Zt) (p : Int) (w a : Int) : Zt → Option Zv → Prop := fun T' r => T = T' ∧ ∃ x : Int, r = some (vI x) ∧ ((x = -1 ∧ ¬ (an_ (sr_ a w) 1 = 0 ∧ lh8_ T p w)) ∨ (x = 1000 - dh8_ T p w ∧ (an_ (sr_ a w) 1 = 0 ∧ lh8_ T p w) ∧ (0 ≤ dh8_ T p w ∧ dh8_ T p w ≤ 11)))
set_option maxHeartbeats 4000000 in
theorem ct_X4_gainOf_e {T : Zt} {p : Int} {w a : Int} (hw : 0 ≤ w ∧ w ≤ 7) : Ct_ yX4_gainOf zX4_gainOf T [vR 104 0, vR 102 p, vI w, vI a] (po_X4_gainOf_e T p w a) := by
  refine ct_of pn_4 rfl rfl (Nat.le_of_ble_eq_true rfl) (fun hT hav => ?_)
  have hr_w : -2147483648 ≤ w ∧ w ≤ 2147483647 := hav (vI w) (List.mem_cons_of_mem _ (List.mem_cons_of_mem _ List.mem_cons_self))
  have hr_a : -2147483648 ≤ a ∧ a ≤ 2147483647 := hav (vI a) (List.mem_cons_of_mem _ (List.mem_cons_of_mem _ (List.mem_cons_of_mem _ List.mem_cons_self)))
  have hz : zX4_gainOf.2.2.2.1 = some .boolean → ∀ (T' : Zt) (x : Int), po_X4_gainOf_e T p w a T' (some (vI x)) → 0 ≤ x ∧ x ≤ 1 := fun h => by cases h
  show J_ zX4_gainOf T (po_X4_gainOf_e T p w a) 0 0 0 [some (vR 104 0), some (vR 102 p), some (vI w), some (vI a), none] [] T
  refine j_blx (F := fX4) tb_X4 (nn_ _) bk_X4_gainOf_e_0 bs_X4_gainOf_e_0 hz (fun K hK => ?_)
  refine ix_i (by omega) ?_
  intro b1 b1b
  intro w2 w2b
  intro w3 w3b
  refine And.intro (fun c4 => ?_) (fun c4 => ?_)
  · refine hK 53 [some (vR 104 0), some (vR 102 p), some (vI w), some (vI a), some (vI (T 571 0 w))] [] T ?_
    refine j_blx (F := fX4) tb_X4 (nn_ _) bk_X4_gainOf_e_53 bs_X4_gainOf_e_53 hz (fun K hK => ?_)
    refine (show po_X4_gainOf_e T p w a T (some (vI (-1))) from ?_)
    exact ⟨rfl, _, rfl, Or.inl ⟨rfl, by unfold lh8_; omega⟩⟩
  · intro b5 b5b
    refine ix_i (by omega) ?_
    intro b6 b6b
    refine And.intro (fun c7 => ?_) (fun c7 => ?_)
    · refine hK 53 _ [] T ?_
      refine j_blx (F := fX4) tb_X4 (nn_ _) bk_X4_gainOf_e_53 bs_X4_gainOf_e_53 hz (fun K hK => ?_)
      refine (show po_X4_gainOf_e T p w a T (some (vI (-1))) from ?_)
      exact ⟨rfl, _, rfl, Or.inl ⟨rfl, by unfold lh8_; omega⟩⟩
    · intro b8 b8b
      refine ix_i (by omega) ?_
      intro b9 b9b
      refine And.intro (fun c10 => ?_) (fun c10 => ?_)
      · refine hK 55 _ [] T ?_
        refine j_blx (F := fX4) tb_X4 (nn_ _) bk_X4_gainOf_e_55 bs_X4_gainOf_e_55 hz (fun K hK => ?_)
        refine ix_i (by omega) ?_
        intro b11 b11b
        intro b12 b12b
        refine ix_i (by omega) ?_
        intro b13 b13b
        refine rg_i (by omega) ?_
        refine hK 80 _ [vI ((T 570 0 w) - (T 560 0 (T 102 p 3))), vI 1000] T ?_
        obtain ⟨x14, e15, hx14⟩ : ∃ x14 : Int, (if 0 ≤ ((T 570 0 w) - (T 560 0 (T 102 p 3))) then ((T 570 0 w) - (T 560 0 (T 102 p 3))) else -((T 570 0 w) - (T 560 0 (T 102 p 3)))) = x14 ∧ (0 ≤ x14 ∧ (x14 = (T 570 0 w) - (T 560 0 (T 102 p 3)) ∨ x14 = -((T 570 0 w) - (T 560 0 (T 102 p 3))))) := ⟨_, rfl, by split <;> omega⟩
        refine j_ab (pc := 80) (by omega) (lwq_6 (dqc_m (dqc_m (dqc_m (dqc_m (dqc_m (dqc_m (dqa_m (List.mem_of_getElem? (i := 7) rfl)))))))) rfl : Cond.methodLink RX4 98 Lib.Math.abs.name ∈ lw_g) (lwq_4 (dqc_m (dqc_m (dqa_m (dqa_m (dqa_m (List.mem_of_getElem? (i := 6) rfl)))))) rfl : Cond.static Lib.Math.abs.name ∈ lw_g) (lwq_1 (dqa_m (dqa_m (List.mem_of_getElem? (i := 1) rfl))) rfl : Cond.initialized "java/lang/Math" ∈ lw_g) (lwq_4 (dqc_m (dqc_m (dqa_m (dqa_m (dqa_m (List.mem_of_getElem? (i := 7) rfl)))))) rfl : Cond.code Lib.Math.abs.name Lib.Math.abs.code 1 (some .int) ∈ lw_g) (by decide +kernel) (by decide) (by decide) (by decide) (Nat.le_of_ble_eq_true rfl) ?_
        rw [e15]
        clear e15
        show J_ zX4_gainOf T (po_X4_gainOf_e T p w a) 0 0 83 _ [vI x14, vI 1000] T
        refine j_blx (F := fX4) tb_X4 (nn_ _) bk_X4_gainOf_e_83 bs_X4_gainOf_e_83 hz (fun K hK => ?_)
        refine rg_i (by omega) ?_
        refine (show po_X4_gainOf_e T p w a T (some (vI (1000 - x14))) from ?_)
        have d9 : dh8_ T p w = x14 := by
          unfold dh8_
          split <;> omega
        exact ⟨rfl, _, rfl, Or.inr ⟨by rw [d9], by unfold lh8_; omega, by omega⟩⟩
      · refine (show po_X4_gainOf_e T p w a T (some (vI (-1))) from ?_)
        exact ⟨rfl, _, rfl, Or.inl ⟨rfl, by unfold lh8_; omega⟩⟩
theorem bk_X4_weigh_e_22 : ck_ fX4 (some .int) cX4_weigh 22 [.iload 7, .aload 0, .tableswitch 0 4 1 #[], .tableswitch 0 8 12 #[], .if_icmp .ge 80, .aload 0, .aload 1, .iload 7, .iload 3] 39 = true := qck_r (nn_ _) (by decide +kernel)
theorem bs_X4_weigh_e_22 {P : Zt → Option Zv → Prop} (K : Int → Zl → List Zv → Zt → Prop) : sx_ K P [.iload 7, .aload 0, .tableswitch 0 4 1 #[], .tableswitch 0 8 12 #[], .if_icmp .ge 80, .aload 0, .aload 1, .iload 7, .iload 3] 39 = x_iload 7 (x_aload 0 (x_g1 104 108 (x_g0 108 12 0 8 (x_if_icmp .ge 80 K (x_aload 0 (x_aload 1 (x_iload 7 (x_iload 3 (K 39))))))))) := ((xe_iload 7).trans (congrArg (x_iload 7) ((xe_aload 0).trans (congrArg (x_aload 0) ((xe_g1 (kk := 104) rfl tl_4_1).trans (congrArg (x_g1 104 108) ((xe_g0 (kk := 108) rfl tl_8_12).trans (congrArg (x_g0 108 12 0 8) ((xe_if_icmp .ge 80).trans (congrArg (x_if_icmp .ge 80 K) ((xe_aload 0).trans (congrArg (x_aload 0) ((xe_aload 1).trans (congrArg (x_aload 1) ((xe_iload 7).trans (congrArg (x_iload 7) ((xe_iload 3).trans (congrArg (x_iload 3) xe_nil))))))))))))))))))
theorem bk_X4_weigh_e_80 : ck_ fX4 (some .int) cX4_weigh 80 [.iload 6, .ireturn] 83 = true := qck_r (nn_ _) (by decide +kernel)
theorem bs_X4_weigh_e_80 {P : Zt → Option Zv → Prop} (K : Int → Zl → List Zv → Zt → Prop) : sx_ K P [.iload 6, .ireturn] 83 = x_iload 6 (x_ireturn P) := ((xe_iload 6).trans (congrArg (x_iload 6) (xe_ireturn)))
theorem bk_X4_weigh_e_42 : ck_ fX4 (some .int) cX4_weigh 42 [.istore 8, .iload 8, .iconst (-1), .if_icmp .eq 74, .iload 6, .iload 8, .aload 0, .tableswitch 0 4 4 #[], .iload 5, .iload 3, .iconst 1, .iload 7, .ishl, .ior, .iadd, .iaload, .iadd] 69 = true := qck_r (nn_ _) (by decide +kernel)
theorem bs_X4_weigh_e_42 {P : Zt → Option Zv → Prop} (K : Int → Zl → List Zv → Zt → Prop) : sx_ K P [.istore 8, .iload 8, .iconst (-1), .if_icmp .eq 74, .iload 6, .iload 8, .aload 0, .tableswitch 0 4 4 #[], .iload 5, .iload 3, .iconst 1, .iload 7, .ishl, .ior, .iadd, .iaload, .iadd] 69 = x_istore 8 (x_iload 8 (x_iconst (-1) (x_if_icmp .eq 74 K (x_iload 6 (x_iload 8 (x_aload 0 (x_g3 104 190 4 (x_iload 5 (x_iload 3 (x_iconst 1 (x_iload 7 (x_ishl (x_ior (x_iadd (x_iaload (x_iadd (K 69))))))))))))))))) := ((xe_istore 8).trans (congrArg (x_istore 8) ((xe_iload 8).trans (congrArg (x_iload 8) ((xe_iconst (-1)).trans (congrArg (x_iconst (-1)) ((xe_if_icmp .eq 74).trans (congrArg (x_if_icmp .eq 74 K) ((xe_iload 6).trans (congrArg (x_iload 6) ((xe_iload 8).trans (congrArg (x_iload 8) ((xe_aload 0).trans (congrArg (x_aload 0) ((xe_g3 (kk := 104) rfl tl_4_4).trans (congrArg (x_g3 104 190 4) ((xe_iload 5).trans (congrArg (x_iload 5) ((xe_iload 3).trans (congrArg (x_iload 3) ((xe_iconst 1).trans (congrArg (x_iconst 1) ((xe_iload 7).trans (congrArg (x_iload 7) ((xe_ishl).trans (congrArg (x_ishl) ((xe_ior).trans (congrArg (x_ior) ((xe_iadd).trans (congrArg (x_iadd) ((xe_iaload).trans (congrArg (x_iaload) ((xe_iadd).trans (congrArg (x_iadd) xe_nil))))))))))))))))))))))))))))))))))
theorem bk_X4_weigh_e_74 : ck_ fX4 (some .int) cX4_weigh 74 [.iinc 7 1, .goto 22] 80 = true := qck_r (nn_ _) (by decide +kernel)
theorem bs_X4_weigh_e_74 {P : Zt → Option Zv → Prop} (K : Int → Zl → List Zv → Zt → Prop) : sx_ K P [.iinc 7 1, .goto 22] 80 = x_iinc 7 1 (x_goto 22 K) := ((xe_iinc 7 1).trans (congrArg (x_iinc 7 1) (xe_goto 22)))
theorem bk_X4_weigh_e_72 : ck_ fX4 (some .int) cX4_weigh 72 [.istore 6, .iinc 7 1, .goto 22] 80 = true := qck_r (nn_ _) (by decide +kernel)
theorem bs_X4_weigh_e_72 {P : Zt → Option Zv → Prop} (K : Int → Zl → List Zv → Zt → Prop) : sx_ K P [.istore 6, .iinc 7 1, .goto 22] 80 = x_istore 6 (x_iinc 7 1 (x_goto 22 K)) := ((xe_istore 6).trans (congrArg (x_istore 6) ((xe_iinc 7 1).trans (congrArg (x_iinc 7 1) (xe_goto 22)))))
theorem bk_X4_weigh_e_0 : ck_ fX4 (some .int) cX4_weigh 0 [.iload 2, .iconst 1, .iadd, .iload 4, .imul, .istore 5, .aload 0, .tableswitch 0 4 4 #[], .iload 5, .iload 3, .iadd, .iaload, .istore 6, .iconst 0, .istore 7] 22 = true := qck_r (nn_ _) (by decide +kernel)
theorem bs_X4_weigh_e_0 {P : Zt → Option Zv → Prop} (K : Int → Zl → List Zv → Zt → Prop) : sx_ K P [.iload 2, .iconst 1, .iadd, .iload 4, .imul, .istore 5, .aload 0, .tableswitch 0 4 4 #[], .iload 5, .iload 3, .iadd, .iaload, .istore 6, .iconst 0, .istore 7] 22 = x_iload 2 (x_iconst 1 (x_iadd (x_iload 4 (x_imul (x_istore 5 (x_aload 0 (x_g3 104 190 4 (x_iload 5 (x_iload 3 (x_iadd (x_iaload (x_istore 6 (x_iconst 0 (x_istore 7 (K 22))))))))))))))) := ((xe_iload 2).trans (congrArg (x_iload 2) ((xe_iconst 1).trans (congrArg (x_iconst 1) ((xe_iadd).trans (congrArg (x_iadd) ((xe_iload 4).trans (congrArg (x_iload 4) ((xe_imul).trans (congrArg (x_imul) ((xe_istore 5).trans (congrArg (x_istore 5) ((xe_aload 0).trans (congrArg (x_aload 0) ((xe_g3 (kk := 104) rfl tl_4_4).trans (congrArg (x_g3 104 190 4) ((xe_iload 5).trans (congrArg (x_iload 5) ((xe_iload 3).trans (congrArg (x_iload 3) ((xe_iadd).trans (congrArg (x_iadd) ((xe_iaload).trans (congrArg (x_iaload) ((xe_istore 6).trans (congrArg (x_istore 6) ((xe_iconst 0).trans (congrArg (x_iconst 0) ((xe_istore 7).trans (congrArg (x_istore 7) xe_nil))))))))))))))))))))))))))))))
abbrev po_X4_weigh_e (T : Zt) (p : Int) (k a e : Int) : Zt → Option Zv → Prop := fun T' r => T = T' ∧ ∃ x : Int, r = some (vI x) ∧ (x = mx9_ (fun _ o => dh8_ T p o) (fun _ o => lh8_ T p o) k a (fun t => T 190 (T 104 0 4) ((k + 1) * e + t)) (T 108 0 12).toNat)
set_option maxHeartbeats 4000000 in
theorem ct_X4_weigh_e {T : Zt} {p : Int} {k a e : Int} (hk : 0 ≤ k ∧ k < 48) (ha : 0 ≤ a ∧ a < e) (hO : OS_ (T 108 0 12) e) (hL : (k + 2) * e ≤ T 190 (T 104 0 4) (-2)) (hB : ∀ t, 0 ≤ t → t < e → 0 ≤ T 190 (T 104 0 4) ((k + 1) * e + t) ∧ T 190 (T 104 0 4) ((k + 1) * e + t) ≤ 1000000) : Ct_ yX4_weigh zX4_weigh T [vR 104 0, vR 102 p, vI k, vI a, vI e] (po_X4_weigh_e T p k a e) := by
  refine ct_of pn_4 rfl rfl (Nat.le_of_ble_eq_true rfl) (fun hT hav => ?_)
  have hr_k : -2147483648 ≤ k ∧ k ≤ 2147483647 := hav (vI k) (List.mem_cons_of_mem _ (List.mem_cons_of_mem _ List.mem_cons_self))
  have hr_a : -2147483648 ≤ a ∧ a ≤ 2147483647 := hav (vI a) (List.mem_cons_of_mem _ (List.mem_cons_of_mem _ (List.mem_cons_of_mem _ List.mem_cons_self)))
  have hr_e : -2147483648 ≤ e ∧ e ≤ 2147483647 := hav (vI e) (List.mem_cons_of_mem _ (List.mem_cons_of_mem _ (List.mem_cons_of_mem _ (List.mem_cons_of_mem _ List.mem_cons_self))))
  have hz : zX4_weigh.2.2.2.1 = some .boolean → ∀ (T' : Zt) (x : Int), po_X4_weigh_e T p k a e T' (some (vI x)) → 0 ≤ x ∧ x ≤ 1 := fun h => by cases h
  have hb_officials : 0 ≤ T 108 0 12 ∧ T 108 0 12 ≤ 8 := bd_f hT 108 12 tl_8_12 0
  have hE := hO.1
  have hm := mlb (a := k + 2) (b := e) (A := 50) (B := 256) (by omega) (by omega)
  have x1 := k1e k e
  have x2 := k2e k e
  have hm0 := mlb (a := k) (b := e) (A := 48) (B := 256) (by omega) (by omega)
  show J_ zX4_weigh T (po_X4_weigh_e T p k a e) 0 0 0 [some (vR 104 0), some (vR 102 p), some (vI k), some (vI a), some (vI e), none, none, none, none] [] T
  have c_22 : ∀ (nn : Nat) (v : Int) (j : Int), ((T 108 0 12 - j).toNat) ≤ nn → (0 ≤ j ∧ j ≤ T 108 0 12 ∧ -2147483648 ≤ v ∧ v ≤ 2147483647) → (v = mx9_ (fun _ o => dh8_ T p o) (fun _ o => lh8_ T p o) k a (fun t => T 190 (T 104 0 4) ((k + 1) * e + t)) j.toNat) → J_ zX4_weigh T (po_X4_weigh_e T p k a e) 0 0 22 [some (vR 104 0), some (vR 102 p), some (vI k), some (vI a), some (vI e), some (vI ((k + 1) * e)), some (vI v), some (vI j), none] [] T := by
    intro nn
    induction nn using Nat.strongRecOn with
    | _ nn ih_22 =>
      intro v j hm_22 i1 w1
      replace hm_22 := fun (_ : Unit) => hm_22
      refine j_blx (F := fX4) tb_X4 (nn_ _) bk_X4_weigh_e_22 bs_X4_weigh_e_22 hz (fun K hK => ?_)
      intro b1 b1b
      refine And.intro (fun c2 => ?_) (fun c2 => ?_)
      · refine hK 80 _ [] T ?_
        refine j_blx (F := fX4) tb_X4 (nn_ _) bk_X4_weigh_e_80 bs_X4_weigh_e_80 hz (fun K hK => ?_)
        refine (show po_X4_weigh_e T p k a e T (some (vI v)) from ?_)
        exact ⟨rfl, _, rfl, by rw [show T 108 0 12 = j by omega]; exact w1⟩
      · refine hK 39 _ [vI a, vI j, vR 102 p, vR 104 0] T ?_
        refine j_callV (y := yX4_gainOf) (Yc := zX4_gainOf) (rest := []) [vR 102 p, vI j, vI a] (ct_X4_gainOf_e (T := T) (by omega)) cl_X4_70 (qd_c (by decide +kernel)) (nn_ _) rfl (rf_of rfl) (Nat.le_of_ble_eq_true rfl) (Nat.le_of_ble_eq_true rfl) (Nat.le_of_ble_eq_true rfl) rfl ?_
        rintro _ _ ⟨rfl, x3, rfl, hx3⟩
        show J_ zX4_weigh T (po_X4_weigh_e T p k a e) 0 0 42 _ [vI x3] T
        have hgg := hx3
        refine j_blx (F := fX4) tb_X4 (nn_ _) bk_X4_weigh_e_42 bs_X4_weigh_e_42 hz (fun K hK => ?_)
        refine And.intro (fun c4 => ?_) (fun c4 => ?_)
        · refine hK 74 [some (vR 104 0), some (vR 102 p), some (vI k), some (vI a), some (vI e), some (vI ((k + 1) * e)), some (vI v), some (vI j), some (vI x3)] [] T ?_
          refine j_blx (F := fX4) tb_X4 (nn_ _) bk_X4_weigh_e_74 bs_X4_weigh_e_74 hz (fun K hK => ?_)
          refine rg_i (by omega) ?_
          refine hK 22 [some (vR 104 0), some (vR 102 p), some (vI k), some (vI a), some (vI e), some (vI ((k + 1) * e)), some (vI v), some (vI (j + 1)), some (vI x3)] [] T ?_
          refine j_drq [some (vR 104 0), some (vR 102 p), some (vI k), some (vI a), some (vI e), some (vI ((k + 1) * e)), some (vI v), some (vI (j + 1)), none] (drq_s (drq_s (drq_s (drq_s (drq_s (drq_s (drq_s (drq_s (drq_n drq_0))))))))) ?_
          refine ih_22 _ ?_ v (j + 1) (Nat.le_refl _) ?_ ?_
          · have hm_22 := hm_22 (); omega
          · omega
          · have g9 := hgg.resolve_right (fun z => by omega)
            rw [mx_f (d := (fun _ o => dh8_ T p o)) (A := (fun _ o => lh8_ T p o)) (k := k) (s := a) (B := (fun t => T 190 (T 104 0 4) ((k + 1) * e + t))) (w := j) (by omega) (fun q => g9.2 q.1)]
            exact w1
        · intro w6 w6b
          intro w7 w7b
          have o9 := hO.2 a j (by omega) (by omega) (by omega) (by omega)
          have b9 := hB _ o9.1 o9.2
          refine rg_i (by omega) ?_
          refine ix_i (by omega) ?_
          intro b8 b8b
          refine rg_i (by omega) ?_
          refine hK 69 [some (vR 104 0), some (vR 102 p), some (vI k), some (vI a), some (vI e), some (vI ((k + 1) * e)), some (vI v), some (vI j), some (vI x3)] [vI (x3 + (T 190 (T 104 0 4) (((k + 1) * e) + (or_ a (sl_ 1 j))))), vI v] T ?_
          obtain ⟨x9, e10, hx9⟩ : ∃ x9 : Int, (if v < (x3 + (T 190 (T 104 0 4) (((k + 1) * e) + (or_ a (sl_ 1 j))))) then (x3 + (T 190 (T 104 0 4) (((k + 1) * e) + (or_ a (sl_ 1 j))))) else v) = x9 ∧ ((x9 = v ∨ x9 = x3 + (T 190 (T 104 0 4) (((k + 1) * e) + (or_ a (sl_ 1 j))))) ∧ v ≤ x9 ∧ x3 + (T 190 (T 104 0 4) (((k + 1) * e) + (or_ a (sl_ 1 j)))) ≤ x9) := ⟨_, rfl, by split <;> omega⟩
          refine j_mx (pc := 69) (lwq_6 (dqc_m (dqc_m (dqc_m (dqc_m (dqc_m (dqc_m (dqa_m (dqa_m (List.mem_of_getElem? (i := 0) rfl))))))))) rfl : Cond.methodLink RX4 74 Lib.Math.max.name ∈ lw_g) (lwq_4 (dqc_m (dqc_m (dqc_m (List.mem_of_getElem? (i := 5) rfl)))) rfl : Cond.static Lib.Math.max.name ∈ lw_g) (lwq_1 (dqa_m (dqa_m (List.mem_of_getElem? (i := 1) rfl))) rfl : Cond.initialized "java/lang/Math" ∈ lw_g) (lwq_4 (dqc_m (dqc_m (dqc_m (List.mem_of_getElem? (i := 6) rfl)))) rfl : Cond.code Lib.Math.max.name Lib.Math.max.code 2 (some .int) ∈ lw_g) (by decide +kernel) (by decide) (by decide) (by decide) (Nat.le_of_ble_eq_true rfl) ?_
          rw [e10]
          clear e10
          show J_ zX4_weigh T (po_X4_weigh_e T p k a e) 0 0 72 _ [vI x9] T
          refine j_blx (F := fX4) tb_X4 (nn_ _) bk_X4_weigh_e_72 bs_X4_weigh_e_72 hz (fun K hK => ?_)
          refine rg_i (by omega) ?_
          refine hK 22 [some (vR 104 0), some (vR 102 p), some (vI k), some (vI a), some (vI e), some (vI ((k + 1) * e)), some (vI x9), some (vI (j + 1)), some (vI x3)] [] T ?_
          refine j_drq [some (vR 104 0), some (vR 102 p), some (vI k), some (vI a), some (vI e), some (vI ((k + 1) * e)), some (vI x9), some (vI (j + 1)), none] (drq_s (drq_s (drq_s (drq_s (drq_s (drq_s (drq_s (drq_s (drq_n drq_0))))))))) ?_
          refine ih_22 _ ?_ x9 (j + 1) (Nat.le_refl _) ?_ ?_
          · have hm_22 := hm_22 (); omega
          · omega
          · have g9 := hgg.resolve_left (fun z => by omega)
            by_cases z : v < 1000 - dh8_ T p j + T 190 (T 104 0 4) ((k + 1) * e + or_ a (sl_ 1 j))
            · rw [mx_t (d := (fun _ o => dh8_ T p o)) (A := (fun _ o => lh8_ T p o)) (k := k) (s := a) (B := (fun t => T 190 (T 104 0 4) ((k + 1) * e + t))) (w := j) (by omega) ⟨g9.2.1, by rw [← w1]; exact z⟩]
              show _ = 1000 - dh8_ T p j + T 190 (T 104 0 4) ((k + 1) * e + or_ a (sl_ 1 j))
              omega
            · rw [mx_f (d := (fun _ o => dh8_ T p o)) (A := (fun _ o => lh8_ T p o)) (k := k) (s := a) (B := (fun t => T 190 (T 104 0 4) ((k + 1) * e + t))) (w := j) (by omega) (fun q => z (by rw [w1]; exact q.2)), ← w1]
              omega
  refine j_blx (F := fX4) tb_X4 (nn_ _) bk_X4_weigh_e_0 bs_X4_weigh_e_0 hz (fun K hK => ?_)
  refine rg_i (by omega) ?_
  refine rg_i (by omega) ?_
  refine rg_i (by omega) ?_
  refine ix_i (by omega) ?_
  intro b12 b12b
  refine hK 22 [some (vR 104 0), some (vR 102 p), some (vI k), some (vI a), some (vI e), some (vI ((k + 1) * e)), some (vI (T 190 (T 104 0 4) (((k + 1) * e) + a))), some (vI 0), none] [] T ?_
  refine c_22 _ (T 190 (T 104 0 4) (((k + 1) * e) + a)) 0 (Nat.le_refl _) ?_ ?_
  · omega
  · rfl
theorem bk_X4_firstBest_e_11 : ck_ fX4 (some .int) cX4_firstBest 11 [.iload 6, .aload 0, .tableswitch 0 4 1 #[], .tableswitch 0 8 12 #[], .if_icmp .ge 79, .aload 0, .aload 1, .iload 6, .iload 3] 28 = true := qck_r (nn_ _) (by decide +kernel)
theorem bs_X4_firstBest_e_11 {P : Zt → Option Zv → Prop} (K : Int → Zl → List Zv → Zt → Prop) : sx_ K P [.iload 6, .aload 0, .tableswitch 0 4 1 #[], .tableswitch 0 8 12 #[], .if_icmp .ge 79, .aload 0, .aload 1, .iload 6, .iload 3] 28 = x_iload 6 (x_aload 0 (x_g1 104 108 (x_g0 108 12 0 8 (x_if_icmp .ge 79 K (x_aload 0 (x_aload 1 (x_iload 6 (x_iload 3 (K 28))))))))) := ((xe_iload 6).trans (congrArg (x_iload 6) ((xe_aload 0).trans (congrArg (x_aload 0) ((xe_g1 (kk := 104) rfl tl_4_1).trans (congrArg (x_g1 104 108) ((xe_g0 (kk := 108) rfl tl_8_12).trans (congrArg (x_g0 108 12 0 8) ((xe_if_icmp .ge 79).trans (congrArg (x_if_icmp .ge 79 K) ((xe_aload 0).trans (congrArg (x_aload 0) ((xe_aload 1).trans (congrArg (x_aload 1) ((xe_iload 6).trans (congrArg (x_iload 6) ((xe_iload 3).trans (congrArg (x_iload 3) xe_nil))))))))))))))))))
theorem bk_X4_firstBest_e_79 : ck_ fX4 (some .int) cX4_firstBest 79 [.iconst (-1), .ireturn] 81 = true := qck_r (nn_ _) (by decide +kernel)
theorem bs_X4_firstBest_e_79 {P : Zt → Option Zv → Prop} (K : Int → Zl → List Zv → Zt → Prop) : sx_ K P [.iconst (-1), .ireturn] 81 = x_iconst (-1) (x_ireturn P) := ((xe_iconst (-1)).trans (congrArg (x_iconst (-1)) (xe_ireturn)))
theorem bk_X4_firstBest_e_31 : ck_ fX4 (some .int) cX4_firstBest 31 [.istore 7, .iload 7, .iconst (-1), .if_icmp .eq 73, .iload 7, .aload 0, .tableswitch 0 4 4 #[], .iload 5, .iload 3, .iconst 1, .iload 6, .ishl, .ior, .iadd, .iaload, .iadd, .aload 0, .tableswitch 0 4 4 #[], .iload 2, .iload 4, .imul, .iload 3, .iadd, .iaload, .if_icmp .ne 73, .iload 6, .ireturn] 73 = true := qck_r (nn_ _) (by decide +kernel)
theorem bs_X4_firstBest_e_31 {P : Zt → Option Zv → Prop} (K : Int → Zl → List Zv → Zt → Prop) : sx_ K P [.istore 7, .iload 7, .iconst (-1), .if_icmp .eq 73, .iload 7, .aload 0, .tableswitch 0 4 4 #[], .iload 5, .iload 3, .iconst 1, .iload 6, .ishl, .ior, .iadd, .iaload, .iadd, .aload 0, .tableswitch 0 4 4 #[], .iload 2, .iload 4, .imul, .iload 3, .iadd, .iaload, .if_icmp .ne 73, .iload 6, .ireturn] 73 = x_istore 7 (x_iload 7 (x_iconst (-1) (x_if_icmp .eq 73 K (x_iload 7 (x_aload 0 (x_g3 104 190 4 (x_iload 5 (x_iload 3 (x_iconst 1 (x_iload 6 (x_ishl (x_ior (x_iadd (x_iaload (x_iadd (x_aload 0 (x_g3 104 190 4 (x_iload 2 (x_iload 4 (x_imul (x_iload 3 (x_iadd (x_iaload (x_if_icmp .ne 73 K (x_iload 6 (x_ireturn P)))))))))))))))))))))))))) := ((xe_istore 7).trans (congrArg (x_istore 7) ((xe_iload 7).trans (congrArg (x_iload 7) ((xe_iconst (-1)).trans (congrArg (x_iconst (-1)) ((xe_if_icmp .eq 73).trans (congrArg (x_if_icmp .eq 73 K) ((xe_iload 7).trans (congrArg (x_iload 7) ((xe_aload 0).trans (congrArg (x_aload 0) ((xe_g3 (kk := 104) rfl tl_4_4).trans (congrArg (x_g3 104 190 4) ((xe_iload 5).trans (congrArg (x_iload 5) ((xe_iload 3).trans (congrArg (x_iload 3) ((xe_iconst 1).trans (congrArg (x_iconst 1) ((xe_iload 6).trans (congrArg (x_iload 6) ((xe_ishl).trans (congrArg (x_ishl) ((xe_ior).trans (congrArg (x_ior) ((xe_iadd).trans (congrArg (x_iadd) ((xe_iaload).trans (congrArg (x_iaload) ((xe_iadd).trans (congrArg (x_iadd) ((xe_aload 0).trans (congrArg (x_aload 0) ((xe_g3 (kk := 104) rfl tl_4_4).trans (congrArg (x_g3 104 190 4) ((xe_iload 2).trans (congrArg (x_iload 2) ((xe_iload 4).trans (congrArg (x_iload 4) ((xe_imul).trans (congrArg (x_imul) ((xe_iload 3).trans (congrArg (x_iload 3) ((xe_iadd).trans (congrArg (x_iadd) ((xe_iaload).trans (congrArg (x_iaload) ((xe_if_icmp .ne 73).trans (congrArg (x_if_icmp .ne 73 K) ((xe_iload 6).trans (congrArg (x_iload 6) (xe_ireturn)))))))))))))))))))))))))))))))))))))))))))))))))))))
theorem bk_X4_firstBest_e_73 : ck_ fX4 (some .int) cX4_firstBest 73 [.iinc 6 1, .goto 11] 79 = true := qck_r (nn_ _) (by decide +kernel)
theorem bs_X4_firstBest_e_73 {P : Zt → Option Zv → Prop} (K : Int → Zl → List Zv → Zt → Prop) : sx_ K P [.iinc 6 1, .goto 11] 79 = x_iinc 6 1 (x_goto 11 K) := ((xe_iinc 6 1).trans (congrArg (x_iinc 6 1) (xe_goto 11)))
theorem bk_X4_firstBest_e_0 : ck_ fX4 (some .int) cX4_firstBest 0 [.iload 2, .iconst 1, .iadd, .iload 4, .imul, .istore 5, .iconst 0, .istore 6] 11 = true := qck_r (nn_ _) (by decide +kernel)
theorem bs_X4_firstBest_e_0 {P : Zt → Option Zv → Prop} (K : Int → Zl → List Zv → Zt → Prop) : sx_ K P [.iload 2, .iconst 1, .iadd, .iload 4, .imul, .istore 5, .iconst 0, .istore 6] 11 = x_iload 2 (x_iconst 1 (x_iadd (x_iload 4 (x_imul (x_istore 5 (x_iconst 0 (x_istore 6 (K 11)))))))) := ((xe_iload 2).trans (congrArg (x_iload 2) ((xe_iconst 1).trans (congrArg (x_iconst 1) ((xe_iadd).trans (congrArg (x_iadd) ((xe_iload 4).trans (congrArg (x_iload 4) ((xe_imul).trans (congrArg (x_imul) ((xe_istore 5).trans (congrArg (x_istore 5) ((xe_iconst 0).trans (congrArg (x_iconst 0) ((xe_istore 6).trans (congrArg (x_istore 6) xe_nil))))))))))))))))
abbrev po_X4_firstBest_e (T : Zt) (p : Int) (k a e : Int) : Zt → Option Zv → Prop := fun T' r => T = T' ∧ ∃ x : Int, r = some (vI x) ∧ (x = fb9_ (fun _ o => dh8_ T p o) (fun _ o => lh8_ T p o) (fun t => T 190 (T 104 0 4) ((k + 1) * e + t)) (T 190 (T 104 0 4) (k * e + a)) k a (T 108 0 12).toNat)
set_option maxHeartbeats 4000000 in
theorem ct_X4_firstBest_e {T : Zt} {p : Int} {k a e : Int} (hk : 0 ≤ k ∧ k < 48) (ha : 0 ≤ a ∧ a < e) (hO : OS_ (T 108 0 12) e) (hL : (k + 2) * e ≤ T 190 (T 104 0 4) (-2)) (hB : ∀ t, 0 ≤ t → t < e → 0 ≤ T 190 (T 104 0 4) ((k + 1) * e + t) ∧ T 190 (T 104 0 4) ((k + 1) * e + t) ≤ 1000000) : Ct_ yX4_firstBest zX4_firstBest T [vR 104 0, vR 102 p, vI k, vI a, vI e] (po_X4_firstBest_e T p k a e) := by
  refine ct_of pn_4 rfl rfl (Nat.le_of_ble_eq_true rfl) (fun hT hav => ?_)
  have hr_k : -2147483648 ≤ k ∧ k ≤ 2147483647 := hav (vI k) (List.mem_cons_of_mem _ (List.mem_cons_of_mem _ List.mem_cons_self))
  have hr_a : -2147483648 ≤ a ∧ a ≤ 2147483647 := hav (vI a) (List.mem_cons_of_mem _ (List.mem_cons_of_mem _ (List.mem_cons_of_mem _ List.mem_cons_self)))
  have hr_e : -2147483648 ≤ e ∧ e ≤ 2147483647 := hav (vI e) (List.mem_cons_of_mem _ (List.mem_cons_of_mem _ (List.mem_cons_of_mem _ (List.mem_cons_of_mem _ List.mem_cons_self))))
  have hz : zX4_firstBest.2.2.2.1 = some .boolean → ∀ (T' : Zt) (x : Int), po_X4_firstBest_e T p k a e T' (some (vI x)) → 0 ≤ x ∧ x ≤ 1 := fun h => by cases h
  have hb_officials : 0 ≤ T 108 0 12 ∧ T 108 0 12 ≤ 8 := bd_f hT 108 12 tl_8_12 0
  have hE := hO.1
  have hm := mlb (a := k + 2) (b := e) (A := 50) (B := 256) (by omega) (by omega)
  have x1 := k1e k e
  have x2 := k2e k e
  have hm0 := mlb (a := k) (b := e) (A := 48) (B := 256) (by omega) (by omega)
  show J_ zX4_firstBest T (po_X4_firstBest_e T p k a e) 0 0 0 [some (vR 104 0), some (vR 102 p), some (vI k), some (vI a), some (vI e), none, none, none] [] T
  have c_11 : ∀ (nn : Nat) (j : Int), ((T 108 0 12 - j).toNat) ≤ nn → (0 ≤ j ∧ j ≤ T 108 0 12) → (fb9_ (fun _ o => dh8_ T p o) (fun _ o => lh8_ T p o) (fun t => T 190 (T 104 0 4) ((k + 1) * e + t)) (T 190 (T 104 0 4) (k * e + a)) k a j.toNat = -1) → J_ zX4_firstBest T (po_X4_firstBest_e T p k a e) 0 0 11 [some (vR 104 0), some (vR 102 p), some (vI k), some (vI a), some (vI e), some (vI ((k + 1) * e)), some (vI j), none] [] T := by
    intro nn
    induction nn using Nat.strongRecOn with
    | _ nn ih_11 =>
      intro j hm_11 i1 f1
      replace hm_11 := fun (_ : Unit) => hm_11
      refine j_blx (F := fX4) tb_X4 (nn_ _) bk_X4_firstBest_e_11 bs_X4_firstBest_e_11 hz (fun K hK => ?_)
      intro b1 b1b
      refine And.intro (fun c2 => ?_) (fun c2 => ?_)
      · refine hK 79 _ [] T ?_
        refine j_blx (F := fX4) tb_X4 (nn_ _) bk_X4_firstBest_e_79 bs_X4_firstBest_e_79 hz (fun K hK => ?_)
        refine (show po_X4_firstBest_e T p k a e T (some (vI (-1))) from ?_)
        exact ⟨rfl, _, rfl, by rw [show T 108 0 12 = j by omega]; exact f1.symm⟩
      · refine hK 28 _ [vI a, vI j, vR 102 p, vR 104 0] T ?_
        refine j_callV (y := yX4_gainOf) (Yc := zX4_gainOf) (rest := []) [vR 102 p, vI j, vI a] (ct_X4_gainOf_e (T := T) (by omega)) cl_X4_70 (qd_c (by decide +kernel)) (nn_ _) rfl (rf_of rfl) (Nat.le_of_ble_eq_true rfl) (Nat.le_of_ble_eq_true rfl) (Nat.le_of_ble_eq_true rfl) rfl ?_
        rintro _ _ ⟨rfl, x3, rfl, hx3⟩
        show J_ zX4_firstBest T (po_X4_firstBest_e T p k a e) 0 0 31 _ [vI x3] T
        have hgg := hx3
        refine j_blx (F := fX4) tb_X4 (nn_ _) bk_X4_firstBest_e_31 bs_X4_firstBest_e_31 hz (fun K hK => ?_)
        refine And.intro (fun c4 => ?_) (fun c4 => ?_)
        · refine hK 73 [some (vR 104 0), some (vR 102 p), some (vI k), some (vI a), some (vI e), some (vI ((k + 1) * e)), some (vI j), some (vI x3)] [] T ?_
          refine j_blx (F := fX4) tb_X4 (nn_ _) bk_X4_firstBest_e_73 bs_X4_firstBest_e_73 hz (fun K hK => ?_)
          refine rg_i (by omega) ?_
          refine hK 11 [some (vR 104 0), some (vR 102 p), some (vI k), some (vI a), some (vI e), some (vI ((k + 1) * e)), some (vI (j + 1)), some (vI x3)] [] T ?_
          refine j_drq [some (vR 104 0), some (vR 102 p), some (vI k), some (vI a), some (vI e), some (vI ((k + 1) * e)), some (vI (j + 1)), none] (drq_s (drq_s (drq_s (drq_s (drq_s (drq_s (drq_s (drq_n drq_0)))))))) ?_
          refine ih_11 _ ?_ (j + 1) (Nat.le_refl _) ?_ ?_
          · have hm_11 := hm_11 (); omega
          · omega
          · rw [fb_f (d := (fun _ o => dh8_ T p o)) (A := (fun _ o => lh8_ T p o)) (B := (fun t => T 190 (T 104 0 4) ((k + 1) * e + t))) (V := T 190 (T 104 0 4) (k * e + a)) (k := k) (s := a) (w := j) (by omega) (fun q => ?_)]
            · exact f1
            · rcases hgg with z | z
              · exact z.2 q.2.1
              · have q2 : 1000 - dh8_ T p j + T 190 (T 104 0 4) ((k + 1) * e + or_ a (sl_ 1 j)) = T 190 (T 104 0 4) (k * e + a) := q.2.2
                omega
        · intro w6 w6b
          intro w7 w7b
          have o9 := hO.2 a j (by omega) (by omega) (by omega) (by omega)
          have b9 := hB _ o9.1 o9.2
          refine rg_i (by omega) ?_
          refine ix_i (by omega) ?_
          intro b8 b8b
          refine rg_i (by omega) ?_
          refine rg_i (by omega) ?_
          refine rg_i (by omega) ?_
          refine ix_i (by omega) ?_
          intro b10 b10b
          refine And.intro (fun c11 => ?_) (fun c11 => ?_)
          · refine hK 73 [some (vR 104 0), some (vR 102 p), some (vI k), some (vI a), some (vI e), some (vI ((k + 1) * e)), some (vI j), some (vI x3)] [] T ?_
            refine j_blx (F := fX4) tb_X4 (nn_ _) bk_X4_firstBest_e_73 bs_X4_firstBest_e_73 hz (fun K hK => ?_)
            refine rg_i (by omega) ?_
            refine hK 11 [some (vR 104 0), some (vR 102 p), some (vI k), some (vI a), some (vI e), some (vI ((k + 1) * e)), some (vI (j + 1)), some (vI x3)] [] T ?_
            refine j_drq [some (vR 104 0), some (vR 102 p), some (vI k), some (vI a), some (vI e), some (vI ((k + 1) * e)), some (vI (j + 1)), none] (drq_s (drq_s (drq_s (drq_s (drq_s (drq_s (drq_s (drq_n drq_0)))))))) ?_
            refine ih_11 _ ?_ (j + 1) (Nat.le_refl _) ?_ ?_
            · have hm_11 := hm_11 (); omega
            · omega
            · rw [fb_f (d := (fun _ o => dh8_ T p o)) (A := (fun _ o => lh8_ T p o)) (B := (fun t => T 190 (T 104 0 4) ((k + 1) * e + t))) (V := T 190 (T 104 0 4) (k * e + a)) (k := k) (s := a) (w := j) (by omega) (fun q => ?_)]
              · exact f1
              · rcases hgg with z | z
                · exact z.2 q.2.1
                · have q2 : 1000 - dh8_ T p j + T 190 (T 104 0 4) ((k + 1) * e + or_ a (sl_ 1 j)) = T 190 (T 104 0 4) (k * e + a) := q.2.2
                  omega
          · refine (show po_X4_firstBest_e T p k a e T (some (vI j)) from ?_)
            have g9 := hgg.resolve_left (fun z => by omega)
            have t9 := fb_t (d := (fun _ o => dh8_ T p o)) (A := (fun _ o => lh8_ T p o)) (B := (fun t => T 190 (T 104 0 4) ((k + 1) * e + t))) (V := T 190 (T 104 0 4) (k * e + a)) (k := k) (s := a) (w := j) (by omega) ⟨f1, g9.2.1, by show 1000 - dh8_ T p j + T 190 (T 104 0 4) ((k + 1) * e + or_ a (sl_ 1 j)) = _; omega⟩
            exact ⟨rfl, _, rfl, by rw [fb_n (a := (j + 1).toNat) (by omega) (by rw [t9]; omega), t9]⟩
  refine j_blx (F := fX4) tb_X4 (nn_ _) bk_X4_firstBest_e_0 bs_X4_firstBest_e_0 hz (fun K hK => ?_)
  refine rg_i (by omega) ?_
  refine rg_i (by omega) ?_
  refine hK 11 [some (vR 104 0), some (vR 102 p), some (vI k), some (vI a), some (vI e), some (vI ((k + 1) * e)), some (vI 0), none] [] T ?_
  refine c_11 _ 0 (Nat.le_refl _) ?_ ?_
  · omega
  · rfl
-- officials of the house: tables by sets, words
/-- a match of that day that is left -/
def LDh_ (T : Zt) (d m : Int) : Prop := T 102 m 5 = d ∧ ¬ (T 102 m 6 ≠ -1 ∨ (T 102 m 10 ≠ 0 ∧ T 103 m 3 ≠ 0))
noncomputable def DLh_ (T : Zt) (d : Int) : Int × (Int → Int) := dl9_ (LDh_ T d) (T 106 0 4).toNat
def dhl_ (T : Zt) : Int → Int → Int := fun i o => dh8_ T (T 482 0 i) o
def ahl_ (T : Zt) : Int → Int → Prop := fun i o => lh8_ T (T 482 0 i) o
/-- the rows behind q0 are laid -/
def BWq_ (T U : Zt) (e q0 : Int) : Prop := ∀ q, q0 < q → q ≤ T 104 0 3 → ∀ s, 0 ≤ s → s < e → U 190 (U 104 0 4) (q * e + s) = bw9_ (dhl_ T) (ahl_ T) (T 108 0 12) (T 104 0 3) (T 104 0 3 - q).toNat s
theorem dh8_e {T U : Zt} {p w : Int} (h : ∀ (k : Nat) (j : Int), k = 560 ∨ k = 561 ∨ k = 570 ∨ k = 571 → U k 0 j = T k 0 j) (h3 : U 102 p 3 = T 102 p 3) (h4 : U 102 p 4 = T 102 p 4) : dh8_ U p w = dh8_ T p w ∧ (lh8_ U p w ↔ lh8_ T p w) := by
  unfold dh8_ lh8_
  rw [h3, h4, h 570 _ (by decide), h 560 _ (by decide), h 561 _ (by decide), h 571 _ (by decide), h 561 _ (by decide)]
  exact ⟨rfl, Iff.rfl⟩
theorem dh8_b {T : Zt} {p w : Int} (hT : ok_T T) (hw : 0 ≤ w ∧ w < 8) : 0 ≤ dh8_ T p w ∧ dh8_ T p w ≤ 11 := by
  have h3 : 0 ≤ T 102 p 3 ∧ T 102 p 3 ≤ 11 := bd_f hT 102 3 tl_2_3 p
  have h5 : 0 ≤ T 570 0 w ∧ T 570 0 w ≤ 11 := bd_a hT 570 (by decide +kernel : ta_ 570 = some (1, some 8, 0, 11)) 0 (x := w) hw.1
  have h6 : 0 ≤ T 560 0 (T 102 p 3) ∧ T 560 0 (T 102 p 3) ≤ 11 := bd_a hT 560 (by decide +kernel : ta_ 560 = some (1, some 12, 0, 11)) 0 (x := T 102 p 3) h3.1
  unfold dh8_
  split <;> omega
theorem bw_m {d : Int → Int → Int} {A : Int → Int → Prop} {n e : Int} (hn : 0 ≤ n ∧ n ≤ 8) {j : Nat} {s : Int} (hs : 0 ≤ s ∧ s ≤ 4095) (D : ∀ i o, e - (j : Int) ≤ i → i < e → 0 ≤ o → o < n → 0 ≤ d i o ∧ d i o ≤ 11) : 0 ≤ bw9_ d A n e j s ∧ bw9_ d A n e j s ≤ 8000 := by
  obtain ⟨a, b, r1, r2, r3⟩ := bw_r (d := d) (A := A) hn hs D
  have p := bw_p (d := d) (A := A) (n := n) (e := e) j s
  omega
/-- the choice hangs on the matches and officials at hand alone -/
theorem who_c {d d' : Int → Int → Int} {A A' : Int → Int → Prop} {n e k s : Int} (hn : 0 ≤ n ∧ n ≤ 8) (hs : 0 ≤ s ∧ s ≤ 4095) (hk : 0 ≤ k ∧ k < e) (h : ∀ i o, 0 ≤ i → i < e → 0 ≤ o → o < n → d i o = d' i o ∧ (A i o ↔ A' i o)) : who9_ d A n e k s = who9_ d' A' n e k s := by
  unfold who9_
  refine fb_d (bw_c hn.2 _ s hs (fun i o a b p q => h i o (by omega) b p q)) n.toNat (fun w a b => ?_)
  have o2 := or_b hs (sl_b (c := w) (by omega))
  have y := h k w hk.1 hk.2 a (by omega)
  exact ⟨y.1, y.2, bw_c hn.2 _ _ o2 (fun i o a b p q => h i o (by omega) b p q)⟩
theorem sa_c {d d' : Int → Int → Int} {A A' : Int → Int → Prop} {n e : Int} {L M L' M' : Int → Int} (hn : 0 ≤ n ∧ n ≤ 8) (h : ∀ i o, 0 ≤ i → i < e → 0 ≤ o → o < n → d i o = d' i o ∧ (A i o ↔ A' i o)) (hL : ∀ j, 0 ≤ j → j < e → L j = L' j) : ∀ k : Nat, (k : Int) ≤ e → (sa9_ d A n e k = sa9_ d' A' n e k ∧ 0 ≤ sa9_ d A n e k ∧ sa9_ d A n e k ≤ 4095) ∧ nc9_ d A n e k = nc9_ d' A' n e k ∧ ∀ m, M m = M' m → om9_ d A n e L M k m = om9_ d' A' n e L' M' k m
  | 0, _ => ⟨⟨rfl, Int.le_refl _, by show (0 : Int) ≤ 4095; decide⟩, rfl, fun m hM => hM⟩
  | k + 1, hk => by
    obtain ⟨⟨i1, i2, i3⟩, i4, i5⟩ := sa_c (M := M) (M' := M') hn h hL k (by omega)
    have w := who_c (d := d) (d' := d') (A := A) (A' := A') (n := n) (e := e) (k := (k : Int)) (s := sa9_ d A n e k) hn ⟨i2, i3⟩ (by omega) h
    have ws := who_s (d := d) (A := A) (n := n) (e := e) (k := (k : Int)) (s := sa9_ d A n e k) (by omega) hn.1
    refine ⟨?_, ?_, fun m hM => ?_⟩
    · show (cz_ (who9_ d A n e (k : Int) (sa9_ d A n e k) = -1) (sa9_ d A n e k) (or_ (sa9_ d A n e k) (sl_ 1 (who9_ d A n e (k : Int) (sa9_ d A n e k)))) = cz_ (who9_ d' A' n e (k : Int) (sa9_ d' A' n e k) = -1) (sa9_ d' A' n e k) (or_ (sa9_ d' A' n e k) (sl_ 1 (who9_ d' A' n e (k : Int) (sa9_ d' A' n e k))))) ∧ 0 ≤ cz_ (who9_ d A n e (k : Int) (sa9_ d A n e k) = -1) (sa9_ d A n e k) (or_ (sa9_ d A n e k) (sl_ 1 (who9_ d A n e (k : Int) (sa9_ d A n e k)))) ∧ cz_ (who9_ d A n e (k : Int) (sa9_ d A n e k) = -1) (sa9_ d A n e k) (or_ (sa9_ d A n e k) (sl_ 1 (who9_ d A n e (k : Int) (sa9_ d A n e k)))) ≤ 4095
      rw [← i1, ← w]
      refine ⟨rfl, ?_⟩
      by_cases z : who9_ d A n e (k : Int) (sa9_ d A n e k) = -1
      · rw [cz_t z]; exact ⟨i2, i3⟩
      · rw [cz_f z]
        exact or_b ⟨i2, i3⟩ (sl_b (by omega))
    · show nc9_ d A n e k + cz_ (who9_ d A n e (k : Int) (sa9_ d A n e k) = -1) 0 1 = nc9_ d' A' n e k + cz_ (who9_ d' A' n e (k : Int) (sa9_ d' A' n e k) = -1) 0 1
      rw [← i1, ← w, i4]
    · show fu_ (om9_ d A n e L M k) (L (k : Int)) (who9_ d A n e (k : Int) (sa9_ d A n e k)) m = fu_ (om9_ d' A' n e L' M' k) (L' (k : Int)) (who9_ d' A' n e (k : Int) (sa9_ d' A' n e k)) m
      rw [← i1, ← w, hL (k : Int) (by omega) (by omega)]
      by_cases z : m = L' (k : Int)
      · rw [z, fu_s, fu_s]
      · rw [fu_n z, fu_n z]; exact i5 m hM
-- officials of the house: the rows by sets, words
theorem mlq9 {a b e : Int} (h : a + 1 ≤ b) (he : 0 ≤ e) : a * e + e ≤ b * e := by
  have y := Int.mul_le_mul_of_nonneg_right h he
  rw [Int.add_mul, Int.one_mul] at y
  exact y
/-- row k is laid up to set j -/
def BRq_ (T U : Zt) (e k j : Int) : Prop := ∀ s, 0 ≤ s → s < j → U 190 (U 104 0 4) (k * e + s) = bw9_ (dhl_ T) (ahl_ T) (T 108 0 12) (T 104 0 3) (T 104 0 3 - k).toNat s
theorem bq_u {T U V : Zt} {e k j x : Int} (hU : V = up_ U 190 (U 104 0 4) (k * e + j) x) (he : 1 ≤ e) (hj : 0 ≤ j ∧ j < e) (B : BWq_ T U e k) : BWq_ T V e k := fun q a b s c d => by
  have y := mlq9 (a := k) (b := q) (e := e) (by omega) (by omega)
  rw [show V 104 0 4 = U 104 0 4 from up_k hU (by exact Nat.ne_of_beq_eq_false rfl) _ _, up_g hU (fun z => by have w := z.2.2; omega)]
  exact B q a b s c d
theorem brq_u {T U V : Zt} {e k j x : Int} (hU : V = up_ U 190 (U 104 0 4) (k * e + j) x) (R : BRq_ T U e k j) (hx : x = bw9_ (dhl_ T) (ahl_ T) (T 108 0 12) (T 104 0 3) (T 104 0 3 - k).toNat j) : BRq_ T V e k (j + 1) := fun s a b => by
  rw [show V 104 0 4 = U 104 0 4 from up_k hU (by exact Nat.ne_of_beq_eq_false rfl) _ _]
  by_cases z : s = j
  · rw [z, up_f hU]
    exact hx
  · rw [up_g hU (fun q => z (by have w := q.2.2; omega))]
    exact R s a (by omega)
theorem bq_n {T U : Zt} {e k : Int} (B : BWq_ T U e k) (R : BRq_ T U e k e) : BWq_ T U e (k + (-1)) := fun q a b s c d => by
  by_cases z : q = k
  · rw [z]
    exact R s c d
  · exact B q (by omega) b s c d
theorem bq_z {T U : Zt} {e : Int} (Z : ∀ s, 0 ≤ s → s < e → U 190 (U 104 0 4) (T 104 0 3 * e + s) = 0) : BWq_ T U e (T 104 0 3 - 1) := fun q a b s c d => by
  rw [show (T 104 0 3 - q).toNat = 0 by omega, show q = T 104 0 3 by omega]
  exact Z s c d
/-- what weighing gives is the row's word -/
theorem wg_q {T U : Zt} {e k j : Int} (hn : 0 ≤ T 108 0 12) (hO : OS_ (T 108 0 12) e) (hk : 0 ≤ k ∧ k < T 104 0 3) (hj : 0 ≤ j ∧ j < e) (B : BWq_ T U e k) (hd : ∀ w, dh8_ U (T 482 0 k) w = dh8_ T (T 482 0 k) w ∧ (lh8_ U (T 482 0 k) w ↔ lh8_ T (T 482 0 k) w)) : mx9_ (fun _ o => dh8_ U (T 482 0 k) o) (fun _ o => lh8_ U (T 482 0 k) o) k j (fun t => U 190 (U 104 0 4) ((k + 1) * e + t)) (T 108 0 12).toNat = bw9_ (dhl_ T) (ahl_ T) (T 108 0 12) (T 104 0 3) (T 104 0 3 - k).toNat j := by
  rw [bwn_s hk]
  refine mx_d (B (k + 1) (by omega) (by omega) j hj.1 hj.2) _ (fun w a b => ⟨(hd w).1, (hd w).2, ?_⟩)
  have o9 := hO.2 j w hj.1 hj.2 a (by omega)
  exact B (k + 1) (by omega) (by omega) _ o9.1 o9.2
theorem bq_b {T U : Zt} {e k : Int} (hT : ok_T T) (hn : 0 ≤ T 108 0 12 ∧ T 108 0 12 ≤ 8) (hE : 1 ≤ e ∧ e ≤ 256) (B : BWq_ T U e k) (hk : 0 ≤ k ∧ k < T 104 0 3) : ∀ t, 0 ≤ t → t < e → 0 ≤ U 190 (U 104 0 4) ((k + 1) * e + t) ∧ U 190 (U 104 0 4) ((k + 1) * e + t) ≤ 1000000 := fun t a b => by
  rw [B (k + 1) (by omega) (by omega) t a b]
  have y := bw_m (d := dhl_ T) (A := ahl_ T) (n := T 108 0 12) (e := T 104 0 3) hn (j := (T 104 0 3 - (k + 1)).toNat) (s := t) ⟨a, by omega⟩ (fun i o _ _ p q => dh8_b (p := T 482 0 i) hT ⟨p, by omega⟩)
  omega
/-- all rows by sets stand, in the words of the start -/
def WTq_ (T U : Zt) (L : Int → Int) (n e E : Int) : Prop := ∀ q, 0 ≤ q → q ≤ e → ∀ s, 0 ≤ s → s < E → U 190 (U 104 0 4) (q * E + s) = bw9_ (fun i o => dh8_ T (L i) o) (fun i o => lh8_ T (L i) o) n e (e - q).toNat s
theorem wt_b {T U V : Zt} {L : Int → Int} {n e E : Int} (B : BWq_ U V E (-1)) (hn : n ≤ 8) (hE : E ≤ 4096) (e3 : U 104 0 3 = e) (e12 : U 108 0 12 = n) (hL : ∀ j, 0 ≤ j → j < e → U 482 0 j = L j) (hd : ∀ p w, dh8_ U p w = dh8_ T p w ∧ (lh8_ U p w ↔ lh8_ T p w)) : WTq_ T V L n e E := fun q a b s c d => by
  have y := B q (by omega) (by omega) s c d
  rw [e3, e12] at y
  rw [y]
  exact bw_c hn _ s ⟨c, by omega⟩ (fun i o p r t u => by
    show dh8_ U (U 482 0 i) o = dh8_ T (L i) o ∧ (lh8_ U (U 482 0 i) o ↔ lh8_ T (L i) o)
    rw [hL i (by omega) r]
    exact hd (L i) o)
theorem wt_k {T U V : Zt} {L : Int → Int} {n e E : Int} (W : WTq_ T U L n e E) (e4 : V 104 0 4 = U 104 0 4) (e9 : ∀ x j, V 190 x j = U 190 x j) : WTq_ T V L n e E := fun q a b s c d => by
  rw [e4, e9]
  exact W q a b s c d
theorem fq_q {T U : Zt} {L : Int → Int} {n e E k a p : Int} (hn : 0 ≤ n) (hO : OS_ n E) (hk : 0 ≤ k ∧ k < e) (ha : 0 ≤ a ∧ a < E) (W : WTq_ T U L n e E) (hd : ∀ w, dh8_ U p w = dh8_ T (L k) w ∧ (lh8_ U p w ↔ lh8_ T (L k) w)) : fb9_ (fun _ o => dh8_ U p o) (fun _ o => lh8_ U p o) (fun t => U 190 (U 104 0 4) ((k + 1) * E + t)) (U 190 (U 104 0 4) (k * E + a)) k a n.toNat = who9_ (fun i o => dh8_ T (L i) o) (fun i o => lh8_ T (L i) o) n e k a := by
  unfold who9_
  refine fb_d (W k hk.1 (by omega) a ha.1 ha.2) _ (fun w x y => ⟨(hd w).1, (hd w).2, ?_⟩)
  have o9 := hO.2 a w ha.1 ha.2 x (by omega)
  exact W (k + 1) (by omega) (by omega) _ o9.1 o9.2
theorem wt_h {T U : Zt} {L : Int → Int} {n e E k : Int} (hT : ok_T T) (hn : 0 ≤ n ∧ n ≤ 8) (hE : 1 ≤ E ∧ E ≤ 256) (W : WTq_ T U L n e E) (hk : 0 ≤ k ∧ k < e) : ∀ t, 0 ≤ t → t < E → 0 ≤ U 190 (U 104 0 4) ((k + 1) * E + t) ∧ U 190 (U 104 0 4) ((k + 1) * E + t) ≤ 1000000 := fun t a b => by
  rw [W (k + 1) (by omega) (by omega) t a b]
  have y := bw_m (d := fun i o => dh8_ T (L i) o) (A := fun i o => lh8_ T (L i) o) (n := n) (e := e) hn (j := (e - (k + 1)).toNat) (s := t) ⟨a, by omega⟩ (fun i o _ _ p q => dh8_b (p := L i) hT ⟨p, by omega⟩)
  omega
theorem bk_X4_listMatches_g_7 : ck_ fX4 none cX4_listMatches 7 [.iload 2, .aload 0, .tableswitch 0 4 0 #[], .tableswitch 0 6 4 #[], .if_icmp .ge 69, .aload 0, .tableswitch 0 4 0 #[], .tableswitch 0 6 3 #[], .iload 2, .aaload, .astore 3, .aload 3, .tableswitch 0 2 5 #[], .iload 1, .if_icmp .ne 63, .aload 3] 37 = true := qck_r (nn_ _) (by decide +kernel)
theorem bs_X4_listMatches_g_7 {P : Zt → Option Zv → Prop} (K : Int → Zl → List Zv → Zt → Prop) : sx_ K P [.iload 2, .aload 0, .tableswitch 0 4 0 #[], .tableswitch 0 6 4 #[], .if_icmp .ge 69, .aload 0, .tableswitch 0 4 0 #[], .tableswitch 0 6 3 #[], .iload 2, .aaload, .astore 3, .aload 3, .tableswitch 0 2 5 #[], .iload 1, .if_icmp .ne 63, .aload 3] 37 = x_iload 2 (x_aload 0 (x_g1 104 106 (x_g0 106 4 0 400 (x_if_icmp .ge 69 K (x_aload 0 (x_g1 104 106 (x_g1 106 523 (x_iload 2 (x_aaload (x_astore 3 (x_aload 3 (x_g0 102 5 0 999 (x_iload 1 (x_if_icmp .ne 63 K (x_aload 3 (K 37)))))))))))))))) := ((xe_iload 2).trans (congrArg (x_iload 2) ((xe_aload 0).trans (congrArg (x_aload 0) ((xe_g1 (kk := 104) rfl tl_4_0).trans (congrArg (x_g1 104 106) ((xe_g0 (kk := 106) rfl tl_6_4).trans (congrArg (x_g0 106 4 0 400) ((xe_if_icmp .ge 69).trans (congrArg (x_if_icmp .ge 69 K) ((xe_aload 0).trans (congrArg (x_aload 0) ((xe_g1 (kk := 104) rfl tl_4_0).trans (congrArg (x_g1 104 106) ((xe_g1 (kk := 106) rfl tl_6_3).trans (congrArg (x_g1 106 523) ((xe_iload 2).trans (congrArg (x_iload 2) ((xe_aaload).trans (congrArg (x_aaload) ((xe_astore 3).trans (congrArg (x_astore 3) ((xe_aload 3).trans (congrArg (x_aload 3) ((xe_g0 (kk := 102) rfl tl_2_5).trans (congrArg (x_g0 102 5 0 999) ((xe_iload 1).trans (congrArg (x_iload 1) ((xe_if_icmp .ne 63).trans (congrArg (x_if_icmp .ne 63 K) ((xe_aload 3).trans (congrArg (x_aload 3) xe_nil))))))))))))))))))))))))))))))))
theorem bk_X4_listMatches_g_69 : ck_ fX4 none cX4_listMatches 69 [.return_] 70 = true := qck_r (nn_ _) (by decide +kernel)
theorem bs_X4_listMatches_g_69 {P : Zt → Option Zv → Prop} (K : Int → Zl → List Zv → Zt → Prop) : sx_ K P [.return_] 70 = x_return_ P := (xe_return_)
theorem bk_X4_listMatches_g_63 : ck_ fX4 none cX4_listMatches 63 [.iinc 2 1, .goto 7] 69 = true := qck_r (nn_ _) (by decide +kernel)
theorem bs_X4_listMatches_g_63 {P : Zt → Option Zv → Prop} (K : Int → Zl → List Zv → Zt → Prop) : sx_ K P [.iinc 2 1, .goto 7] 69 = x_iinc 2 1 (x_goto 7 K) := ((xe_iinc 2 1).trans (congrArg (x_iinc 2 1) (xe_goto 7)))
theorem bk_X4_listMatches_g_40 : ck_ fX4 none cX4_listMatches 40 [.ifCond .ne 63, .aload 0, .tableswitch 0 4 2 #[], .aload 0, .tableswitch 0 4 3 #[], .iload 2, .iastore, .aload 0, .dup, .tableswitch 0 4 3 #[], .iconst 1, .iadd, .tableswitch 1 4 3 #[], .iinc 2 1, .goto 7] 69 = true := qck_r (nn_ _) (by decide +kernel)
theorem bs_X4_listMatches_g_40 {P : Zt → Option Zv → Prop} (K : Int → Zl → List Zv → Zt → Prop) : sx_ K P [.ifCond .ne 63, .aload 0, .tableswitch 0 4 2 #[], .aload 0, .tableswitch 0 4 3 #[], .iload 2, .iastore, .aload 0, .dup, .tableswitch 0 4 3 #[], .iconst 1, .iadd, .tableswitch 1 4 3 #[], .iinc 2 1, .goto 7] 69 = x_ifCond .ne 63 K (x_aload 0 (x_g1 104 482 (x_aload 0 (x_g0 104 3 0 400 (x_iload 2 (x_iastore (x_aload 0 (x_dup (x_g0 104 3 0 400 (x_iconst 1 (x_iadd (x_p 104 3 0 400 (x_iinc 2 1 (x_goto 7 K)))))))))))))) := ((xe_ifCond .ne 63).trans (congrArg (x_ifCond .ne 63 K) ((xe_aload 0).trans (congrArg (x_aload 0) ((xe_g1 (kk := 104) rfl tl_4_2).trans (congrArg (x_g1 104 482) ((xe_aload 0).trans (congrArg (x_aload 0) ((xe_g0 (kk := 104) rfl tl_4_3).trans (congrArg (x_g0 104 3 0 400) ((xe_iload 2).trans (congrArg (x_iload 2) ((xe_iastore).trans (congrArg (x_iastore) ((xe_aload 0).trans (congrArg (x_aload 0) ((xe_dup).trans (congrArg (x_dup) ((xe_g0 (kk := 104) rfl tl_4_3).trans (congrArg (x_g0 104 3 0 400) ((xe_iconst 1).trans (congrArg (x_iconst 1) ((xe_iadd).trans (congrArg (x_iadd) ((xe_p (kk := 104) rfl tl_4_3).trans (congrArg (x_p 104 3 0 400) ((xe_iinc 2 1).trans (congrArg (x_iinc 2 1) (xe_goto 7)))))))))))))))))))))))))))))
theorem bk_X4_listMatches_g_0 : ck_ fX4 none cX4_listMatches 0 [.aload 0, .iconst 0, .tableswitch 1 4 3 #[], .iconst 0, .istore 2] 7 = true := qck_r (nn_ _) (by decide +kernel)
theorem bs_X4_listMatches_g_0 {P : Zt → Option Zv → Prop} (K : Int → Zl → List Zv → Zt → Prop) : sx_ K P [.aload 0, .iconst 0, .tableswitch 1 4 3 #[], .iconst 0, .istore 2] 7 = x_aload 0 (x_iconst 0 (x_p 104 3 0 400 (x_iconst 0 (x_istore 2 (K 7))))) := ((xe_aload 0).trans (congrArg (x_aload 0) ((xe_iconst 0).trans (congrArg (x_iconst 0) ((xe_p (kk := 104) rfl tl_4_3).trans (congrArg (x_p 104 3 0 400) ((xe_iconst 0).trans (congrArg (x_iconst 0) ((xe_istore 2).trans (congrArg (x_istore 2) xe_nil))))))))))
abbrev po_X4_listMatches_g (T : Zt) (d : Int) : Zt → Option Zv → Prop := fun T' r => r = none ∧ fr_ [(104, [3]), (482, [])] T T' ∧ ((0 ≤ T' 104 0 3 ∧ T' 104 0 3 ≤ 48) ∧ LS_ T (T' 482 0) d (T' 104 0 3) (T 106 0 4) ∧ (T' 104 0 3 = (DLh_ T d).1 ∧ ∀ j, 0 ≤ j → j < T' 104 0 3 → T' 482 0 j = (DLh_ T d).2 j))
set_option maxHeartbeats 4000000 in
theorem ct_X4_listMatches_g {T : Zt} {d : Int} (hka : KA_ T) (hkm : KM_ T) (hdd : DD_ T) : Ct_ yX4_listMatches zX4_listMatches T [vR 104 0, vI d] (po_X4_listMatches_g T d) := by
  refine ct_of pn_4 rfl rfl (Nat.le_of_ble_eq_true rfl) (fun hT hav => ?_)
  have hr_d : -2147483648 ≤ d ∧ d ≤ 2147483647 := hav (vI d) (List.mem_cons_of_mem _ List.mem_cons_self)
  have hz : zX4_listMatches.2.2.2.1 = some .boolean → ∀ (T' : Zt) (x : Int), po_X4_listMatches_g T d T' (some (vI x)) → 0 ≤ x ∧ x ≤ 1 := fun h => by cases h
  have hb_matchCount : 0 ≤ T 106 0 4 ∧ T 106 0 4 ≤ 400 := bd_f hT 106 4 tl_6_4 0
  show J_ zX4_listMatches T (po_X4_listMatches_g T d) 0 0 0 [some (vR 104 0), some (vI d), none, none] [] T
  have c_7 : ∀ (nn : Nat) (k : Int) (T1 : Zt), ((400 - k).toNat) ≤ nn → (fr_ [(104, [3]), (482, [])] T T1) → (0 ≤ k ∧ k ≤ T 106 0 4 ∧ 0 ≤ T1 104 0 3 ∧ T1 104 0 3 ≤ k) → (LS_ T (T1 482 0) d (T1 104 0 3) k) → (T1 104 0 3 = (dl9_ (LDh_ T d) k.toNat).1 ∧ ∀ j, 0 ≤ j → j < T1 104 0 3 → T1 482 0 j = (dl9_ (LDh_ T d) k.toNat).2 j) → J_ zX4_listMatches T (po_X4_listMatches_g T d) 0 0 7 [some (vR 104 0), some (vI d), some (vI k), none] [] T1 := by
    intro nn
    induction nn using Nat.strongRecOn with
    | _ nn ih_7 =>
      intro k T1 hm_7 hf_7 i1 ls1 le1
      replace hm_7 := fun (_ : Unit) => hm_7
      refine j_blx (F := fX4) tb_X4 (nn_ _) bk_X4_listMatches_g_7 bs_X4_listMatches_g_7 hz (fun K hK => ?_)
      intro b1 b1b
      have e2 : T1 106 0 4 = T 106 0 4 := hf_7 106 0 4 rfl
      rw [e2] at b1 b1b ⊢
      refine And.intro (fun c3 => ?_) (fun c3 => ?_)
      · refine hK 69 _ [] T1 ?_
        refine j_blx (F := fX4) tb_X4 (nn_ _) bk_X4_listMatches_g_69 bs_X4_listMatches_g_69 hz (fun K hK => ?_)
        refine (show po_X4_listMatches_g T d T1 (none) from ?_)
        have y0 := LS_48 (L := T1 482 0) (d := d) (n := T1 104 0 3) hT (LS_m ls1 (by omega)) hkm hdd
        have ek : k = T 106 0 4 := by omega
        rw [ek] at le1
        exact ⟨rfl, hf_7, by omega, LS_m ls1 (by omega), le1⟩
      · refine ix_i (by omega) ?_
        have e5 : T1 523 0 k = T 523 0 k := hf_7 523 0 k rfl
        refine And.intro (fun c4 => ?_) (fun c4 => ?_)
        · exact absurd (show T 523 0 (k) = 0 by omega) (hka.2 _ (by omega) (by omega))
        · intro b6 b6b
          have e7 : T1 102 k 5 = T 102 k 5 := hf_7 102 k 5 rfl
          rw [e7] at b6 b6b ⊢
          refine And.intro (fun c8 => ?_) (fun c8 => ?_)
          · refine hK 63 [some (vR 104 0), some (vI d), some (vI k), some (vR 102 k)] [] T1 ?_
            refine j_blx (F := fX4) tb_X4 (nn_ _) bk_X4_listMatches_g_63 bs_X4_listMatches_g_63 hz (fun K hK => ?_)
            refine rg_i (by omega) ?_
            refine hK 7 [some (vR 104 0), some (vI d), some (vI (k + 1)), some (vR 102 k)] [] T1 ?_
            refine j_drq [some (vR 104 0), some (vI d), some (vI (k + 1)), none] (drq_s (drq_s (drq_s (drq_n drq_0)))) ?_
            refine ih_7 _ ?_ (k + 1) T1 (Nat.le_refl _) ?_ ?_ ?_ ?_
            · have hm_7 := hm_7 (); omega
            · exact fr_t (fr_0 _ _) (fr_s hf_7 rfl)
            · omega
            · exact LS_m ls1 (by omega)
            · have z1 : T1 102 k 6 = T 102 k 6 := hf_7 102 k 6 rfl
              have z2 : T1 102 k 5 = T 102 k 5 := hf_7 102 k 5 rfl
              have z3 : T1 102 k 10 = T 102 k 10 := hf_7 102 k 10 rfl
              have z4 : T1 103 k 3 = T 103 k 3 := hf_7 103 k 3 rfl
              rw [dl_f (by omega) (by unfold LDh_; omega)]
              exact le1
          · refine hK 37 [some (vR 104 0), some (vI d), some (vI k), some (vR 102 k)] [vR 102 k] T1 ?_
            refine j_callV (y := yX2_isDecided) (Yc := zX2_isDecided) (rest := []) [] (ct_X2_isDecided_e (T := T1)) cl_X4_63 (qd_c (by decide +kernel)) (nn_ _) rfl (rf_of rfl) (Nat.le_of_ble_eq_true rfl) (Nat.le_of_ble_eq_true rfl) (Nat.le_of_ble_eq_true rfl) rfl ?_
            rintro _ _ ⟨rfl, x9, rfl, hx9⟩
            show J_ zX4_listMatches T (po_X4_listMatches_g T d) 0 0 40 _ [vI x9] T1
            refine j_blx (F := fX4) tb_X4 (nn_ _) bk_X4_listMatches_g_40 bs_X4_listMatches_g_40 hz (fun K hK => ?_)
            refine And.intro (fun c10 => ?_) (fun c10 => ?_)
            · replace hx9 := hx9.resolve_right (fun z => c10 z.1)
              clear c10
              refine hK 63 _ [] T1 ?_
              refine j_blx (F := fX4) tb_X4 (nn_ _) bk_X4_listMatches_g_63 bs_X4_listMatches_g_63 hz (fun K hK => ?_)
              refine rg_i (by omega) ?_
              refine hK 7 [some (vR 104 0), some (vI d), some (vI (k + 1)), some (vR 102 k)] [] T1 ?_
              refine j_drq [some (vR 104 0), some (vI d), some (vI (k + 1)), none] (drq_s (drq_s (drq_s (drq_n drq_0)))) ?_
              refine ih_7 _ ?_ (k + 1) T1 (Nat.le_refl _) ?_ ?_ ?_ ?_
              · have hm_7 := hm_7 (); omega
              · exact fr_t (fr_0 _ _) (fr_s hf_7 rfl)
              · omega
              · exact LS_m ls1 (by omega)
              · have z1 : T1 102 k 6 = T 102 k 6 := hf_7 102 k 6 rfl
                have z2 : T1 102 k 5 = T 102 k 5 := hf_7 102 k 5 rfl
                have z3 : T1 102 k 10 = T 102 k 10 := hf_7 102 k 10 rfl
                have z4 : T1 103 k 3 = T 103 k 3 := hf_7 103 k 3 rfl
                rw [dl_f (by omega) (by unfold LDh_; omega)]
                exact le1
            · replace hx9 := hx9.resolve_left (fun z => absurd (c10.symm.trans z.1) (by decide))
              clear c10
              intro b11 b11b
              refine iy_i (by omega) (by omega) ?_
              refine x_nm (fun U12 hU12 => ?_)
              have e13 := up_f hU12
              intro b14 b14b
              have e15 : U12 104 0 3 = T1 104 0 3 := up_k hU12 (by exact Nat.ne_of_beq_eq_false rfl) 0 3
              rw [e15] at b14 b14b ⊢
              refine rg_i (by omega) ?_
              refine bd_i (by omega) ?_
              refine x_nm (fun U16 hU16 => ?_)
              have e17 := up_f hU16
              refine rg_i (by omega) ?_
              refine hK 7 [some (vR 104 0), some (vI d), some (vI (k + 1)), some (vR 102 k)] [] U16 ?_
              refine j_drq [some (vR 104 0), some (vI d), some (vI (k + 1)), none] (drq_s (drq_s (drq_s (drq_n drq_0)))) ?_
              have e18 : U16 104 0 3 = (T1 104 0 3) + 1 := up_f hU16
              refine ih_7 _ ?_ (k + 1) U16 (Nat.le_refl _) ?_ ?_ ?_ ?_
              · have hm_7 := hm_7 (); omega
              · exact fr_u (fr_u (fr_t (fr_0 _ _) (fr_s hf_7 rfl)) hU12 rfl) hU16 rfl
              · omega
              · have y1 : U16 104 0 3 = T1 104 0 3 + 1 := by have := up_f hU16; omega
                have y2 : ∀ j, U16 482 0 j = U12 482 0 j := fun j => up_k hU16 (by exact Nat.ne_of_beq_eq_false rfl) _ _
                rw [y1, show (U16 482 0) = (U12 482 0) from funext y2]
                have z1 : T1 102 k 6 = T 102 k 6 := hf_7 102 k 6 rfl
                have z2 : T1 102 k 5 = T 102 k 5 := hf_7 102 k 5 rfl
                have z3 : T1 102 k 10 = T 102 k 10 := hf_7 102 k 10 rfl
                have z4 : T1 103 k 3 = T 103 k 3 := hf_7 103 k 3 rfl
                exact LS_u ls1 (up_f hU12) (fun j hj => up_g hU12 (fun q => by omega)) (by omega)
              · have z1 : T1 102 k 6 = T 102 k 6 := hf_7 102 k 6 rfl
                have z2 : T1 102 k 5 = T 102 k 5 := hf_7 102 k 5 rfl
                have z3 : T1 102 k 10 = T 102 k 10 := hf_7 102 k 10 rfl
                have z4 : T1 103 k 3 = T 103 k 3 := hf_7 103 k 3 rfl
                rw [dl_t (by omega) (show LDh_ T d k by unfold LDh_; omega)]
                refine ⟨by show U16 104 0 3 = (dl9_ (LDh_ T d) k.toNat).1 + 1; omega, fun j a b => ?_⟩
                show U16 482 0 j = fu_ (dl9_ (LDh_ T d) k.toNat).2 (dl9_ (LDh_ T d) k.toNat).1 k j
                by_cases z : j = (dl9_ (LDh_ T d) k.toNat).1
                · rw [z, fu_s, ← le1.1]
                  exact (up_k hU16 (by exact Nat.ne_of_beq_eq_false rfl) 0 (T1 104 0 3)).trans (up_f hU12)
                · rw [fu_n z, ← le1.2 j a (by omega)]
                  exact (up_k hU16 (by exact Nat.ne_of_beq_eq_false rfl) 0 j).trans (up_g hU12 (fun q => z (by omega)))
  refine j_blx (F := fX4) tb_X4 (nn_ _) bk_X4_listMatches_g_0 bs_X4_listMatches_g_0 hz (fun K hK => ?_)
  refine bd_i (by omega) ?_
  refine x_nm (fun U19 hU19 => ?_)
  have e20 := up_f hU19
  refine hK 7 [some (vR 104 0), some (vI d), some (vI 0), none] [] U19 ?_
  have e21 : U19 104 0 3 = 0 := up_f hU19
  refine c_7 _ 0 U19 (Nat.le_refl _) ?_ ?_ ?_ ?_
  · exact fr_u (fr_0 _ _) hU19 rfl
  · omega
  · exact ⟨fun j a b => by have := up_f hU19; omega, fun a b x y z => by have := up_f hU19; omega⟩
  · exact ⟨by show _ = (0 : Int); omega, fun j a b => by omega⟩
theorem bk_X4_weighAll_g_82 : ck_ fX4 none cX4_weighAll 82 [.iload 5, .iload 1, .if_icmp .ge 115, .aload 0, .tableswitch 0 4 4 #[], .iload 3, .iload 1, .imul, .iload 5, .iadd, .aload 0, .aload 4, .iload 3, .iload 5, .iload 1] 105 = true := qck_r (nn_ _) (by decide +kernel)
theorem bs_X4_weighAll_g_82 {P : Zt → Option Zv → Prop} (K : Int → Zl → List Zv → Zt → Prop) : sx_ K P [.iload 5, .iload 1, .if_icmp .ge 115, .aload 0, .tableswitch 0 4 4 #[], .iload 3, .iload 1, .imul, .iload 5, .iadd, .aload 0, .aload 4, .iload 3, .iload 5, .iload 1] 105 = x_iload 5 (x_iload 1 (x_if_icmp .ge 115 K (x_aload 0 (x_g3 104 190 4 (x_iload 3 (x_iload 1 (x_imul (x_iload 5 (x_iadd (x_aload 0 (x_aload 4 (x_iload 3 (x_iload 5 (x_iload 1 (K 105))))))))))))))) := ((xe_iload 5).trans (congrArg (x_iload 5) ((xe_iload 1).trans (congrArg (x_iload 1) ((xe_if_icmp .ge 115).trans (congrArg (x_if_icmp .ge 115 K) ((xe_aload 0).trans (congrArg (x_aload 0) ((xe_g3 (kk := 104) rfl tl_4_4).trans (congrArg (x_g3 104 190 4) ((xe_iload 3).trans (congrArg (x_iload 3) ((xe_iload 1).trans (congrArg (x_iload 1) ((xe_imul).trans (congrArg (x_imul) ((xe_iload 5).trans (congrArg (x_iload 5) ((xe_iadd).trans (congrArg (x_iadd) ((xe_aload 0).trans (congrArg (x_aload 0) ((xe_aload 4).trans (congrArg (x_aload 4) ((xe_iload 3).trans (congrArg (x_iload 3) ((xe_iload 5).trans (congrArg (x_iload 5) ((xe_iload 1).trans (congrArg (x_iload 1) xe_nil))))))))))))))))))))))))))))))
theorem bk_X4_weighAll_g_115 : ck_ fX4 none cX4_weighAll 115 [.iinc 3 (-1), .goto 59] 121 = true := qck_r (nn_ _) (by decide +kernel)
theorem bs_X4_weighAll_g_115 {P : Zt → Option Zv → Prop} (K : Int → Zl → List Zv → Zt → Prop) : sx_ K P [.iinc 3 (-1), .goto 59] 121 = x_iinc 3 (-1) (x_goto 59 K) := ((xe_iinc 3 (-1)).trans (congrArg (x_iinc 3 (-1)) (xe_goto 59)))
theorem bk_X4_weighAll_g_108 : ck_ fX4 none cX4_weighAll 108 [.iastore, .iinc 5 1, .goto 82] 115 = true := qck_r (nn_ _) (by decide +kernel)
theorem bs_X4_weighAll_g_108 {P : Zt → Option Zv → Prop} (K : Int → Zl → List Zv → Zt → Prop) : sx_ K P [.iastore, .iinc 5 1, .goto 82] 115 = x_iastore (x_iinc 5 1 (x_goto 82 K)) := ((xe_iastore).trans (congrArg (x_iastore) ((xe_iinc 5 1).trans (congrArg (x_iinc 5 1) (xe_goto 82)))))
theorem bk_X4_weighAll_g_59 : ck_ fX4 none cX4_weighAll 59 [.iload 3, .ifCond .lt 121, .aload 0, .tableswitch 0 4 0 #[], .tableswitch 0 6 3 #[], .aload 0, .tableswitch 0 4 2 #[], .iload 3, .iaload, .aaload, .astore 4, .iconst 0, .istore 5] 82 = true := qck_r (nn_ _) (by decide +kernel)
theorem bs_X4_weighAll_g_59 {P : Zt → Option Zv → Prop} (K : Int → Zl → List Zv → Zt → Prop) : sx_ K P [.iload 3, .ifCond .lt 121, .aload 0, .tableswitch 0 4 0 #[], .tableswitch 0 6 3 #[], .aload 0, .tableswitch 0 4 2 #[], .iload 3, .iaload, .aaload, .astore 4, .iconst 0, .istore 5] 82 = x_iload 3 (x_ifCond .lt 121 K (x_aload 0 (x_g1 104 106 (x_g1 106 523 (x_aload 0 (x_g1 104 482 (x_iload 3 (x_iaload (x_aaload (x_astore 4 (x_iconst 0 (x_istore 5 (K 82))))))))))))) := ((xe_iload 3).trans (congrArg (x_iload 3) ((xe_ifCond .lt 121).trans (congrArg (x_ifCond .lt 121 K) ((xe_aload 0).trans (congrArg (x_aload 0) ((xe_g1 (kk := 104) rfl tl_4_0).trans (congrArg (x_g1 104 106) ((xe_g1 (kk := 106) rfl tl_6_3).trans (congrArg (x_g1 106 523) ((xe_aload 0).trans (congrArg (x_aload 0) ((xe_g1 (kk := 104) rfl tl_4_2).trans (congrArg (x_g1 104 482) ((xe_iload 3).trans (congrArg (x_iload 3) ((xe_iaload).trans (congrArg (x_iaload) ((xe_aaload).trans (congrArg (x_aaload) ((xe_astore 4).trans (congrArg (x_astore 4) ((xe_iconst 0).trans (congrArg (x_iconst 0) ((xe_istore 5).trans (congrArg (x_istore 5) xe_nil))))))))))))))))))))))))))
theorem bk_X4_weighAll_g_121 : ck_ fX4 none cX4_weighAll 121 [.return_] 122 = true := qck_r (nn_ _) (by decide +kernel)
theorem bs_X4_weighAll_g_121 {P : Zt → Option Zv → Prop} (K : Int → Zl → List Zv → Zt → Prop) : sx_ K P [.return_] 122 = x_return_ P := (xe_return_)
theorem bk_X4_weighAll_g_27 : ck_ fX4 none cX4_weighAll 27 [.iload 3, .iload 1, .if_icmp .ge 52, .aload 0, .tableswitch 0 4 4 #[], .aload 0, .tableswitch 0 4 3 #[], .iload 1, .imul, .iload 3, .iadd, .iconst 0, .iastore, .iinc 3 1, .goto 27] 52 = true := qck_r (nn_ _) (by decide +kernel)
theorem bs_X4_weighAll_g_27 {P : Zt → Option Zv → Prop} (K : Int → Zl → List Zv → Zt → Prop) : sx_ K P [.iload 3, .iload 1, .if_icmp .ge 52, .aload 0, .tableswitch 0 4 4 #[], .aload 0, .tableswitch 0 4 3 #[], .iload 1, .imul, .iload 3, .iadd, .iconst 0, .iastore, .iinc 3 1, .goto 27] 52 = x_iload 3 (x_iload 1 (x_if_icmp .ge 52 K (x_aload 0 (x_g3 104 190 4 (x_aload 0 (x_g0 104 3 0 400 (x_iload 1 (x_imul (x_iload 3 (x_iadd (x_iconst 0 (x_iastore (x_iinc 3 1 (x_goto 27 K)))))))))))))) := ((xe_iload 3).trans (congrArg (x_iload 3) ((xe_iload 1).trans (congrArg (x_iload 1) ((xe_if_icmp .ge 52).trans (congrArg (x_if_icmp .ge 52 K) ((xe_aload 0).trans (congrArg (x_aload 0) ((xe_g3 (kk := 104) rfl tl_4_4).trans (congrArg (x_g3 104 190 4) ((xe_aload 0).trans (congrArg (x_aload 0) ((xe_g0 (kk := 104) rfl tl_4_3).trans (congrArg (x_g0 104 3 0 400) ((xe_iload 1).trans (congrArg (x_iload 1) ((xe_imul).trans (congrArg (x_imul) ((xe_iload 3).trans (congrArg (x_iload 3) ((xe_iadd).trans (congrArg (x_iadd) ((xe_iconst 0).trans (congrArg (x_iconst 0) ((xe_iastore).trans (congrArg (x_iastore) ((xe_iinc 3 1).trans (congrArg (x_iinc 3 1) (xe_goto 27)))))))))))))))))))))))))))))
theorem bk_X4_weighAll_g_52 : ck_ fX4 none cX4_weighAll 52 [.aload 0, .tableswitch 0 4 3 #[], .iconst 1, .isub, .istore 3] 59 = true := qck_r (nn_ _) (by decide +kernel)
theorem bs_X4_weighAll_g_52 {P : Zt → Option Zv → Prop} (K : Int → Zl → List Zv → Zt → Prop) : sx_ K P [.aload 0, .tableswitch 0 4 3 #[], .iconst 1, .isub, .istore 3] 59 = x_aload 0 (x_g0 104 3 0 400 (x_iconst 1 (x_isub (x_istore 3 (K 59))))) := ((xe_aload 0).trans (congrArg (x_aload 0) ((xe_g0 (kk := 104) rfl tl_4_3).trans (congrArg (x_g0 104 3 0 400) ((xe_iconst 1).trans (congrArg (x_iconst 1) ((xe_isub).trans (congrArg (x_isub) ((xe_istore 3).trans (congrArg (x_istore 3) xe_nil))))))))))
theorem bk_X4_weighAll_g_0 : ck_ fX4 none cX4_weighAll 0 [.aload 0, .tableswitch 0 4 3 #[], .iconst 1, .iadd, .iload 1, .imul, .istore 2, .aload 0, .tableswitch 0 4 4 #[], .arraylength, .iload 2, .if_icmp .ge 25, .aload 0, .iload 2] 20 = true := qck_r (nn_ _) (by decide +kernel)
theorem bs_X4_weighAll_g_0 {P : Zt → Option Zv → Prop} (K : Int → Zl → List Zv → Zt → Prop) : sx_ K P [.aload 0, .tableswitch 0 4 3 #[], .iconst 1, .iadd, .iload 1, .imul, .istore 2, .aload 0, .tableswitch 0 4 4 #[], .arraylength, .iload 2, .if_icmp .ge 25, .aload 0, .iload 2] 20 = x_aload 0 (x_g0 104 3 0 400 (x_iconst 1 (x_iadd (x_iload 1 (x_imul (x_istore 2 (x_aload 0 (x_g3 104 190 4 (x_arraylength (x_iload 2 (x_if_icmp .ge 25 K (x_aload 0 (x_iload 2 (K 20)))))))))))))) := ((xe_aload 0).trans (congrArg (x_aload 0) ((xe_g0 (kk := 104) rfl tl_4_3).trans (congrArg (x_g0 104 3 0 400) ((xe_iconst 1).trans (congrArg (x_iconst 1) ((xe_iadd).trans (congrArg (x_iadd) ((xe_iload 1).trans (congrArg (x_iload 1) ((xe_imul).trans (congrArg (x_imul) ((xe_istore 2).trans (congrArg (x_istore 2) ((xe_aload 0).trans (congrArg (x_aload 0) ((xe_g3 (kk := 104) rfl tl_4_4).trans (congrArg (x_g3 104 190 4) ((xe_arraylength).trans (congrArg (x_arraylength) ((xe_iload 2).trans (congrArg (x_iload 2) ((xe_if_icmp .ge 25).trans (congrArg (x_if_icmp .ge 25 K) ((xe_aload 0).trans (congrArg (x_aload 0) ((xe_iload 2).trans (congrArg (x_iload 2) xe_nil))))))))))))))))))))))))))))
theorem bk_X4_weighAll_g_25 : ck_ fX4 none cX4_weighAll 25 [.iconst 0, .istore 3] 27 = true := qck_r (nn_ _) (by decide +kernel)
theorem bs_X4_weighAll_g_25 {P : Zt → Option Zv → Prop} (K : Int → Zl → List Zv → Zt → Prop) : sx_ K P [.iconst 0, .istore 3] 27 = x_iconst 0 (x_istore 3 (K 27)) := ((xe_iconst 0).trans (congrArg (x_iconst 0) ((xe_istore 3).trans (congrArg (x_istore 3) xe_nil))))
abbrev po_X4_weighAll_g (T : Zt) (e : Int) : Zt → Option Zv → Prop := fun T' r => r = none ∧ fr_ [(104, [4]), (190, []), (191, [0])] T T' ∧ ((T 104 0 3 + 1) * e ≤ T' 190 (T' 104 0 4) (-2) ∧ BWq_ T T' e (-1) ∧ KPA_ T T' ∧ lh_ T T' ∧ T' 191 0 0 ≤ T 191 0 0 + 1)
set_option maxHeartbeats 4000000 in
theorem ct_X4_weighAll_g {T : Zt} {e : Int} (hka : KA_ T) (hs : 0 ≤ T 104 0 3 ∧ T 104 0 3 ≤ 48) (hO : OS_ (T 108 0 12) e) (hv : ∀ j, 0 ≤ j → j < T 104 0 3 → 0 ≤ T 482 0 j ∧ T 482 0 j < T 106 0 4) (h9 : 0 ≤ T 191 0 0 ∧ T 191 0 0 ≤ 900000000) : Ct_ yX4_weighAll zX4_weighAll T [vR 104 0, vI e] (po_X4_weighAll_g T e) := by
  refine ct_of pn_4 rfl rfl (Nat.le_of_ble_eq_true rfl) (fun hT hav => ?_)
  have hr_e : -2147483648 ≤ e ∧ e ≤ 2147483647 := hav (vI e) (List.mem_cons_of_mem _ List.mem_cons_self)
  have hz : zX4_weighAll.2.2.2.1 = some .boolean → ∀ (T' : Zt) (x : Int), po_X4_weighAll_g T e T' (some (vI x)) → 0 ≤ x ∧ x ≤ 1 := fun h => by cases h
  have hb_matchCount : 0 ≤ T 106 0 4 ∧ T 106 0 4 ≤ 400 := bd_f hT 106 4 tl_6_4 0
  have hb_officials : 0 ≤ T 108 0 12 ∧ T 108 0 12 ≤ 8 := bd_f hT 108 12 tl_8_12 0
  have hE := hO.1
  have hm := mlb (a := T 104 0 3 + 1) (b := e) (A := 49) (B := 256) (by omega) (by omega)
  have hm1 := mlb (a := T 104 0 3) (b := e) (A := 48) (B := 256) (by omega) (by omega)
  have x1 := k1e (T 104 0 3) e
  have hbx := bx_4 hT (ok_al (v := none) (by decide) (hav (vR 104 0) (by simp)))
  show J_ zX4_weighAll T (po_X4_weighAll_g T e) 1 12544 0 [some (vR 104 0), some (vI e), none, none, none, none] [] T
  have c_59 : ∀ (nn : Nat) (k : Int) (T2 : Zt), ((k + 1).toNat) ≤ nn → (fr_ [(104, [4]), (190, []), (191, [0])] T T2) → (-1 ≤ k ∧ k < T 104 0 3) → ((T 104 0 3 + 1) * e ≤ T2 190 (T2 104 0 4) (-2)) → (lh_ T T2 ∧ T2 191 0 0 ≤ T 191 0 0 + 1) → (KPA_ T T2) → (BWq_ T T2 e k) → J_ zX4_weighAll T (po_X4_weighAll_g T e) 0 0 59 [some (vR 104 0), some (vI e), some (vI ((T 104 0 3 + 1) * e)), some (vI k), none, none] [] T2 := by
    intro nn
    induction nn using Nat.strongRecOn with
    | _ nn ih_59 =>
      intro k T2 hm_59 hf_59 i2 l2 h2 k2 b2
      replace hm_59 := fun (_ : Unit) => hm_59
      have c_82 : ∀ (nn : Nat) (j : Int) (T3 : Zt), ((256 - j).toNat) ≤ nn → (fr_ [(104, [4]), (190, []), (191, [0])] T T3) → (0 ≤ j ∧ j ≤ e ∧ 0 ≤ k) → ((T 104 0 3 + 1) * e ≤ T3 190 (T3 104 0 4) (-2)) → (lh_ T T3 ∧ T3 191 0 0 ≤ T 191 0 0 + 1) → (KPA_ T T3) → (BWq_ T T3 e k) → (BRq_ T T3 e k j) → J_ zX4_weighAll T (po_X4_weighAll_g T e) 0 0 82 [some (vR 104 0), some (vI e), some (vI ((T 104 0 3 + 1) * e)), some (vI k), some (vR 102 (T 482 0 k)), some (vI j)] [] T3 := by
        intro nn
        induction nn using Nat.strongRecOn with
        | _ nn ih_82 =>
          intro j T3 hm_82 hf_82 i3 l3 h3 k3 b3 r3
          replace hm_82 := fun (_ : Unit) => hm_82
          have y4 := hv k (by omega) (by omega)
          have hm3 := mlb (a := k) (b := e) (A := 48) (B := 256) (by omega) (by omega)
          have x3 := k1e k e
          have x4 := k2e k e
          have y5 := kse (k := k) (s := T 104 0 3) (e := e) (by omega) (by omega)
          refine j_blx (F := fX4) tb_X4 (nn_ _) bk_X4_weighAll_g_82 bs_X4_weighAll_g_82 hz (fun K hK => ?_)
          refine And.intro (fun c1 => ?_) (fun c1 => ?_)
          · refine hK 115 _ [] T3 ?_
            refine j_blx (F := fX4) tb_X4 (nn_ _) bk_X4_weighAll_g_115 bs_X4_weighAll_g_115 hz (fun K hK => ?_)
            refine rg_i (by omega) ?_
            refine hK 59 [some (vR 104 0), some (vI e), some (vI ((T 104 0 3 + 1) * e)), some (vI (k + (-1))), some (vR 102 (T 482 0 k)), some (vI j)] [] T3 ?_
            refine j_drq [some (vR 104 0), some (vI e), some (vI ((T 104 0 3 + 1) * e)), some (vI (k + (-1))), none, none] (drq_s (drq_s (drq_s (drq_s (drq_n (drq_n drq_0)))))) ?_
            refine j_mono (bc' := 0) (bs' := 0) (by omega) (by omega) ?_
            refine ih_59 _ ?_ (k + (-1)) T3 (Nat.le_refl _) ?_ ?_ ?_ ?_ ?_ ?_
            · have hm_59 := hm_59 (); omega
            · exact fr_t (fr_0 _ _) (fr_s hf_82 rfl)
            · omega
            · exact l3
            · exact h3
            · exact k3
            · rw [show j = e by omega] at r3
              exact bq_n b3 r3
          · refine rg_i (by omega) ?_
            refine rg_i (by omega) ?_
            refine hK 105 [some (vR 104 0), some (vI e), some (vI ((T 104 0 3 + 1) * e)), some (vI k), some (vR 102 (T 482 0 k)), some (vI j)] [vI e, vI j, vI k, vR 102 (T 482 0 k), vR 104 0, vI ((k * e) + j), vR 190 (T3 104 0 4)] T3 ?_
            have e3 : T3 108 0 12 = T 108 0 12 := hf_82 108 0 12 rfl
            have y5 := kse (k := k) (s := T 104 0 3) (e := e) (by omega) (by omega)
            have hwg := wg_q (T := T) (U := T3) (e := e) (k := k) (j := j) (by omega) hO (by omega) (by omega) b3 (fun w => (fun p9 w9 => dh8_e (fun k9 j9 q9 => by rcases q9 with rfl | rfl | rfl | rfl; exact hf_82 560 0 j9 rfl; exact hf_82 561 0 j9 rfl; exact hf_82 570 0 j9 rfl; exact hf_82 571 0 j9 rfl) (hf_82 102 p9 3 rfl) (hf_82 102 p9 4 rfl)) (T 482 0 k) w)
            have hwb := bq_b (T := T) (U := T3) (e := e) (k := k) hT (by omega) (by omega) b3 (by omega)
            refine j_callV (y := yX4_weigh) (Yc := zX4_weigh) (rest := [vI ((k * e) + j), vR 190 (T3 104 0 4)]) [vR 102 (T 482 0 k), vI k, vI j, vI e] (ct_X4_weigh_e (T := T3) (by omega) (by omega) (by rw [e3]; exact hO) (by omega) (by exact hwb)) cl_X4_67 (qd_c (by decide +kernel)) (nn_ _) rfl (rf_of rfl) (Nat.le_of_ble_eq_true rfl) (Nat.le_of_ble_eq_true rfl) (Nat.le_of_ble_eq_true rfl) rfl ?_
            rintro _ _ ⟨rfl, x4, rfl, hx4⟩
            show J_ zX4_weighAll T (po_X4_weighAll_g T e) 0 0 108 _ [vI x4, vI ((k * e) + j), vR 190 (T3 104 0 4)] T3
            have hwx := hx4
            rw [show T3 108 0 12 = T 108 0 12 from hf_82 108 0 12 rfl] at hwx
            have hwr := bw_m (d := dhl_ T) (A := ahl_ T) (n := T 108 0 12) (e := T 104 0 3) (by omega) (j := (T 104 0 3 - k).toNat) (s := j) (by omega) (fun i o _ _ p q => dh8_b (p := T 482 0 i) hT ⟨p, by omega⟩)
            rw [← hwx.trans hwg] at hwr
            refine j_blx (F := fX4) tb_X4 (nn_ _) bk_X4_weighAll_g_108 bs_X4_weighAll_g_108 hz (fun K hK => ?_)
            refine iy_i (by omega) (by omega) ?_
            refine x_nm (fun U5 hU5 => ?_)
            have e6 := up_f hU5
            refine rg_i (by omega) ?_
            refine hK 82 [some (vR 104 0), some (vI e), some (vI ((T 104 0 3 + 1) * e)), some (vI k), some (vR 102 (T 482 0 k)), some (vI (j + 1))] [] U5 ?_
            refine j_mono (bc' := 0) (bs' := 0) (by omega) (by omega) ?_
            have e7 : U5 104 0 4 = T3 104 0 4 := up_k hU5 (by exact Nat.ne_of_beq_eq_false rfl) 0 4
            have e8 : U5 191 0 0 = T3 191 0 0 := up_k hU5 (by exact Nat.ne_of_beq_eq_false rfl) 0 0
            refine ih_82 _ ?_ (j + 1) U5 (Nat.le_refl _) ?_ ?_ ?_ ?_ ?_ ?_ ?_
            · have hm_82 := hm_82 (); omega
            · exact fr_u (fr_t (fr_0 _ _) (fr_s hf_82 rfl)) hU5 rfl
            · omega
            · have y1 : U5 104 0 4 = T3 104 0 4 := up_k hU5 (by exact Nat.ne_of_beq_eq_false rfl) _ _
              have y2 : ∀ x, U5 190 x (-2) = T3 190 x (-2) := fun x => up_g hU5 (fun z => by omega)
              rw [y2, y1]; exact l3
            · have y1 : U5 104 0 4 = T3 104 0 4 := up_k hU5 (by exact Nat.ne_of_beq_eq_false rfl) _ _
              have y2 : ∀ x, U5 190 x (-2) = T3 190 x (-2) := fun x => up_g hU5 (fun z => by omega)
              have y3 : U5 191 0 0 = T3 191 0 0 := up_k hU5 (by exact Nat.ne_of_beq_eq_false rfl) _ _
              exact ⟨lh_t h3.1 ⟨fun x _ => y2 x, by omega⟩, by have := h3.2; omega⟩
            · exact ⟨fun x j hx hn => (up_g hU5 (fun z => by have y9 := k3.2; have y8 := z.2.1; omega)).trans (k3.1 x j hx hn), by have y1 : U5 104 0 4 = T3 104 0 4 := up_k hU5 (by exact Nat.ne_of_beq_eq_false rfl) _ _; have y3 : U5 191 0 0 = T3 191 0 0 := up_k hU5 (by exact Nat.ne_of_beq_eq_false rfl) _ _; have y9 := k3.2; omega⟩
            · exact bq_u hU5 (by omega) (by omega) b3
            · exact brq_u hU5 r3 (hwx.trans hwg)
      refine j_blx (F := fX4) tb_X4 (nn_ _) bk_X4_weighAll_g_59 bs_X4_weighAll_g_59 hz (fun K hK => ?_)
      refine And.intro (fun c9 => ?_) (fun c9 => ?_)
      · refine hK 121 _ [] T2 ?_
        refine j_blx (F := fX4) tb_X4 (nn_ _) bk_X4_weighAll_g_121 bs_X4_weighAll_g_121 hz (fun K hK => ?_)
        refine (show po_X4_weighAll_g T e T2 (none) from ?_)
        have ek : k = -1 := by omega
        rw [ek] at b2
        exact ⟨rfl, hf_59, l2, b2, k2, h2⟩
      · refine ix_i (by omega) ?_
        intro b10 b10b
        have e11 : T2 482 0 k = T 482 0 k := hf_59 482 0 k rfl
        rw [e11] at b10 b10b ⊢
        refine ix_i (by omega) ?_
        have e13 : T2 523 0 (T 482 0 k) = T 523 0 (T 482 0 k) := hf_59 523 0 (T 482 0 k) rfl
        refine And.intro (fun c12 => ?_) (fun c12 => ?_)
        · exact absurd (show T 523 0 (T 482 0 k) = 0 by omega) (hka.2 _ (hv k (by omega) (by omega)).1 (hv k (by omega) (by omega)).2)
        · refine hK 82 [some (vR 104 0), some (vI e), some (vI ((T 104 0 3 + 1) * e)), some (vI k), some (vR 102 (T 482 0 k)), some (vI 0)] [] T2 ?_
          refine j_mono (bc' := 0) (bs' := 0) (by omega) (by omega) ?_
          refine c_82 _ 0 T2 (Nat.le_refl _) ?_ ?_ ?_ ?_ ?_ ?_ ?_
          · exact fr_t (fr_0 _ _) (fr_s hf_59 rfl)
          · omega
          · exact l2
          · exact h2
          · exact k2
          · exact b2
          · intro s9 a9 b9; omega
  have c_27 : ∀ (nn : Nat) (j : Int) (T1 : Zt), ((256 - j).toNat) ≤ nn → (fr_ [(104, [4]), (190, []), (191, [0])] T T1) → (0 ≤ j ∧ j ≤ e) → ((T 104 0 3 + 1) * e ≤ T1 190 (T1 104 0 4) (-2)) → (lh_ T T1 ∧ T1 191 0 0 ≤ T 191 0 0 + 1) → (KPA_ T T1) → (∀ s, 0 ≤ s → s < j → T1 190 (T1 104 0 4) (T 104 0 3 * e + s) = 0) → J_ zX4_weighAll T (po_X4_weighAll_g T e) 0 0 27 [some (vR 104 0), some (vI e), some (vI ((T 104 0 3 + 1) * e)), some (vI j), none, none] [] T1 := by
    intro nn
    induction nn using Nat.strongRecOn with
    | _ nn ih_27 =>
      intro j T1 hm_27 hf_27 i1 l1 h1 k1 zz1
      replace hm_27 := fun (_ : Unit) => hm_27
      refine j_blx (F := fX4) tb_X4 (nn_ _) bk_X4_weighAll_g_27 bs_X4_weighAll_g_27 hz (fun K hK => ?_)
      refine And.intro (fun c14 => ?_) (fun c14 => ?_)
      · refine hK 52 _ [] T1 ?_
        refine j_blx (F := fX4) tb_X4 (nn_ _) bk_X4_weighAll_g_52 bs_X4_weighAll_g_52 hz (fun K hK => ?_)
        intro b15 b15b
        have e16 : T1 104 0 3 = T 104 0 3 := hf_27 104 0 3 rfl
        rw [e16] at b15 b15b ⊢
        refine rg_i (by omega) ?_
        refine hK 59 [some (vR 104 0), some (vI e), some (vI ((T 104 0 3 + 1) * e)), some (vI ((T 104 0 3) - 1)), none, none] [] T1 ?_
        refine j_mono (bc' := 0) (bs' := 0) (by omega) (by omega) ?_
        refine c_59 _ ((T 104 0 3) - 1) T1 (Nat.le_refl _) ?_ ?_ ?_ ?_ ?_ ?_
        · exact fr_t (fr_0 _ _) (fr_s hf_27 rfl)
        · omega
        · exact l1
        · exact h1
        · exact k1
        · exact bq_z (fun s9 a9 b9 => zz1 s9 a9 (by omega))
      · intro b18 b18b
        have e19 : T1 104 0 3 = T 104 0 3 := hf_27 104 0 3 rfl
        rw [e19] at b18 b18b ⊢
        refine rg_i (by omega) ?_
        refine rg_i (by omega) ?_
        refine iy_i (by omega) (by omega) ?_
        refine x_nm (fun U20 hU20 => ?_)
        have e21 := up_f hU20
        refine rg_i (by omega) ?_
        refine hK 27 [some (vR 104 0), some (vI e), some (vI ((T 104 0 3 + 1) * e)), some (vI (j + 1)), none, none] [] U20 ?_
        refine j_mono (bc' := 0) (bs' := 0) (by omega) (by omega) ?_
        have e22 : U20 104 0 4 = T1 104 0 4 := up_k hU20 (by exact Nat.ne_of_beq_eq_false rfl) 0 4
        have e23 : U20 191 0 0 = T1 191 0 0 := up_k hU20 (by exact Nat.ne_of_beq_eq_false rfl) 0 0
        refine ih_27 _ ?_ (j + 1) U20 (Nat.le_refl _) ?_ ?_ ?_ ?_ ?_ ?_
        · have hm_27 := hm_27 (); omega
        · exact fr_u (fr_t (fr_0 _ _) (fr_s hf_27 rfl)) hU20 rfl
        · omega
        · have y1 : U20 104 0 4 = T1 104 0 4 := up_k hU20 (by exact Nat.ne_of_beq_eq_false rfl) _ _
          have y2 : ∀ x, U20 190 x (-2) = T1 190 x (-2) := fun x => up_g hU20 (fun z => by omega)
          rw [y2, y1]; exact l1
        · have y1 : U20 104 0 4 = T1 104 0 4 := up_k hU20 (by exact Nat.ne_of_beq_eq_false rfl) _ _
          have y2 : ∀ x, U20 190 x (-2) = T1 190 x (-2) := fun x => up_g hU20 (fun z => by omega)
          have y3 : U20 191 0 0 = T1 191 0 0 := up_k hU20 (by exact Nat.ne_of_beq_eq_false rfl) _ _
          exact ⟨lh_t h1.1 ⟨fun x _ => y2 x, by omega⟩, by have := h1.2; omega⟩
        · exact ⟨fun x j hx hn => (up_g hU20 (fun z => by have y9 := k1.2; have y8 := z.2.1; omega)).trans (k1.1 x j hx hn), by have y1 : U20 104 0 4 = T1 104 0 4 := up_k hU20 (by exact Nat.ne_of_beq_eq_false rfl) _ _; have y3 : U20 191 0 0 = T1 191 0 0 := up_k hU20 (by exact Nat.ne_of_beq_eq_false rfl) _ _; have y9 := k1.2; omega⟩
        · intro s9 a9 b9
          rw [show U20 104 0 4 = T1 104 0 4 from up_k hU20 (by exact Nat.ne_of_beq_eq_false rfl) _ _]
          by_cases z : s9 = j
          · rw [z]; exact up_f hU20
          · rw [up_g hU20 (fun q => z (by have w := q.2.2; omega))]; exact zz1 s9 a9 (by omega)
  refine j_blx (F := fX4) tb_X4 (nn_ _) bk_X4_weighAll_g_0 bs_X4_weighAll_g_0 hz (fun K hK => ?_)
  intro b24 b24b
  refine rg_i (by omega) ?_
  refine rg_i (by omega) ?_
  intro b26 b26b
  refine And.intro (fun c27 => ?_) (fun c27 => ?_)
  · refine hK 25 [some (vR 104 0), some (vI e), some (vI (((T 104 0 3) + 1) * e)), none, none, none] [] T ?_
    refine j_blx (F := fX4) tb_X4 (nn_ _) bk_X4_weighAll_g_25 bs_X4_weighAll_g_25 hz (fun K hK => ?_)
    refine hK 27 [some (vR 104 0), some (vI e), some (vI (((T 104 0 3) + 1) * e)), some (vI 0), none, none] [] T ?_
    refine j_mono (bc' := 0) (bs' := 0) (by omega) (by omega) ?_
    refine c_27 _ 0 T (Nat.le_refl _) ?_ ?_ ?_ ?_ ?_ ?_
    · exact fr_0 _ _
    · omega
    · omega
    · exact ⟨lh_r, by omega⟩
    · exact kpa_r
    · intro s9 a9 b9; omega
  · refine hK 20 [some (vR 104 0), some (vI e), some (vI (((T 104 0 3) + 1) * e)), none, none, none] [vI (((T 104 0 3) + 1) * e), vR 104 0] T ?_
    refine j_newL (bc' := 0) (bs' := 0) (pc := 20) (by decide) (by omega) (by omega) (by omega) (by decide +kernel) (lwq_1 (dqc_m (dqc_m (dqa_m (List.mem_of_getElem? (i := 0) rfl)))) rfl : Cond.arrayClass .int ∈ lw_g) ?_
    refine j_nm (fun U28 hU28 => ?_)
    have fU28 := nv_fr hU28
    have aU28 := nv_t9 hU28
    have lU28 := nv_tl hU28
    have oU28 := nv_to hU28
    show J_ zX4_weighAll T (po_X4_weighAll_g T e) 0 0 22 _ [vR 190 (T 191 0 0), vR 104 0] U28
    refine j_putV (pc := 22) (ci := 4) (j := 4) (z := T 191 0 0) (by decide) fr5_X4_15 tl_4_4 (by decide +kernel) rfl (by omega) (by omega) ?_
    refine j_nm (fun U29 hU29 => ?_)
    have e30 := up_f hU29
    show J_ zX4_weighAll T (po_X4_weighAll_g T e) 0 0 25 _ [] U29
    refine j_blx (F := fX4) tb_X4 (nn_ _) bk_X4_weighAll_g_25 bs_X4_weighAll_g_25 hz (fun K hK => ?_)
    refine hK 27 [some (vR 104 0), some (vI e), some (vI (((T 104 0 3) + 1) * e)), some (vI 0), none, none] [] U29 ?_
    refine j_mono (bc' := 0) (bs' := 0) (by omega) (by omega) ?_
    have e31 : U29 104 0 4 = T 191 0 0 := up_f hU29
    have e32 : U29 191 0 0 = U28 191 0 0 := up_k hU29 (by exact Nat.ne_of_beq_eq_false rfl) 0 0
    refine c_27 _ 0 U29 (Nat.le_refl _) ?_ ?_ ?_ ?_ ?_ ?_
    · exact fr_u (fr_t (fr_0 _ _) (fr_s fU28 rfl)) hU29 rfl
    · omega
    · have y1 : U29 104 0 4 = T 191 0 0 := up_f hU29
      rw [y1, show U29 190 (T 191 0 0) (-2) = U28 190 (T 191 0 0) (-2) from up_k hU29 (by exact Nat.ne_of_beq_eq_false rfl) _ _, lU28]; omega
    · have y3 : U29 191 0 0 = U28 191 0 0 := up_k hU29 (by exact Nat.ne_of_beq_eq_false rfl) _ _
      exact ⟨⟨fun x hx => (up_k hU29 (by exact Nat.ne_of_beq_eq_false rfl) _ _).trans (oU28 x (-2) (by omega)), by omega⟩, by omega⟩
    · exact ⟨fun x j hx hn => (up_k hU29 (by exact Nat.ne_of_beq_eq_false rfl) _ _).trans (oU28 x j (by omega)), Or.inr ⟨up_f hU29, by have y3 : U29 191 0 0 = U28 191 0 0 := up_k hU29 (by exact Nat.ne_of_beq_eq_false rfl) _ _; omega⟩⟩
    · intro s9 a9 b9; omega
theorem bk_X4_share_g_28 : ck_ fX4 (some .int) cX4_share 28 [.iload 5, .aload 0, .tableswitch 0 4 3 #[], .if_icmp .ge 95, .aload 0, .tableswitch 0 4 0 #[], .tableswitch 0 6 3 #[], .aload 0, .tableswitch 0 4 2 #[], .iload 5, .iaload, .aaload, .astore 6, .aload 0, .aload 6, .iload 5, .iload 3, .iload 2] 61 = true := qck_r (nn_ _) (by decide +kernel)
theorem bs_X4_share_g_28 {P : Zt → Option Zv → Prop} (K : Int → Zl → List Zv → Zt → Prop) : sx_ K P [.iload 5, .aload 0, .tableswitch 0 4 3 #[], .if_icmp .ge 95, .aload 0, .tableswitch 0 4 0 #[], .tableswitch 0 6 3 #[], .aload 0, .tableswitch 0 4 2 #[], .iload 5, .iaload, .aaload, .astore 6, .aload 0, .aload 6, .iload 5, .iload 3, .iload 2] 61 = x_iload 5 (x_aload 0 (x_g0 104 3 0 400 (x_if_icmp .ge 95 K (x_aload 0 (x_g1 104 106 (x_g1 106 523 (x_aload 0 (x_g1 104 482 (x_iload 5 (x_iaload (x_aaload (x_astore 6 (x_aload 0 (x_aload 6 (x_iload 5 (x_iload 3 (x_iload 2 (K 61)))))))))))))))))) := ((xe_iload 5).trans (congrArg (x_iload 5) ((xe_aload 0).trans (congrArg (x_aload 0) ((xe_g0 (kk := 104) rfl tl_4_3).trans (congrArg (x_g0 104 3 0 400) ((xe_if_icmp .ge 95).trans (congrArg (x_if_icmp .ge 95 K) ((xe_aload 0).trans (congrArg (x_aload 0) ((xe_g1 (kk := 104) rfl tl_4_0).trans (congrArg (x_g1 104 106) ((xe_g1 (kk := 106) rfl tl_6_3).trans (congrArg (x_g1 106 523) ((xe_aload 0).trans (congrArg (x_aload 0) ((xe_g1 (kk := 104) rfl tl_4_2).trans (congrArg (x_g1 104 482) ((xe_iload 5).trans (congrArg (x_iload 5) ((xe_iaload).trans (congrArg (x_iaload) ((xe_aaload).trans (congrArg (x_aaload) ((xe_astore 6).trans (congrArg (x_astore 6) ((xe_aload 0).trans (congrArg (x_aload 0) ((xe_aload 6).trans (congrArg (x_aload 6) ((xe_iload 5).trans (congrArg (x_iload 5) ((xe_iload 3).trans (congrArg (x_iload 3) ((xe_iload 2).trans (congrArg (x_iload 2) xe_nil))))))))))))))))))))))))))))))))))))
theorem bk_X4_share_g_95 : ck_ fX4 (some .int) cX4_share 95 [.iload 4, .ireturn] 98 = true := qck_r (nn_ _) (by decide +kernel)
theorem bs_X4_share_g_95 {P : Zt → Option Zv → Prop} (K : Int → Zl → List Zv → Zt → Prop) : sx_ K P [.iload 4, .ireturn] 98 = x_iload 4 (x_ireturn P) := ((xe_iload 4).trans (congrArg (x_iload 4) (xe_ireturn)))
theorem bk_X4_share_g_64 : ck_ fX4 (some .int) cX4_share 64 [.istore 7, .aload 6, .iload 7, .tableswitch 1 2 7 #[], .iload 7, .iconst (-1), .if_icmp .eq 89, .iload 3, .iconst 1, .iload 7, .ishl, .ior, .istore 3, .iinc 4 1, .iinc 5 1, .goto 28] 95 = true := qck_r (nn_ _) (by decide +kernel)
theorem bs_X4_share_g_64 {P : Zt → Option Zv → Prop} (K : Int → Zl → List Zv → Zt → Prop) : sx_ K P [.istore 7, .aload 6, .iload 7, .tableswitch 1 2 7 #[], .iload 7, .iconst (-1), .if_icmp .eq 89, .iload 3, .iconst 1, .iload 7, .ishl, .ior, .istore 3, .iinc 4 1, .iinc 5 1, .goto 28] 95 = x_istore 7 (x_aload 6 (x_iload 7 (x_p 102 7 (-1) 7 (x_iload 7 (x_iconst (-1) (x_if_icmp .eq 89 K (x_iload 3 (x_iconst 1 (x_iload 7 (x_ishl (x_ior (x_istore 3 (x_iinc 4 1 (x_iinc 5 1 (x_goto 28 K))))))))))))))) := ((xe_istore 7).trans (congrArg (x_istore 7) ((xe_aload 6).trans (congrArg (x_aload 6) ((xe_iload 7).trans (congrArg (x_iload 7) ((xe_p (kk := 102) rfl tl_2_7).trans (congrArg (x_p 102 7 (-1) 7) ((xe_iload 7).trans (congrArg (x_iload 7) ((xe_iconst (-1)).trans (congrArg (x_iconst (-1)) ((xe_if_icmp .eq 89).trans (congrArg (x_if_icmp .eq 89 K) ((xe_iload 3).trans (congrArg (x_iload 3) ((xe_iconst 1).trans (congrArg (x_iconst 1) ((xe_iload 7).trans (congrArg (x_iload 7) ((xe_ishl).trans (congrArg (x_ishl) ((xe_ior).trans (congrArg (x_ior) ((xe_istore 3).trans (congrArg (x_istore 3) ((xe_iinc 4 1).trans (congrArg (x_iinc 4 1) ((xe_iinc 5 1).trans (congrArg (x_iinc 5 1) (xe_goto 28)))))))))))))))))))))))))))))))
theorem bk_X4_share_g_89 : ck_ fX4 (some .int) cX4_share 89 [.iinc 5 1, .goto 28] 95 = true := qck_r (nn_ _) (by decide +kernel)
theorem bs_X4_share_g_89 {P : Zt → Option Zv → Prop} (K : Int → Zl → List Zv → Zt → Prop) : sx_ K P [.iinc 5 1, .goto 28] 95 = x_iinc 5 1 (x_goto 28 K) := ((xe_iinc 5 1).trans (congrArg (x_iinc 5 1) (xe_goto 28)))
theorem bk_X4_share_g_0 : ck_ fX4 (some .int) cX4_share 0 [.aload 0, .iload 1] 2 = true := qck_r (nn_ _) (by decide +kernel)
theorem bs_X4_share_g_0 {P : Zt → Option Zv → Prop} (K : Int → Zl → List Zv → Zt → Prop) : sx_ K P [.aload 0, .iload 1] 2 = x_aload 0 (x_iload 1 (K 2)) := ((xe_aload 0).trans (congrArg (x_aload 0) ((xe_iload 1).trans (congrArg (x_iload 1) xe_nil))))
theorem bk_X4_share_g_5 : ck_ fX4 (some .int) cX4_share 5 [.iconst 1, .aload 0, .tableswitch 0 4 1 #[], .tableswitch 0 8 12 #[], .ishl, .istore 2, .aload 0, .iload 2] 17 = true := qck_r (nn_ _) (by decide +kernel)
theorem bs_X4_share_g_5 {P : Zt → Option Zv → Prop} (K : Int → Zl → List Zv → Zt → Prop) : sx_ K P [.iconst 1, .aload 0, .tableswitch 0 4 1 #[], .tableswitch 0 8 12 #[], .ishl, .istore 2, .aload 0, .iload 2] 17 = x_iconst 1 (x_aload 0 (x_g1 104 108 (x_g0 108 12 0 8 (x_ishl (x_istore 2 (x_aload 0 (x_iload 2 (K 17)))))))) := ((xe_iconst 1).trans (congrArg (x_iconst 1) ((xe_aload 0).trans (congrArg (x_aload 0) ((xe_g1 (kk := 104) rfl tl_4_1).trans (congrArg (x_g1 104 108) ((xe_g0 (kk := 108) rfl tl_8_12).trans (congrArg (x_g0 108 12 0 8) ((xe_ishl).trans (congrArg (x_ishl) ((xe_istore 2).trans (congrArg (x_istore 2) ((xe_aload 0).trans (congrArg (x_aload 0) ((xe_iload 2).trans (congrArg (x_iload 2) xe_nil))))))))))))))))
theorem bk_X4_share_g_20 : ck_ fX4 (some .int) cX4_share 20 [.iconst 0, .istore 3, .iconst 0, .istore 4, .iconst 0, .istore 5] 28 = true := qck_r (nn_ _) (by decide +kernel)
theorem bs_X4_share_g_20 {P : Zt → Option Zv → Prop} (K : Int → Zl → List Zv → Zt → Prop) : sx_ K P [.iconst 0, .istore 3, .iconst 0, .istore 4, .iconst 0, .istore 5] 28 = x_iconst 0 (x_istore 3 (x_iconst 0 (x_istore 4 (x_iconst 0 (x_istore 5 (K 28)))))) := ((xe_iconst 0).trans (congrArg (x_iconst 0) ((xe_istore 3).trans (congrArg (x_istore 3) ((xe_iconst 0).trans (congrArg (x_iconst 0) ((xe_istore 4).trans (congrArg (x_istore 4) ((xe_iconst 0).trans (congrArg (x_iconst 0) ((xe_istore 5).trans (congrArg (x_istore 5) xe_nil))))))))))))
abbrev po_X4_share_g (T : Zt) (d : Int) : Zt → Option Zv → Prop := fun T' r => ∃ x : Int, r = some (vI x) ∧ fr_ [(104, [3, 4]), (482, []), (102, [7]), (190, []), (191, [0])] T T' ∧ (x = nc9_ (fun i o => dh8_ T ((DLh_ T d).2 i) o) (fun i o => lh8_ T ((DLh_ T d).2 i) o) (T 108 0 12) (DLh_ T d).1 (DLh_ T d).1.toNat ∧ ∀ m, T' 102 m 7 = om9_ (fun i o => dh8_ T ((DLh_ T d).2 i) o) (fun i o => lh8_ T ((DLh_ T d).2 i) o) (T 108 0 12) (DLh_ T d).1 (DLh_ T d).2 (fun m => T 102 m 7) (DLh_ T d).1.toNat m) ∧ KPA_ T T' ∧ lh_ T T' ∧ T' 191 0 0 ≤ T 191 0 0 + 1
set_option maxHeartbeats 4000000 in
theorem ct_X4_share_g {T : Zt} {d : Int} (hka : KA_ T) (hkm : KM_ T) (hdd : DD_ T) (h9 : 0 ≤ T 191 0 0 ∧ T 191 0 0 ≤ 900000000) : Ct_ yX4_share zX4_share T [vR 104 0, vI d] (po_X4_share_g T d) := by
  refine ct_of pn_4 rfl rfl (Nat.le_of_ble_eq_true rfl) (fun hT hav => ?_)
  have hr_d : -2147483648 ≤ d ∧ d ≤ 2147483647 := hav (vI d) (List.mem_cons_of_mem _ List.mem_cons_self)
  have hz : zX4_share.2.2.2.1 = some .boolean → ∀ (T' : Zt) (x : Int), po_X4_share_g T d T' (some (vI x)) → 0 ≤ x ∧ x ≤ 1 := fun h => by cases h
  have hb_matchCount : 0 ≤ T 106 0 4 ∧ T 106 0 4 ≤ 400 := bd_f hT 106 4 tl_6_4 0
  have hb_officials : 0 ≤ T 108 0 12 ∧ T 108 0 12 ≤ 8 := bd_f hT 108 12 tl_8_12 0
  have hE0 := (os_1 (o := T 108 0 12) (by omega)).1
  show J_ zX4_share T (po_X4_share_g T d) 1 12544 0 [some (vR 104 0), some (vI d), none, none, none, none, none, none] [] T
  have c_28 : ∀ (nn : Nat) (a : Int) (v : Int) (k : Int) (T1 : Zt), ((48 - k).toNat) ≤ nn → (fr_ [(104, [3, 4]), (482, []), (102, [7]), (190, []), (191, [0])] T T1) → (0 ≤ a ∧ a < sl_ 1 (T 108 0 12) ∧ 0 ≤ k ∧ 0 ≤ v ∧ v ≤ k ∧ k ≤ 48 ∧ k ≤ (DLh_ T d).1) → (0 ≤ T1 104 0 3 ∧ T1 104 0 3 ≤ 48) → (∀ j, 0 ≤ j → j < T1 104 0 3 → 0 ≤ T1 482 0 j ∧ T1 482 0 j < T 106 0 4) → ((T1 104 0 3 + 1) * (sl_ 1 (T 108 0 12)) ≤ T1 190 (T1 104 0 4) (-2)) → (lh_ T T1 ∧ T1 191 0 0 ≤ T 191 0 0 + 1) → (KPA_ T T1) → (T1 104 0 3 = (DLh_ T d).1 ∧ ∀ j, 0 ≤ j → j < (DLh_ T d).1 → T1 482 0 j = (DLh_ T d).2 j) → (WTq_ T T1 (DLh_ T d).2 (T 108 0 12) (DLh_ T d).1 (sl_ 1 (T 108 0 12))) → (a = sa9_ (fun i o => dh8_ T ((DLh_ T d).2 i) o) (fun i o => lh8_ T ((DLh_ T d).2 i) o) (T 108 0 12) (DLh_ T d).1 k.toNat) → (v = nc9_ (fun i o => dh8_ T ((DLh_ T d).2 i) o) (fun i o => lh8_ T ((DLh_ T d).2 i) o) (T 108 0 12) (DLh_ T d).1 k.toNat) → (∀ m, T1 102 m 7 = om9_ (fun i o => dh8_ T ((DLh_ T d).2 i) o) (fun i o => lh8_ T ((DLh_ T d).2 i) o) (T 108 0 12) (DLh_ T d).1 (DLh_ T d).2 (fun m => T 102 m 7) k.toNat m) → J_ zX4_share T (po_X4_share_g T d) 0 0 28 [some (vR 104 0), some (vI d), some (vI (sl_ 1 (T 108 0 12))), some (vI a), some (vI v), some (vI k), none, none] [] T1 := by
    intro nn
    induction nn using Nat.strongRecOn with
    | _ nn ih_28 =>
      intro a v k T1 hm_28 hf_28 i1 s1 v1 l1 h1 k1 t1 w1 a1 n1 m1
      replace hm_28 := fun (_ : Unit) => hm_28
      have hO := os_1 (o := T 108 0 12) (by omega)
      have hE := hO.1
      have t1a := t1.1
      refine j_blx (F := fX4) tb_X4 (nn_ _) bk_X4_share_g_28 bs_X4_share_g_28 hz (fun K hK => ?_)
      intro b1 b1b
      refine And.intro (fun c2 => ?_) (fun c2 => ?_)
      · refine hK 95 _ [] T1 ?_
        refine j_blx (F := fX4) tb_X4 (nn_ _) bk_X4_share_g_95 bs_X4_share_g_95 hz (fun K hK => ?_)
        refine (show po_X4_share_g T d T1 (some (vI v)) from ?_)
        have ek : k = (DLh_ T d).1 := by omega
        rw [ek] at n1 m1
        exact ⟨_, rfl, hf_28, ⟨n1, m1⟩, k1, h1⟩
      · refine ix_i (by omega) ?_
        intro b3 b3b
        refine ix_i (by omega) ?_
        have e5 : T1 523 0 (T1 482 0 k) = T 523 0 (T1 482 0 k) := hf_28 523 0 (T1 482 0 k) rfl
        refine And.intro (fun c4 => ?_) (fun c4 => ?_)
        · exact absurd (show T 523 0 (T1 482 0 k) = 0 by omega) (hka.2 _ (v1 k (by omega) (by omega)).1 (v1 k (by omega) (by omega)).2)
        · refine hK 61 [some (vR 104 0), some (vI d), some (vI (sl_ 1 (T 108 0 12))), some (vI a), some (vI v), some (vI k), some (vR 102 (T1 482 0 k)), none] [vI (sl_ 1 (T 108 0 12)), vI a, vI k, vR 102 (T1 482 0 k), vR 104 0] T1 ?_
          have e6 : T1 108 0 12 = T 108 0 12 := hf_28 108 0 12 rfl
          have x1 := kse (k := k) (s := T1 104 0 3) (e := sl_ 1 (T 108 0 12)) (by omega) (by omega)
          have hwb := wt_h hT (by omega) (by omega) w1 (show 0 ≤ k ∧ k < (DLh_ T d).1 by omega)
          have hwg := fq_q (T := T) (U := T1) (p := T1 482 0 k) (by omega) hO (show 0 ≤ k ∧ k < (DLh_ T d).1 by omega) (show 0 ≤ a ∧ a < sl_ 1 (T 108 0 12) by omega) w1 (fun w => by rw [t1.2 k (by omega) (by omega)]; exact (fun p9 w9 => dh8_e (fun k9 j9 q9 => by rcases q9 with rfl | rfl | rfl | rfl; exact hf_28 560 0 j9 rfl; exact hf_28 561 0 j9 rfl; exact hf_28 570 0 j9 rfl; exact hf_28 571 0 j9 rfl) (hf_28 102 p9 3 rfl) (hf_28 102 p9 4 rfl)) ((DLh_ T d).2 k) w)
          refine j_callV (y := yX4_firstBest) (Yc := zX4_firstBest) (rest := []) [vR 102 (T1 482 0 k), vI k, vI a, vI (sl_ 1 (T 108 0 12))] (ct_X4_firstBest_e (T := T1) (by omega) (by omega) (by rw [e6]; exact hO) (by omega) (by exact hwb)) cl_X4_48 (qd_c (by decide +kernel)) (nn_ _) rfl (rf_of rfl) (Nat.le_of_ble_eq_true rfl) (Nat.le_of_ble_eq_true rfl) (Nat.le_of_ble_eq_true rfl) rfl ?_
          rintro _ _ ⟨rfl, x7, rfl, hx7⟩
          show J_ zX4_share T (po_X4_share_g T d) 0 0 64 _ [vI x7] T1
          have hwx := hx7
          rw [show T1 108 0 12 = T 108 0 12 from hf_28 108 0 12 rfl] at hwx
          have hwh : x7 = who9_ (fun i o => dh8_ T ((DLh_ T d).2 i) o) (fun i o => lh8_ T ((DLh_ T d).2 i) o) (T 108 0 12) (DLh_ T d).1 k a := hwx.trans hwg
          have hws := who_s (d := (fun i o => dh8_ T ((DLh_ T d).2 i) o)) (A := (fun i o => lh8_ T ((DLh_ T d).2 i) o)) (n := T 108 0 12) (e := (DLh_ T d).1) (k := k) (s := a) (by omega) (by omega)
          rw [← hwh] at hws
          have hwr : -1 ≤ x7 ∧ x7 ≤ 7 := by
            rcases hws with z | z
            · omega
            · omega
          refine j_blx (F := fX4) tb_X4 (nn_ _) bk_X4_share_g_64 bs_X4_share_g_64 hz (fun K hK => ?_)
          refine bd_i (by omega) ?_
          refine x_nm (fun U8 hU8 => ?_)
          have e9 := up_f hU8
          refine And.intro (fun c10 => ?_) (fun c10 => ?_)
          · refine hK 89 [some (vR 104 0), some (vI d), some (vI (sl_ 1 (T 108 0 12))), some (vI a), some (vI v), some (vI k), some (vR 102 (T1 482 0 k)), some (vI x7)] [] U8 ?_
            refine j_blx (F := fX4) tb_X4 (nn_ _) bk_X4_share_g_89 bs_X4_share_g_89 hz (fun K hK => ?_)
            refine rg_i (by omega) ?_
            refine hK 28 [some (vR 104 0), some (vI d), some (vI (sl_ 1 (T 108 0 12))), some (vI a), some (vI v), some (vI (k + 1)), some (vR 102 (T1 482 0 k)), some (vI x7)] [] U8 ?_
            refine j_drq [some (vR 104 0), some (vI d), some (vI (sl_ 1 (T 108 0 12))), some (vI a), some (vI v), some (vI (k + 1)), none, none] (drq_s (drq_s (drq_s (drq_s (drq_s (drq_s (drq_n (drq_n drq_0)))))))) ?_
            refine j_mono (bc' := 0) (bs' := 0) (by omega) (by omega) ?_
            have e11 : U8 104 0 3 = T1 104 0 3 := up_k hU8 (by exact Nat.ne_of_beq_eq_false rfl) 0 3
            have e12 : U8 104 0 4 = T1 104 0 4 := up_k hU8 (by exact Nat.ne_of_beq_eq_false rfl) 0 4
            have e13 : U8 191 0 0 = T1 191 0 0 := up_k hU8 (by exact Nat.ne_of_beq_eq_false rfl) 0 0
            refine ih_28 _ ?_ a v (k + 1) U8 (Nat.le_refl _) ?_ ?_ ?_ ?_ ?_ ?_ ?_ ?_ ?_ ?_ ?_ ?_
            · have hm_28 := hm_28 (); omega
            · exact fr_u (fr_t (fr_0 _ _) (fr_s hf_28 rfl)) hU8 rfl
            · omega
            · have y1 : U8 104 0 3 = T1 104 0 3 := up_k hU8 (by exact Nat.ne_of_beq_eq_false rfl) _ _
              omega
            · intro j a b; rw [show U8 482 0 j = T1 482 0 j from up_k hU8 (by exact Nat.ne_of_beq_eq_false rfl) _ _]; exact v1 j a (by rw [← show U8 104 0 3 = T1 104 0 3 from up_k hU8 (by exact Nat.ne_of_beq_eq_false rfl) _ _]; exact b)
            · have y1 : U8 104 0 3 = T1 104 0 3 := up_k hU8 (by exact Nat.ne_of_beq_eq_false rfl) _ _
              have y2 : U8 104 0 4 = T1 104 0 4 := up_k hU8 (by exact Nat.ne_of_beq_eq_false rfl) _ _
              rw [y1, y2, show U8 190 (T1 104 0 4) (-2) = T1 190 (T1 104 0 4) (-2) from up_k hU8 (by exact Nat.ne_of_beq_eq_false rfl) _ _]; exact l1
            · have y3 : U8 191 0 0 = T1 191 0 0 := up_k hU8 (by exact Nat.ne_of_beq_eq_false rfl) _ _
              exact ⟨lh_u h1.1 hU8 (by decide), by have := h1.2; omega⟩
            · exact ⟨fun x j hx hn => (up_k hU8 (by exact Nat.ne_of_beq_eq_false rfl) _ _).trans (k1.1 x j hx hn), by have y1 : U8 104 0 4 = T1 104 0 4 := up_k hU8 (by exact Nat.ne_of_beq_eq_false rfl) _ _; have y3 : U8 191 0 0 = T1 191 0 0 := up_k hU8 (by exact Nat.ne_of_beq_eq_false rfl) _ _; have y9 := k1.2; omega⟩
            · have y1 : U8 104 0 3 = T1 104 0 3 := up_k hU8 (by exact Nat.ne_of_beq_eq_false rfl) _ _
              exact ⟨y1.trans t1.1, fun j a b => (up_k hU8 (by exact Nat.ne_of_beq_eq_false rfl) _ _).trans (t1.2 j a b)⟩
            · exact wt_k w1 (up_k hU8 (by exact Nat.ne_of_beq_eq_false rfl) _ _) (fun x j => up_k hU8 (by exact Nat.ne_of_beq_eq_false rfl) _ _)
            · rw [(sa_n (by omega) (by rw [← a1, ← hwh]; omega)).1]
              exact a1
            · rw [(sa_n (by omega) (by rw [← a1, ← hwh]; omega)).2]
              exact n1
            · intro m9
              rw [om_s (by omega), ← a1, ← hwh]
              by_cases z : m9 = (DLh_ T d).2 k
              · rw [z, fu_s, ← t1.2 k (by omega) (by omega)]
                exact up_f hU8
              · rw [fu_n z, ← m1]
                exact up_g hU8 (fun q => z (by rw [← t1.2 k (by omega) (by omega)]; exact q.2.1))
          · intro w14 w14b
            intro w15 w15b
            have y16 := hO.2 a x7 (by omega) (by omega) (by omega) (by omega)
            refine rg_i (by omega) ?_
            refine rg_i (by omega) ?_
            refine hK 28 [some (vR 104 0), some (vI d), some (vI (sl_ 1 (T 108 0 12))), some (vI (or_ a (sl_ 1 x7))), some (vI (v + 1)), some (vI (k + 1)), some (vR 102 (T1 482 0 k)), some (vI x7)] [] U8 ?_
            refine j_drq [some (vR 104 0), some (vI d), some (vI (sl_ 1 (T 108 0 12))), some (vI (or_ a (sl_ 1 x7))), some (vI (v + 1)), some (vI (k + 1)), none, none] (drq_s (drq_s (drq_s (drq_s (drq_s (drq_s (drq_n (drq_n drq_0)))))))) ?_
            refine j_mono (bc' := 0) (bs' := 0) (by omega) (by omega) ?_
            have e17 : U8 104 0 3 = T1 104 0 3 := up_k hU8 (by exact Nat.ne_of_beq_eq_false rfl) 0 3
            have e18 : U8 104 0 4 = T1 104 0 4 := up_k hU8 (by exact Nat.ne_of_beq_eq_false rfl) 0 4
            have e19 : U8 191 0 0 = T1 191 0 0 := up_k hU8 (by exact Nat.ne_of_beq_eq_false rfl) 0 0
            refine ih_28 _ ?_ (or_ a (sl_ 1 x7)) (v + 1) (k + 1) U8 (Nat.le_refl _) ?_ ?_ ?_ ?_ ?_ ?_ ?_ ?_ ?_ ?_ ?_ ?_
            · have hm_28 := hm_28 (); omega
            · exact fr_u (fr_t (fr_0 _ _) (fr_s hf_28 rfl)) hU8 rfl
            · omega
            · have y1 : U8 104 0 3 = T1 104 0 3 := up_k hU8 (by exact Nat.ne_of_beq_eq_false rfl) _ _
              omega
            · intro j a b; rw [show U8 482 0 j = T1 482 0 j from up_k hU8 (by exact Nat.ne_of_beq_eq_false rfl) _ _]; exact v1 j a (by rw [← show U8 104 0 3 = T1 104 0 3 from up_k hU8 (by exact Nat.ne_of_beq_eq_false rfl) _ _]; exact b)
            · have y1 : U8 104 0 3 = T1 104 0 3 := up_k hU8 (by exact Nat.ne_of_beq_eq_false rfl) _ _
              have y2 : U8 104 0 4 = T1 104 0 4 := up_k hU8 (by exact Nat.ne_of_beq_eq_false rfl) _ _
              rw [y1, y2, show U8 190 (T1 104 0 4) (-2) = T1 190 (T1 104 0 4) (-2) from up_k hU8 (by exact Nat.ne_of_beq_eq_false rfl) _ _]; exact l1
            · have y3 : U8 191 0 0 = T1 191 0 0 := up_k hU8 (by exact Nat.ne_of_beq_eq_false rfl) _ _
              exact ⟨lh_u h1.1 hU8 (by decide), by have := h1.2; omega⟩
            · exact ⟨fun x j hx hn => (up_k hU8 (by exact Nat.ne_of_beq_eq_false rfl) _ _).trans (k1.1 x j hx hn), by have y1 : U8 104 0 4 = T1 104 0 4 := up_k hU8 (by exact Nat.ne_of_beq_eq_false rfl) _ _; have y3 : U8 191 0 0 = T1 191 0 0 := up_k hU8 (by exact Nat.ne_of_beq_eq_false rfl) _ _; have y9 := k1.2; omega⟩
            · have y1 : U8 104 0 3 = T1 104 0 3 := up_k hU8 (by exact Nat.ne_of_beq_eq_false rfl) _ _
              exact ⟨y1.trans t1.1, fun j a b => (up_k hU8 (by exact Nat.ne_of_beq_eq_false rfl) _ _).trans (t1.2 j a b)⟩
            · exact wt_k w1 (up_k hU8 (by exact Nat.ne_of_beq_eq_false rfl) _ _) (fun x j => up_k hU8 (by exact Nat.ne_of_beq_eq_false rfl) _ _)
            · rw [(sa_w (by omega) (by rw [← a1, ← hwh]; omega)).1, ← a1, ← hwh]
            · rw [(sa_w (by omega) (by rw [← a1, ← hwh]; omega)).2]
              omega
            · intro m9
              rw [om_s (by omega), ← a1, ← hwh]
              by_cases z : m9 = (DLh_ T d).2 k
              · rw [z, fu_s, ← t1.2 k (by omega) (by omega)]
                exact up_f hU8
              · rw [fu_n z, ← m1]
                exact up_g hU8 (fun q => z (by rw [← t1.2 k (by omega) (by omega)]; exact q.2.1))
  refine j_blx (F := fX4) tb_X4 (nn_ _) bk_X4_share_g_0 bs_X4_share_g_0 hz (fun K hK => ?_)
  refine hK 2 _ [vI d, vR 104 0] T ?_
  refine j_callV (y := yX4_listMatches) (Yc := zX4_listMatches) (rest := []) [vI d] (ct_X4_listMatches_g (T := T) (hka) (hkm) (hdd)) cl_X4_26 (qd_c (by decide +kernel)) (nn_ _) rfl (rf_of rfl) (Nat.le_of_ble_eq_true rfl) (Nat.le_of_ble_eq_true rfl) (Nat.le_of_ble_eq_true rfl) rfl ?_
  rintro U20 _ ⟨rfl, fU20, ⟨qU20a, qU20b, qU20c⟩⟩
  show J_ zX4_share T (po_X4_share_g T d) 1 12544 5 _ [] U20
  refine j_blx (F := fX4) tb_X4 (nn_ _) bk_X4_share_g_5 bs_X4_share_g_5 hz (fun K hK => ?_)
  intro b21 b21b
  have e22 : U20 108 0 12 = T 108 0 12 := fU20 108 0 12 rfl
  rw [e22] at b21 b21b ⊢
  intro w23 w23b
  refine hK 17 [some (vR 104 0), some (vI d), some (vI (sl_ 1 (T 108 0 12))), none, none, none, none, none] [vI (sl_ 1 (T 108 0 12)), vR 104 0] U20 ?_
  have e24 : U20 108 0 12 = T 108 0 12 := fU20 108 0 12 rfl
  have e25 : U20 191 0 0 = T 191 0 0 := fU20 191 0 0 rfl
  have e26 : U20 106 0 4 = T 106 0 4 := fU20 106 0 4 rfl
  have hO := os_1 (o := T 108 0 12) (by omega)
  have hv : ∀ j, 0 ≤ j → j < U20 104 0 3 → 0 ≤ U20 482 0 j ∧ U20 482 0 j < U20 106 0 4 := fun j a b => by have y := qU20b.1 j a b; omega
  refine j_callV (y := yX4_weighAll) (Yc := zX4_weighAll) (rest := []) [vI (sl_ 1 (T 108 0 12))] (ct_X4_weighAll_g (T := U20) (by exact KA__f hka (fU20) ⟨fun _ => rfl, fun _ => rfl, rfl, rfl, trivial⟩) (by exact qU20a) (by rw [e24]; exact hO) (by exact hv) (by omega)) cl_X4_36 (qd_c (by decide +kernel)) (nn_ _) rfl (rf_of rfl) (Nat.le_of_ble_eq_true rfl) (Nat.le_of_ble_eq_true rfl) (Nat.le_of_ble_eq_true rfl) rfl ?_
  rintro U27 _ ⟨rfl, fU27, ⟨qU27a, qU27b, qU27c, qU27d, qU27e⟩⟩
  show J_ zX4_share T (po_X4_share_g T d) 0 0 20 _ [] U27
  refine j_blx (F := fX4) tb_X4 (nn_ _) bk_X4_share_g_20 bs_X4_share_g_20 hz (fun K hK => ?_)
  refine hK 28 [some (vR 104 0), some (vI d), some (vI (sl_ 1 (T 108 0 12))), some (vI 0), some (vI 0), some (vI 0), none, none] [] U27 ?_
  refine j_mono (bc' := 0) (bs' := 0) (by omega) (by omega) ?_
  have e28 : U27 104 0 3 = U20 104 0 3 := fU27 104 0 3 rfl
  refine c_28 _ 0 0 0 U27 (Nat.le_refl _) ?_ ?_ ?_ ?_ ?_ ?_ ?_ ?_ ?_ ?_ ?_ ?_
  · exact fr_t (fr_t (fr_0 _ _) (fr_s fU20 rfl)) (fr_s fU27 rfl)
  · have y9 := qU20c.1
    have y8 := qU20a
    omega
  · have y1 : U27 104 0 3 = U20 104 0 3 := fU27 104 0 3 rfl
    have y2 := qU20a
    omega
  · intro j a b; rw [fU27 482 0 j rfl]; rw [fU27 104 0 3 rfl] at b; have y := hv j a b; omega
  · rw [fU27 104 0 3 rfl]; exact qU27a
  · have y3 : U20 191 0 0 = T 191 0 0 := fU20 191 0 0 rfl
    exact ⟨lh_t (lh_f (ws := [(104, [3]), (482, [])]) lh_r fU20 rfl rfl) qU27d, by have := qU27e; omega⟩
  · have y4 : U20 104 0 4 = T 104 0 4 := fU20 104 0 4 rfl
    have y5 : U20 191 0 0 = T 191 0 0 := fU20 191 0 0 rfl
    exact ⟨fun x j hx hn => (qU27c.1 x j (by omega) (by omega)).trans (fU20 190 x j rfl), by have y6 := qU27c.2; omega⟩
  · have y1 : U27 104 0 3 = U20 104 0 3 := fU27 104 0 3 rfl
    exact ⟨y1.trans qU20c.1, fun j a b => (fU27 482 0 j rfl).trans (qU20c.2 j a (by have y2 := qU20c.1; omega))⟩
  · exact wt_b qU27b (by omega) (by omega) qU20c.1 (fU20 108 0 12 rfl) (fun j a b => qU20c.2 j a (by have y2 := qU20c.1; omega)) (fun p9 w9 => dh8_e (fun k9 j9 q9 => by rcases q9 with rfl | rfl | rfl | rfl; exact fU20 560 0 j9 rfl; exact fU20 561 0 j9 rfl; exact fU20 570 0 j9 rfl; exact fU20 571 0 j9 rfl) (fU20 102 p9 3 rfl) (fU20 102 p9 4 rfl))
  · rfl
  · rfl
  · exact fun m9 => (fU27 102 m9 7 rfl).trans (fU20 102 m9 7 rfl)
theorem bk_X10_assign_g_0 : ck_ fX10 (some .int) cX10_assign 0 [.iload 1] 1 = true := qck_r (nn_ _) (by decide +kernel)
theorem bs_X10_assign_g_0 {P : Zt → Option Zv → Prop} (K : Int → Zl → List Zv → Zt → Prop) : sx_ K P [.iload 1] 1 = x_iload 1 (K 1) := ((xe_iload 1).trans (congrArg (x_iload 1) xe_nil))
theorem bk_X10_assign_g_4 : ck_ fX10 (some .int) cX10_assign 4 [.ifCond .ne 10, .iconst (-3), .ireturn] 10 = true := qck_r (nn_ _) (by decide +kernel)
theorem bs_X10_assign_g_4 {P : Zt → Option Zv → Prop} (K : Int → Zl → List Zv → Zt → Prop) : sx_ K P [.ifCond .ne 10, .iconst (-3), .ireturn] 10 = x_ifCond .ne 10 K (x_iconst (-3) (x_ireturn P)) := ((xe_ifCond .ne 10).trans (congrArg (x_ifCond .ne 10 K) ((xe_iconst (-3)).trans (congrArg (x_iconst (-3)) (xe_ireturn)))))
theorem bk_X10_assign_g_10 : ck_ fX10 (some .int) cX10_assign 10 [.aload 0, .tableswitch 0 10 6 #[], .iload 1] 15 = true := qck_r (nn_ _) (by decide +kernel)
theorem bs_X10_assign_g_10 {P : Zt → Option Zv → Prop} (K : Int → Zl → List Zv → Zt → Prop) : sx_ K P [.aload 0, .tableswitch 0 10 6 #[], .iload 1] 15 = x_aload 0 (x_g1 110 104 (x_iload 1 (K 15))) := ((xe_aload 0).trans (congrArg (x_aload 0) ((xe_g1 (kk := 110) rfl tl_10_6).trans (congrArg (x_g1 110 104) ((xe_iload 1).trans (congrArg (x_iload 1) xe_nil))))))
theorem bk_X10_assign_g_18 : ck_ fX10 (some .int) cX10_assign 18 [.ireturn] 19 = true := qck_r (nn_ _) (by decide +kernel)
theorem bs_X10_assign_g_18 {P : Zt → Option Zv → Prop} (K : Int → Zl → List Zv → Zt → Prop) : sx_ K P [.ireturn] 19 = x_ireturn P := (xe_ireturn)
abbrev po_X10_assign_g (T : Zt) (d : Int) : Zt → Option Zv → Prop := fun T' r => ∃ x : Int, r = some (vI x) ∧ fr_ [(104, [3, 4]), (482, []), (102, [7]), (190, []), (191, [0])] T T' ∧ ((x = -3 ∧ ¬ (0 ≤ d ∧ d ≤ 999) ∧ ∀ m, T' 102 m 7 = T 102 m 7) ∨ ((0 ≤ d ∧ d ≤ 999) ∧ x = nc9_ (fun i o => dh8_ T ((DLh_ T d).2 i) o) (fun i o => lh8_ T ((DLh_ T d).2 i) o) (T 108 0 12) (DLh_ T d).1 (DLh_ T d).1.toNat ∧ ∀ m, T' 102 m 7 = om9_ (fun i o => dh8_ T ((DLh_ T d).2 i) o) (fun i o => lh8_ T ((DLh_ T d).2 i) o) (T 108 0 12) (DLh_ T d).1 (DLh_ T d).2 (fun m => T 102 m 7) (DLh_ T d).1.toNat m)) ∧ KPA_ T T' ∧ lh_ T T' ∧ T' 191 0 0 ≤ T 191 0 0 + 1
set_option maxHeartbeats 4000000 in
theorem ct_X10_assign_g {T : Zt} {d : Int} (hka : KA_ T) (hkm : KM_ T) (hdd : DD_ T) (h9 : 0 ≤ T 191 0 0 ∧ T 191 0 0 ≤ 900000000) : Ct_ yX10_assign zX10_assign T [vR 110 0, vI d] (po_X10_assign_g T d) := by
  refine ct_of pn_10 rfl rfl (Nat.le_of_ble_eq_true rfl) (fun hT hav => ?_)
  have hr_d : -2147483648 ≤ d ∧ d ≤ 2147483647 := hav (vI d) (List.mem_cons_of_mem _ List.mem_cons_self)
  have hz : zX10_assign.2.2.2.1 = some .boolean → ∀ (T' : Zt) (x : Int), po_X10_assign_g T d T' (some (vI x)) → 0 ≤ x ∧ x ≤ 1 := fun h => by cases h
  show J_ zX10_assign T (po_X10_assign_g T d) 1 12544 0 [some (vR 110 0), some (vI d)] [] T
  refine j_blx (F := fX10) tb_X10 (nn_ _) bk_X10_assign_g_0 bs_X10_assign_g_0 hz (fun K hK => ?_)
  refine hK 1 _ [vI d] T ?_
  refine j_callS (y := yX10_isDay) (Yc := zX10_isDay) (rest := []) [vI d] (ct_X10_isDay (T := T)) cl_X10_140 (qd_c (by decide +kernel)) (nn_ _) rfl (rf_of rfl) (Nat.le_of_ble_eq_true rfl) (Nat.le_of_ble_eq_true rfl) (Nat.le_of_ble_eq_true rfl) rfl ?_
  rintro _ _ ⟨rfl, x1, rfl, hx1⟩
  show J_ zX10_assign T (po_X10_assign_g T d) 1 12544 4 _ [vI x1] T
  refine j_blx (F := fX10) tb_X10 (nn_ _) bk_X10_assign_g_4 bs_X10_assign_g_4 hz (fun K hK => ?_)
  refine And.intro (fun c2 => ?_) (fun c2 => ?_)
  · replace hx1 := hx1.resolve_right (fun z => c2 z.1)
    clear c2
    refine hK 10 _ [] T ?_
    refine j_blx (F := fX10) tb_X10 (nn_ _) bk_X10_assign_g_10 bs_X10_assign_g_10 hz (fun K hK => ?_)
    refine hK 15 _ [vI d, vR 104 0] T ?_
    refine j_callV (y := yX4_share) (Yc := zX4_share) (rest := []) [vI d] (ct_X4_share_g (T := T) hka hkm hdd h9) cl_X10_423 (qd_c (by decide +kernel)) (nn_ _) rfl (rf_of rfl) (Nat.le_of_ble_eq_true rfl) (Nat.le_of_ble_eq_true rfl) (Nat.le_of_ble_eq_true rfl) rfl ?_
    rintro U3 _ ⟨x4, rfl, fU3, wxU3, kpU3, lhU3, mU3⟩
    show J_ zX10_assign T (po_X10_assign_g T d) 0 0 18 _ [vI x4] U3
    refine j_blx (F := fX10) tb_X10 (nn_ _) bk_X10_assign_g_18 bs_X10_assign_g_18 hz (fun K hK => ?_)
    refine (show po_X10_assign_g T d U3 (some (vI x4)) from ?_)
    exact ⟨_, rfl, fU3, Or.inr ⟨by omega, wxU3⟩, kpU3, lhU3, mU3⟩
  · replace hx1 := hx1.resolve_left (fun z => absurd (c2.symm.trans z.1) (by decide))
    clear c2
    refine (show po_X10_assign_g T d T (some (vI (-3))) from ?_)
    exact ⟨_, rfl, fr_0 _ _, Or.inl ⟨rfl, by omega, fun _ => rfl⟩, kpa_r, lh_r, by omega⟩
theorem bk_X10_officialOf_e_0 : ck_ fX10 (some .int) cX10_officialOf 0 [.aload 0, .iload 1] 2 = true := qck_r (nn_ _) (by decide +kernel)
theorem bs_X10_officialOf_e_0 {P : Zt → Option Zv → Prop} (K : Int → Zl → List Zv → Zt → Prop) : sx_ K P [.aload 0, .iload 1] 2 = x_aload 0 (x_iload 1 (K 2)) := ((xe_aload 0).trans (congrArg (x_aload 0) ((xe_iload 1).trans (congrArg (x_iload 1) xe_nil))))
theorem bk_X10_officialOf_e_5 : ck_ fX10 (some .int) cX10_officialOf 5 [.ifCond .eq 23, .aload 0, .tableswitch 0 10 2 #[], .tableswitch 0 6 3 #[], .iload 1, .aaload, .tableswitch 0 2 7 #[], .goto 25] 23 = true := qck_r (nn_ _) (by decide +kernel)
theorem bs_X10_officialOf_e_5 {P : Zt → Option Zv → Prop} (K : Int → Zl → List Zv → Zt → Prop) : sx_ K P [.ifCond .eq 23, .aload 0, .tableswitch 0 10 2 #[], .tableswitch 0 6 3 #[], .iload 1, .aaload, .tableswitch 0 2 7 #[], .goto 25] 23 = x_ifCond .eq 23 K (x_aload 0 (x_g1 110 106 (x_g1 106 523 (x_iload 1 (x_aaload (x_g0 102 7 (-1) 7 (x_goto 25 K))))))) := ((xe_ifCond .eq 23).trans (congrArg (x_ifCond .eq 23 K) ((xe_aload 0).trans (congrArg (x_aload 0) ((xe_g1 (kk := 110) rfl tl_10_2).trans (congrArg (x_g1 110 106) ((xe_g1 (kk := 106) rfl tl_6_3).trans (congrArg (x_g1 106 523) ((xe_iload 1).trans (congrArg (x_iload 1) ((xe_aaload).trans (congrArg (x_aaload) ((xe_g0 (kk := 102) rfl tl_2_7).trans (congrArg (x_g0 102 7 (-1) 7) (xe_goto 25)))))))))))))))
theorem bk_X10_officialOf_e_23 : ck_ fX10 (some .int) cX10_officialOf 23 [.iconst (-2), .ireturn] 26 = true := qck_r (nn_ _) (by decide +kernel)
theorem bs_X10_officialOf_e_23 {P : Zt → Option Zv → Prop} (K : Int → Zl → List Zv → Zt → Prop) : sx_ K P [.iconst (-2), .ireturn] 26 = x_iconst (-2) (x_ireturn P) := ((xe_iconst (-2)).trans (congrArg (x_iconst (-2)) (xe_ireturn)))
theorem bk_X10_officialOf_e_25 : ck_ fX10 (some .int) cX10_officialOf 25 [.ireturn] 26 = true := qck_r (nn_ _) (by decide +kernel)
theorem bs_X10_officialOf_e_25 {P : Zt → Option Zv → Prop} (K : Int → Zl → List Zv → Zt → Prop) : sx_ K P [.ireturn] 26 = x_ireturn P := (xe_ireturn)
abbrev po_X10_officialOf_e (T : Zt) (m : Int) : Zt → Option Zv → Prop := fun T' r => T = T' ∧ ∃ x : Int, r = some (vI x) ∧ ((x = -2 ∧ ¬ (0 ≤ m ∧ m < T 106 0 4)) ∨ ((0 ≤ m ∧ m < T 106 0 4) ∧ x = T 102 m 7))
set_option maxHeartbeats 4000000 in
theorem ct_X10_officialOf_e {T : Zt} {m : Int} (hka : KA_ T) : Ct_ yX10_officialOf zX10_officialOf T [vR 110 0, vI m] (po_X10_officialOf_e T m) := by
  refine ct_of pn_10 rfl rfl (Nat.le_of_ble_eq_true rfl) (fun hT hav => ?_)
  have hr_m : -2147483648 ≤ m ∧ m ≤ 2147483647 := hav (vI m) (List.mem_cons_of_mem _ List.mem_cons_self)
  have hz : zX10_officialOf.2.2.2.1 = some .boolean → ∀ (T' : Zt) (x : Int), po_X10_officialOf_e T m T' (some (vI x)) → 0 ≤ x ∧ x ≤ 1 := fun h => by cases h
  have hb_matchCount : 0 ≤ T 106 0 4 ∧ T 106 0 4 ≤ 400 := bd_f hT 106 4 tl_6_4 0
  show J_ zX10_officialOf T (po_X10_officialOf_e T m) 0 0 0 [some (vR 110 0), some (vI m)] [] T
  refine j_blx (F := fX10) tb_X10 (nn_ _) bk_X10_officialOf_e_0 bs_X10_officialOf_e_0 hz (fun K hK => ?_)
  refine hK 2 _ [vI m, vR 110 0] T ?_
  refine j_callV (y := yX10_isMatch) (Yc := zX10_isMatch) (rest := []) [vI m] (ct_X10_isMatch (T := T)) cl_X10_195 (qd_c (by decide +kernel)) (nn_ _) rfl (rf_of rfl) (Nat.le_of_ble_eq_true rfl) (Nat.le_of_ble_eq_true rfl) (Nat.le_of_ble_eq_true rfl) rfl ?_
  rintro _ _ ⟨rfl, x1, rfl, hx1⟩
  show J_ zX10_officialOf T (po_X10_officialOf_e T m) 0 0 5 _ [vI x1] T
  refine j_blx (F := fX10) tb_X10 (nn_ _) bk_X10_officialOf_e_5 bs_X10_officialOf_e_5 hz (fun K hK => ?_)
  refine And.intro (fun c2 => ?_) (fun c2 => ?_)
  · replace hx1 := hx1.resolve_left (fun z => absurd (c2.symm.trans z.1) (by decide))
    clear c2
    refine hK 23 _ [] T ?_
    refine j_blx (F := fX10) tb_X10 (nn_ _) bk_X10_officialOf_e_23 bs_X10_officialOf_e_23 hz (fun K hK => ?_)
    refine (show po_X10_officialOf_e T m T (some (vI (-2))) from ?_)
    exact ⟨rfl, _, rfl, by omega⟩
  · replace hx1 := hx1.resolve_right (fun z => c2 z.1)
    clear c2
    refine ix_i (by omega) ?_
    refine And.intro (fun c3 => ?_) (fun c3 => ?_)
    · exact absurd (show T 523 0 m = 0 by omega) (hka.2 _ (by omega) (by omega))
    · intro b4 b4b
      refine hK 25 _ [vI (T 102 m 7)] T ?_
      refine j_blx (F := fX10) tb_X10 (nn_ _) bk_X10_officialOf_e_25 bs_X10_officialOf_e_25 hz (fun K hK => ?_)
      refine (show po_X10_officialOf_e T m T (some (vI (T 102 m 7))) from ?_)
      exact ⟨rfl, _, rfl, by omega⟩
theorem bk_X11_officialOf_e_0 : ck_ fX11 (some .int) cX11_officialOf 0 [.iload 1, .aload 0, .tableswitch 0 11 29 #[]] 5 = true := qck_r (nn_ _) (by decide +kernel)
theorem bs_X11_officialOf_e_0 {P : Zt → Option Zv → Prop} (K : Int → Zl → List Zv → Zt → Prop) : sx_ K P [.iload 1, .aload 0, .tableswitch 0 11 29 #[]] 5 = x_iload 1 (x_aload 0 (x_g0 111 29 0 400 (K 5))) := ((xe_iload 1).trans (congrArg (x_iload 1) ((xe_aload 0).trans (congrArg (x_aload 0) ((xe_g0 (kk := 111) rfl tl_11_29).trans (congrArg (x_g0 111 29 0 400) xe_nil))))))
theorem bk_X11_officialOf_e_8 : ck_ fX11 (some .int) cX11_officialOf 8 [.ifCond .eq 20, .aload 0, .tableswitch 0 11 38 #[], .iload 1, .iaload, .goto 22] 20 = true := qck_r (nn_ _) (by decide +kernel)
theorem bs_X11_officialOf_e_8 {P : Zt → Option Zv → Prop} (K : Int → Zl → List Zv → Zt → Prop) : sx_ K P [.ifCond .eq 20, .aload 0, .tableswitch 0 11 38 #[], .iload 1, .iaload, .goto 22] 20 = x_ifCond .eq 20 K (x_aload 0 (x_g1 111 238 (x_iload 1 (x_iaload (x_goto 22 K))))) := ((xe_ifCond .eq 20).trans (congrArg (x_ifCond .eq 20 K) ((xe_aload 0).trans (congrArg (x_aload 0) ((xe_g1 (kk := 111) rfl tl_11_38).trans (congrArg (x_g1 111 238) ((xe_iload 1).trans (congrArg (x_iload 1) ((xe_iaload).trans (congrArg (x_iaload) (xe_goto 22)))))))))))
theorem bk_X11_officialOf_e_20 : ck_ fX11 (some .int) cX11_officialOf 20 [.iconst (-2), .ireturn] 23 = true := qck_r (nn_ _) (by decide +kernel)
theorem bs_X11_officialOf_e_20 {P : Zt → Option Zv → Prop} (K : Int → Zl → List Zv → Zt → Prop) : sx_ K P [.iconst (-2), .ireturn] 23 = x_iconst (-2) (x_ireturn P) := ((xe_iconst (-2)).trans (congrArg (x_iconst (-2)) (xe_ireturn)))
theorem bk_X11_officialOf_e_22 : ck_ fX11 (some .int) cX11_officialOf 22 [.ireturn] 23 = true := qck_r (nn_ _) (by decide +kernel)
theorem bs_X11_officialOf_e_22 {P : Zt → Option Zv → Prop} (K : Int → Zl → List Zv → Zt → Prop) : sx_ K P [.ireturn] 23 = x_ireturn P := (xe_ireturn)
abbrev po_X11_officialOf_e (T : Zt) (m : Int) : Zt → Option Zv → Prop := fun T' r => T = T' ∧ ∃ x : Int, r = some (vI x) ∧ ((x = -2 ∧ ¬ (0 ≤ m ∧ m < T 111 0 29)) ∨ ((0 ≤ m ∧ m < T 111 0 29) ∧ x = T 238 0 m))
set_option maxHeartbeats 4000000 in
theorem ct_X11_officialOf_e {T : Zt} {m : Int} : Ct_ yX11_officialOf zX11_officialOf T [vR 111 0, vI m] (po_X11_officialOf_e T m) := by
  refine ct_of pn_11 rfl rfl (Nat.le_of_ble_eq_true rfl) (fun hT hav => ?_)
  have hr_m : -2147483648 ≤ m ∧ m ≤ 2147483647 := hav (vI m) (List.mem_cons_of_mem _ List.mem_cons_self)
  have hz : zX11_officialOf.2.2.2.1 = some .boolean → ∀ (T' : Zt) (x : Int), po_X11_officialOf_e T m T' (some (vI x)) → 0 ≤ x ∧ x ≤ 1 := fun h => by cases h
  have hb_29 : 0 ≤ T 111 0 29 ∧ T 111 0 29 ≤ 400 := bd_f hT 111 29 tl_11_29 0
  show J_ zX11_officialOf T (po_X11_officialOf_e T m) 0 0 0 [some (vR 111 0), some (vI m)] [] T
  refine j_blx (F := fX11) tb_X11 (nn_ _) bk_X11_officialOf_e_0 bs_X11_officialOf_e_0 hz (fun K hK => ?_)
  intro b1 b1b
  refine hK 5 _ [vI (T 111 0 29), vI m] T ?_
  refine j_callS (y := yX11_isOf) (Yc := zX11_isOf) (rest := []) [vI m, vI (T 111 0 29)] (ct_X11_isOf (T := T) (by omega)) cl_X11_317 (qd_c (by decide +kernel)) (nn_ _) rfl (rf_of rfl) (Nat.le_of_ble_eq_true rfl) (Nat.le_of_ble_eq_true rfl) (Nat.le_of_ble_eq_true rfl) rfl ?_
  rintro _ _ ⟨rfl, x2, rfl, hx2⟩
  show J_ zX11_officialOf T (po_X11_officialOf_e T m) 0 0 8 _ [vI x2] T
  refine j_blx (F := fX11) tb_X11 (nn_ _) bk_X11_officialOf_e_8 bs_X11_officialOf_e_8 hz (fun K hK => ?_)
  refine And.intro (fun c3 => ?_) (fun c3 => ?_)
  · replace hx2 := hx2.resolve_left (fun z => absurd (c3.symm.trans z.1) (by decide))
    clear c3
    refine hK 20 _ [] T ?_
    refine j_blx (F := fX11) tb_X11 (nn_ _) bk_X11_officialOf_e_20 bs_X11_officialOf_e_20 hz (fun K hK => ?_)
    refine (show po_X11_officialOf_e T m T (some (vI (-2))) from ?_)
    exact ⟨rfl, _, rfl, by omega⟩
  · replace hx2 := hx2.resolve_right (fun z => c3 z.1)
    clear c3
    refine ix_i (by omega) ?_
    intro b4 b4b
    refine hK 22 _ [vI (T 238 0 m)] T ?_
    refine j_blx (F := fX11) tb_X11 (nn_ _) bk_X11_officialOf_e_22 bs_X11_officialOf_e_22 hz (fun K hK => ?_)
    refine (show po_X11_officialOf_e T m T (some (vI (T 238 0 m))) from ?_)
    exact ⟨rfl, _, rfl, by omega⟩
-- officials alike on both sides
def OFR_ (T : Zt) : Prop := ∀ m, 0 ≤ m → m < T 106 0 4 → T 102 m 7 = T 238 0 m
/-- what a match is, on both sides -/
theorem dcd_q {T : Zt} {m : Int} (pm : PM_ T m) : ((T 102 m 6 ≠ -1 ∨ (T 102 m 10 ≠ 0 ∧ T 103 m 3 ≠ 0)) ∧ (T 235 0 m = 2 ∨ T 235 0 m = 3)) ∨ (¬ (T 102 m 6 ≠ -1 ∨ (T 102 m 10 ≠ 0 ∧ T 103 m 3 ≠ 0)) ∧ (T 235 0 m = 0 ∨ T 235 0 m = 1)) := by
  rcases pm with h | h | h
  · unfold PAA_ at h
    omega
  · unfold PBB_ at h
    omega
  · obtain ⟨h1, h2, h3, ⟨n, hn, hs⟩, -⟩ := h
    have e := hs.1.2.2.1.2.2
    rw [rp_35, rs_d (T := T) (p := m) (k := 103) (j := 3) rfl] at e
    omega
/-- a plan -/
theorem ofr_p {T T1 T2 : Zt} {c : Int} (hM : MAR_ T) (hO : OFR_ T) (g : (T1 = T ∧ T2 = T1) ∨ ((0 ≤ c ∧ c < T 106 0 2) ∧ SJ_ T T1 c ∧ PQ9_ T1 T2 c ∧ ∃ l, AP9_ T T1 c l ∧ AR9_ T1 T2 c l)) (f2 : fr_ [(230, []), (231, []), (232, []), (233, []), (234, []), (235, []), (238, []), (253, []), (255, []), (111, [29]), (209, []), (210, []), (211, [])] T1 T2) : OFR_ T2 := by
  rcases g with ⟨rfl, rfl⟩ | ⟨hc, ⟨-, f1, od, -, ⟨s6, s7, s8⟩, oc⟩, ⟨⟨am1, am2, am3, am4⟩, -, -, -, -, -⟩, l, ⟨p1, p2⟩, q1, q2⟩
  · exact hO
  · have c29 : T1 111 0 29 = T 111 0 29 := f1 111 0 29 rfl
    have v4 : T2 106 0 4 = T1 106 0 4 := f2 106 0 4 rfl
    have mm := hM.1
    intro j j0 j1
    by_cases z : j < T 106 0 4
    · rw [f2 102 j 7 rfl, od j 7 z, (am2 j (by omega)).2.2.2.2.2.2.1, f1 238 0 j rfl]
      exact hO j j0 z
    · have hk : (j - T 106 0 4).toNat < l.length := by omega
      have hq := List.getElem?_eq_getElem hk
      have y := p2 _ _ hq
      have w := q2 _ _ hq
      rw [show T1 111 0 29 + (((j - T 106 0 4).toNat : Nat) : Int) = j by omega] at w
      rw [show T 106 0 4 + (((j - T 106 0 4).toNat : Nat) : Int) = j by omega] at y
      rw [f2 102 j 7 rfl, y.2.2.2.2.2.2.1, w.2.2.2.2.2.2.1]
/-- the matches of a day that are left -/
theorem dl_q {T T1 : Zt} {d : Int} (hP : PLR_ T) (hM : MAR_ T) (hD : DAR_ T) (f1 : fr_ [(104, [3, 4]), (482, []), (102, [7]), (190, []), (191, [0])] T T1) : DLr_ T1 d = DLh_ T d := by
  unfold DLr_ DLh_
  rw [f1 111 0 29 rfl, ← hM.1]
  refine dl_c _ (fun i a b => ?_)
  have hi : i < T 106 0 4 := by omega
  have q := dcd_q (hP.1 i a hi).2
  have e := hD i a hi
  unfold LDr_ LDh_
  rw [f1 234 0 i rfl, f1 235 0 i rfl]
  omega
/-- how far, and who may -/
theorem dq_q {T T1 : Zt} {m o : Int} (hM : MAR_ T) (hH : THR_ T) (hC : CLM_ T) (h34 : 0 ≤ T 102 m 3 ∧ 0 ≤ T 102 m 4) (hm : 0 ≤ m ∧ m < T 106 0 4) (ho : 0 ≤ o ∧ o < T 108 0 12) (f1 : fr_ [(104, [3, 4]), (482, []), (102, [7]), (190, []), (191, [0])] T T1) : dh8_ T m o = di_ T1 m o ∧ (lh8_ T m o ↔ ld_ T1 m o) := by
  have g := hM.2 m hm.1 hm.2
  have c := hC m hm.1 hm.2
  have t3 := hH.1 _ h34.1 c.1
  have t4 := hH.1 _ h34.2 c.2
  have to := hH.2 o ho.1 ho.2
  unfold dh8_ di_ lh8_ ld_
  rw [f1 222 0 o rfl, f1 232 0 m rfl, f1 233 0 m rfl, f1 213 0 _ rfl, f1 214 0 _ rfl, f1 214 0 _ rfl, f1 223 0 o rfl, ← g.2.2.1, ← g.2.2.2, ← t3.1, ← t3.2, ← t4.2, ← to.1, ← to.2]
  refine ⟨?_, ⟨fun z => ⟨fun y => z.1 y.symm, fun y => z.2 y.symm⟩, fun z => ⟨fun y => z.1 y.symm, fun y => z.2 y.symm⟩⟩⟩
  by_cases z : 0 ≤ T 570 0 o - T 560 0 (T 102 m 3)
  · rw [if_pos z, if_neg (by omega)]
  · rw [if_neg z, if_pos (by omega)]
/-- matches of a day get officials -/
theorem pl_offs {T T1 T2 : Zt} {d x1 x2 : Int} (hT : ok_T T) (hP : PLR_ T) (hM : MAR_ T) (hD : DAR_ T) (hH : THR_ T) (hC : CLM_ T) (hN : CNR_ T) (hO : OFR_ T) (f1 : fr_ [(104, [3, 4]), (482, []), (102, [7]), (190, []), (191, [0])] T T1)
    (d1 : (x1 = -3 ∧ ¬ (0 ≤ d ∧ d ≤ 999) ∧ ∀ m, T1 102 m 7 = T 102 m 7) ∨ ((0 ≤ d ∧ d ≤ 999) ∧ x1 = nc9_ (fun i o => dh8_ T ((DLh_ T d).2 i) o) (fun i o => lh8_ T ((DLh_ T d).2 i) o) (T 108 0 12) (DLh_ T d).1 (DLh_ T d).1.toNat ∧ ∀ m, T1 102 m 7 = om9_ (fun i o => dh8_ T ((DLh_ T d).2 i) o) (fun i o => lh8_ T ((DLh_ T d).2 i) o) (T 108 0 12) (DLh_ T d).1 (DLh_ T d).2 (fun m => T 102 m 7) (DLh_ T d).1.toNat m))
    (f2 : fr_ [(306, []), (308, []), (311, []), (309, []), (310, []), (238, []), (111, [107, 112, 113])] T1 T2)
    (d2 : (x2 = -3 ∧ ¬ (0 ≤ d ∧ d ≤ 999) ∧ ∀ m, T2 238 0 m = T1 238 0 m) ∨ ((0 ≤ d ∧ d ≤ 999) ∧ x2 = nc9_ (dr9_ T1 d) (ar9_ T1 d) (T1 111 0 21) (DLr_ T1 d).1 (DLr_ T1 d).1.toNat ∧ ∀ m, T2 238 0 m = om9_ (dr9_ T1 d) (ar9_ T1 d) (T1 111 0 21) (DLr_ T1 d).1 (DLr_ T1 d).2 (fun m => T1 238 0 m) (DLr_ T1 d).1.toNat m)) : x1 = x2 ∧ OFR_ T2 := by
  have k4 : T2 106 0 4 = T 106 0 4 := (f2 106 0 4 rfl).trans (f1 106 0 4 rfl)
  rcases d1 with ⟨a1, a2, a3⟩ | ⟨a1, a2, a3⟩
  · rcases d2 with ⟨b1, b2, b3⟩ | ⟨b1, b2, b3⟩
    · refine ⟨by omega, fun m m0 m1 => ?_⟩
      rw [k4] at m1
      rw [f2 102 m 7 rfl, a3, b3, f1 238 0 m rfl]
      exact hO m m0 m1
    · exact absurd b1 a2
  · rcases d2 with ⟨b1, b2, b3⟩ | ⟨b1, b2, b3⟩
    · exact absurd a1 b2
    · have eD := dl_q (d := d) hP hM hD f1
      have eo : T1 111 0 21 = T 108 0 12 := (f1 111 0 21 rfl).trans hN.2.2.1.symm
      have bo := bd_f hT 108 12 tl_8_12 0
      have lb := dl_b (D := LDh_ T d) (T 106 0 4).toNat
      have b4 := (bd_f hT 106 4 tl_6_4 0).1
      have l0 : 0 ≤ (DLh_ T d).1 := lb.1.1
      have hd : ∀ i o, 0 ≤ i → i < (DLh_ T d).1 → 0 ≤ o → o < T 108 0 12 → (fun i o => dh8_ T ((DLh_ T d).2 i) o) i o = dr9_ T1 d i o ∧ ((fun i o => lh8_ T ((DLh_ T d).2 i) o) i o ↔ ar9_ T1 d i o) := fun i o i0 i1 o0 o1 => by
        have y := lb.2 i i0 i1
        have y2 : 0 ≤ (DLh_ T d).2 i ∧ (DLh_ T d).2 i < T 106 0 4 := ⟨y.1, by have w : (DLh_ T d).2 i < (((T 106 0 4).toNat : Nat) : Int) := y.2; omega⟩
        show dh8_ T ((DLh_ T d).2 i) o = di_ T1 ((DLr_ T1 d).2 i) o ∧ (lh8_ T ((DLh_ T d).2 i) o ↔ ld_ T1 ((DLr_ T1 d).2 i) o)
        rw [eD]
        exact dq_q hM hH hC ⟨(bd_f hT 102 3 tl_2_3 _).1, (bd_f hT 102 4 tl_2_4 _).1⟩ y2 ⟨o0, o1⟩ f1
      have sc := sa_c (d := fun i o => dh8_ T ((DLh_ T d).2 i) o) (d' := dr9_ T1 d) (A := fun i o => lh8_ T ((DLh_ T d).2 i) o) (A' := ar9_ T1 d) (n := T 108 0 12) (e := (DLh_ T d).1) (L := (DLh_ T d).2) (L' := (DLh_ T d).2) (M := fun m => T 102 m 7) (M' := fun m => T1 238 0 m) ⟨bo.1, bo.2⟩ hd (fun _ _ _ => rfl) (DLh_ T d).1.toNat (by omega)
      rw [eD, eo] at b2 b3
      refine ⟨by rw [a2, b2]; exact sc.2.1, fun m m0 m1 => ?_⟩
      rw [k4] at m1
      rw [f2 102 m 7 rfl, a3, b3]
      exact sc.2.2 m (by show T 102 m 7 = T1 238 0 m; rw [f1 238 0 m rfl]; exact hO m m0 m1)
/-- who leads a match -/
theorem pl_lead {T : Zt} {m x1 x2 : Int} (hM : MAR_ T) (hO : OFR_ T) (d1 : (x1 = -2 ∧ ¬ (0 ≤ m ∧ m < T 106 0 4)) ∨ ((0 ≤ m ∧ m < T 106 0 4) ∧ x1 = T 102 m 7)) (d2 : (x2 = -2 ∧ ¬ (0 ≤ m ∧ m < T 111 0 29)) ∨ ((0 ≤ m ∧ m < T 111 0 29) ∧ x2 = T 238 0 m)) : x1 = x2 := by
  have e := hM.1
  rcases d1 with ⟨a1, a2⟩ | ⟨a1, a2⟩
  · rcases d2 with ⟨b1, b2⟩ | ⟨b1, b2⟩
    · omega
    · exact absurd b1 (by omega)
  · rcases d2 with ⟨b1, b2⟩ | ⟨b1, b2⟩
    · exact absurd a1 (by omega)
    · rw [a2, b2]
      exact hO m a1.1 a1.2
