-- the draw, both sides
theorem alk_x {E C f : Int → Int} {x g : Int} {n : Nat} : ∀ m : Nat, (∀ k : Int, n ≤ k → k < m → E k = -1) → n ≤ m → alk_ E C f x g m = alk_ E C f x g n
  | 0, _, h => by rw [show n = 0 by omega]
  | m + 1, z, h => by
    by_cases e : n = m + 1
    · rw [e]
    · have i := alk_x (C := C) (f := f) (x := x) (g := g) m (fun k a b => z k a (by omega)) (by omega)
      show alk_ E C f x g m + (if ((m : Nat) : Int) ≠ x ∧ E m ≠ -1 ∧ f m = g ∧ C m = C x then (1 : Int) else 0) = _
      have n1 : ¬ (((m : Nat) : Int) ≠ x ∧ E m ≠ -1 ∧ f m = g ∧ C m = C x) := fun q => q.2.1 (z m (by omega) (by omega))
      rw [i, if_neg n1]; omega
theorem alk_c {E C f E2 C2 f2 : Int → Int} {x g : Int} (hx : C2 x = C x) : ∀ n : Nat, (∀ k : Int, 0 ≤ k → k < n → E2 k = E k ∧ f2 k = f k ∧ (E k ≠ -1 → C2 k = C k)) → alk_ E2 C2 f2 x g n = alk_ E C f x g n
  | 0, _ => rfl
  | n + 1, h => by
    have i := alk_c (g := g) hx n (fun k a b => h k a (by omega))
    obtain ⟨h1, h2, h3⟩ := h n (by omega) (by omega)
    show alk_ E2 C2 f2 x g n + (if ((n : Nat) : Int) ≠ x ∧ E2 n ≠ -1 ∧ f2 n = g ∧ C2 n = C2 x then (1 : Int) else 0) = alk_ E C f x g n + (if ((n : Nat) : Int) ≠ x ∧ E n ≠ -1 ∧ f n = g ∧ C n = C x then (1 : Int) else 0)
    rw [i, h1, h2, hx]
    by_cases z : E n = -1
    · have n1 : ¬ (((n : Nat) : Int) ≠ x ∧ E n ≠ -1 ∧ f n = g ∧ C2 n = C x) := fun q => q.2.1 z
      have n2 : ¬ (((n : Nat) : Int) ≠ x ∧ E n ≠ -1 ∧ f n = g ∧ C n = C x) := fun q => q.2.1 z
      rw [if_neg n1, if_neg n2]
    · rw [h3 z]
/-- two draws that differ in nothing that counts -/
def DS9_ (d d2 : Dr_) : Prop := (0 ≤ d.n ∧ d.n ≤ d2.n) ∧ (∀ k, 0 ≤ k → k < d.n → d2.E k = d.E k ∧ (d.E k ≠ -1 → d2.C k = d.C k)) ∧ (∀ k, d.n ≤ k → k < d2.n → d2.E k = -1) ∧ d2.G = d.G ∧ d2.L = d.L
theorem ms_c {d d2 : Dr_} {f f2 : Int → Int} {x g : Int} (h : DS9_ d d2) (hf : ∀ k, 0 ≤ k → k < d.n → f2 k = f k) (hx : 0 ≤ x ∧ x < d.n) (he : d.E x ≠ -1) : ms_ d2 f2 x g ↔ ms_ d f x g := by
  obtain ⟨h1, h2, h3, h4, h5⟩ := h
  have ea : alk_ d2.E d2.C f2 x g d2.n.toNat = alk_ d.E d.C f x g d.n.toNat := by
    rw [alk_x (n := d.n.toNat) d2.n.toNat (fun k a b => h3 k (by omega) (by omega)) (by omega)]
    exact alk_c ((h2 x hx.1 hx.2).2 he) d.n.toNat (fun k a b => ⟨(h2 k a (by omega)).1, hf k a (by omega), (h2 k a (by omega)).2⟩)
  unfold ms_
  rw [ea, h5]
  constructor
  · rintro ⟨p, q⟩
    refine ⟨fun k a b c e u v => ?_, q⟩
    have y := (h2 k a b).1
    exact p k a (by omega) c (by rw [y]; exact e) (by rw [hf k a b]; exact u) (by rw [y, (h2 x hx.1 hx.2).1]; exact v)
  · rintro ⟨p, q⟩
    refine ⟨fun k a b c e u v => ?_, q⟩
    by_cases z : k < d.n
    · have y := (h2 k a z).1
      rw [y] at e v
      rw [hf k a z] at u
      rw [(h2 x hx.1 hx.2).1] at v
      exact p k a z c e u v
    · exact e (h3 k (by omega) b)
theorem nw_c {d d2 : Dr_} {fx gp : Int} (h : DS9_ d d2) : ∀ (l : List Int) (f f2 : Int → Int), (∀ z ∈ l, (0 ≤ z ∧ z < d.n) ∧ d.E z ≠ -1) → (∀ k, 0 ≤ k → k < d.n → f2 k = f k) → nw_ d2 fx gp l f2 = nw_ d fx gp l f
  | [], _, _, _, _ => rfl
  | x :: l, f, f2, hl, hf => by
    have q := hl x List.mem_cons_self
    show qs_ (ok_ d2 fx gp f2 x) (fun g => nw_ d2 fx gp l (fu_ f2 x g)) (-1) = qs_ (ok_ d fx gp f x) (fun g => nw_ d fx gp l (fu_ f x g)) (-1)
    refine qs_e (fun g _ _ => ?_) (fun g _ _ _ => nw_c h l _ _ (fun z hz => hl z (List.mem_cons_of_mem _ hz)) (fun k a b => ?_))
    · unfold ok_
      rw [h.2.2.2.1, ms_c h hf q.1 q.2]
    · unfold fu_
      by_cases z : k = x
      · rw [if_pos z, if_pos z]
      · rw [if_neg z, if_neg z]; exact hf k a b
theorem lpk_x {E b : Int → Int} {p : Int} {n : Nat} : ∀ m : Nat, (∀ k : Int, n ≤ k → k < m → E k ≠ p) → n ≤ m → lpk_ E b p m = lpk_ E b p n
  | 0, _, h => by rw [show n = 0 by omega]
  | m + 1, z, h => by
    by_cases e : n = m + 1
    · rw [e]
    · have i := lpk_x (b := b) m (fun k a c => z k a (by omega)) (by omega)
      show lpk_ E b p m ++ (if E m = p ∧ b m = -1 then [((m : Nat) : Int)] else []) = _
      have n1 : ¬ (E m = p ∧ b m = -1) := fun q => z m (by omega) (by omega) q.1
      rw [i, if_neg n1, List.append_nil]
theorem lpk_c {E b E2 b2 : Int → Int} {p : Int} : ∀ n : Nat, (∀ k : Int, 0 ≤ k → k < n → E2 k = E k ∧ b2 k = b k) → lpk_ E2 b2 p n = lpk_ E b p n
  | 0, _ => rfl
  | n + 1, h => by
    have i := lpk_c (p := p) n (fun k a c => h k a (by omega))
    obtain ⟨h1, h2⟩ := h n (by omega) (by omega)
    show lpk_ E2 b2 p n ++ (if E2 n = p ∧ b2 n = -1 then [((n : Nat) : Int)] else []) = lpk_ E b p n ++ (if E n = p ∧ b n = -1 then [((n : Nat) : Int)] else [])
    rw [i, h1, h2]
theorem lq_c {E b E2 b2 : Int → Int} {n m : Nat} (hn : n ≤ m) (h : ∀ k : Int, 0 ≤ k → k < n → E2 k = E k ∧ b2 k = b k) (z : ∀ k : Int, n ≤ k → k < m → E2 k = -1) : ∀ p : Nat, lq_ E2 b2 m p = lq_ E b n p
  | 0 => rfl
  | p + 1 => by
    show lq_ E2 b2 m p ++ lpk_ E2 b2 p m = lq_ E b n p ++ lpk_ E b p n
    rw [lq_c hn h z p, lpk_x m (fun k a c => by rw [z k a c]; omega) hn, lpk_c n h]
section DRW
variable {T : Zt}
/-- both sides' lists, ways -/
theorem lor_l (h : LOR_ T) (hl : LH_ T) (hn : T 108 0 2 = T 111 0 12) (hb : 0 ≤ T 108 0 2 ∧ T 108 0 2 ≤ 12) : lhw_ T = ll_ T := by
  unfold lhw_ ll_
  exact lq_c (by omega) (fun k a b => h.2.1 k a (by omega)) (fun k a b => hl.2.2.2.2.1 k (by omega) (by omega)) 3
theorem lor_n (h : LOR_ T) (hl : LH_ T) (th : THR_ T) (hn : T 108 0 2 = T 111 0 12) (hb : 0 ≤ T 108 0 2 ∧ T 108 0 2 ≤ 12) (fx gp : Int) : nw_ (dh_ T) fx gp (lhw_ T) (ghw_ T) = nw_ (drw_ T) fx gp (ll_ T) (gf_ T) := by
  rw [lor_l h hl hn hb]
  have hd : DS9_ (drw_ T) (dh_ T) := by
    refine ⟨⟨?_, ?_⟩, fun k a b => ?_, fun k a b => ?_, h.1.1, h.1.2.1⟩
    · show 0 ≤ T 111 0 12
      omega
    · show T 111 0 12 ≤ 12
      omega
    · have b2 : k < T 111 0 12 := b
      exact ⟨(h.2.1 k a (by omega)).1, fun _ => (th.1 k a (by omega)).2⟩
    · have a2 : T 111 0 12 ≤ k := a
      have b2 : k < 12 := b
      exact hl.2.2.2.2.1 k (by omega) b2
  refine nw_c hd _ _ _ (fun z hz => ?_) (fun k a b => ?_)
  · have q := ll_m (by omega) hz
    refine ⟨⟨q.1, q.2.1⟩, ?_⟩
    show T 301 0 z ≠ -1
    omega
  · have b2 : k < T 111 0 12 := b
    exact (h.2.1 k a (by omega)).2
/-- the same, of the things with index 0 -/
def kz_ (F : List (Nat × List Int)) (T T' : Zt) : Prop := ∀ k j, fw_ F k j = true → T' k 0 j = T k 0 j
theorem kz_s {F G : List (Nat × List Int)} {T T' : Zt} (h : kz_ G T T') (s : fs_ F G = true) : kz_ F T T' := fun k j w => h k j (fs_sub s w)
theorem kz_o {F : List (Nat × List Int)} {T T' : Zt} (h : ks_ F T T') : kz_ F T T' := fun k j w => h k 0 j w
theorem fw_3 {k : Nat} {j : Int} (n : k ≠ 302) (h : fw_ [(304, []), (305, [])] k j = false) : fw_ [(304, []), (305, []), (302, [])] k j = false := by
  simp [fw_] at h ⊢
  omega
theorem kz_3 {F : List (Nat × List Int)} {T T' : Zt} (f : fr_ [(304, []), (305, []), (302, [])] T T') (e : ∀ j, T' 302 0 j = T 302 0 j) (d : dj_ [(304, []), (305, [])] F = true) : kz_ F T T' := fun k j w => by
  by_cases z : k = 302
  · rw [z]; exact e j
  · refine f k 0 j (fw_3 z ?_)
    cases y : fw_ [(304, []), (305, [])] k j
    · rfl
    · rw [dj_s d y] at w
      cases w
/-- the house's own words under a frame -/
theorem lhw_k {T' : Zt} (h : LH_ T) (k : kz_ [(101, [1, 2, 3, 4, 6, 7, 13]), (108, [2]), (428, []), (429, []), (430, []), (431, []), (432, []), (561, [])] T T') : LH_ T' := by
  obtain ⟨h1, h2, h3, h4, h5, h6⟩ := h
  have eE : (fun j => T' 428 0 j) = (fun j => T 428 0 j) := funext (fun j => k 428 j rfl)
  have eG : (fun j => T' 429 0 j) = (fun j => T 429 0 j) := funext (fun j => k 429 j rfl)
  refine ⟨by rw [k 101 3 rfl, eE]; exact h1, by rw [k 101 4 rfl, eG]; exact h2, fun p a b => by rw [k 430 p rfl, eE, k 101 1 rfl]; exact h3 p a b, fun j a b => by rw [k 428 j rfl, k 429 j rfl]; exact h4 j a b, fun j a b => by rw [k 108 2 rfl] at a; rw [k 428 j rfl]; exact h5 j a b, ?_⟩
  rcases h6 with h6 | h6
  · exact Or.inl (by rw [k 101 7 rfl]; exact h6)
  · refine Or.inr ?_
    unfold FV_
    rw [dh_e (fun j => k 428 j rfl) (fun j => k 561 j rfl) (k 101 1 rfl) (k 101 2 rfl), lhw_e (fun j => k 428 j rfl) (fun j => k 429 j rfl), ghw_e (fun j => k 429 j rfl), k 101 6 rfl]
    exact ⟨h6.1, fun c hc u a b => by rw [k 431 _ rfl]; exact h6.2.1 c hc u a b, wl_e (fun j => k 432 j rfl) (k 101 13 rfl) h6.2.2⟩
theorem lor_k {T' : Zt} (h : LOR_ T) (k : kz_ [(101, [1, 2, 3, 4, 5, 6, 7, 13]), (108, [2]), (428, []), (429, []), (430, []), (431, []), (432, []), (561, []), (111, [98, 99, 100, 103]), (301, []), (302, [])] T T') : LOR_ T' := by
  obtain ⟨⟨h1, h2, h3, h4⟩, h5, h6⟩ := h
  have e1 := k 101 1 rfl
  have e2 := k 101 2 rfl
  have e5 := k 101 5 rfl
  have f1 := k 111 98 rfl
  have f2 := k 111 99 rfl
  have f3 := k 111 100 rfl
  have f4 := k 111 103 rfl
  refine ⟨⟨by omega, by omega, by omega, by omega⟩, fun j a b => ?_, ?_⟩
  · rw [k 428 j rfl, k 429 j rfl, k 301 j rfl, k 302 j rfl]
    exact h5 j a b
  · rcases h6 with h6 | h6
    · exact Or.inl (by omega)
    · exact Or.inr (lhw_k h6 (kz_s k (by decide +kernel)))
/-- a new club is in no draw -/
theorem lor_c {T' : Zt} {n : Int} (h : LOR_ T) (hn : T 108 0 2 = n) (k : kz_ [(101, [1, 2, 3, 4, 5, 6, 7, 13]), (428, []), (429, []), (430, []), (431, []), (432, []), (111, [98, 99, 100, 103]), (301, []), (302, [])] T T') (g1 : n ≤ T' 108 0 2) (g2 : ∀ j, j ≠ n → T' 561 0 j = T 561 0 j) (g3 : 0 ≤ n) : LOR_ T' := by
  obtain ⟨⟨h1, h2, h3, h4⟩, h5, h6⟩ := h
  have e1 := k 101 1 rfl
  have e2 := k 101 2 rfl
  have e5 := k 101 5 rfl
  have f1 := k 111 98 rfl
  have f2 := k 111 99 rfl
  have f3 := k 111 100 rfl
  have f4 := k 111 103 rfl
  refine ⟨⟨by omega, by omega, by omega, by omega⟩, fun j a b => ?_, ?_⟩
  · rw [k 428 j rfl, k 429 j rfl, k 301 j rfl, k 302 j rfl]
    exact h5 j a b
  · rcases h6 with h6 | ⟨q1, q2, q3, q4, q5, q6⟩
    · exact Or.inl (by omega)
    · have eE : (fun j => T' 428 0 j) = (fun j => T 428 0 j) := funext (fun j => k 428 j rfl)
      have eG : (fun j => T' 429 0 j) = (fun j => T 429 0 j) := funext (fun j => k 429 j rfl)
      refine Or.inr ⟨by rw [k 101 3 rfl, eE]; exact q1, by rw [k 101 4 rfl, eG]; exact q2, fun p a b => by rw [k 430 p rfl, eE, k 101 1 rfl]; exact q3 p a b, fun j a b => by rw [k 428 j rfl, k 429 j rfl]; exact q4 j a b, fun j a b => by rw [k 428 j rfl]; exact q5 j (by omega) b, ?_⟩
      rcases q6 with q6 | q6
      · exact Or.inl (by rw [k 101 7 rfl]; exact q6)
      · refine Or.inr ?_
        have hd : DS9_ (dh_ T) (dh_ T') := by
          refine ⟨⟨show (0 : Int) ≤ 12 by decide, show (12 : Int) ≤ 12 by decide⟩, fun j a b => ⟨k 428 j rfl, fun c => g2 j (fun z => c ?_)⟩, fun j a b => absurd b (by show ¬ j < 12; have a2 : 12 ≤ j := a; omega), e1, e2⟩
          exact q5 j (by omega) b
        have e : ∀ fx gp, nw_ (dh_ T') fx gp (lhw_ T) (ghw_ T) = nw_ (dh_ T) fx gp (lhw_ T) (ghw_ T) := fun fx gp => nw_c hd _ _ _ (fun z hz => ⟨⟨(lhw_m hz).1, (lhw_m hz).2.1⟩, by show T 428 0 z ≠ -1; have := lhw_m hz; omega⟩) (fun _ _ _ => rfl)
        unfold FV_
        rw [lhw_e (fun j => k 428 j rfl) (fun j => k 429 j rfl), ghw_e (fun j => k 429 j rfl), k 101 6 rfl, e]
        exact ⟨q6.1, fun c hc u a b => by rw [k 431 _ rfl, e]; exact q6.2.1 c hc u a b, wl_e (fun j => k 432 j rfl) (k 101 13 rfl) q6.2.2⟩
/-- the counts are fresh -/
theorem lor_r {T1 : Zt} (h : LOR_ T) (hg : T 101 0 1 ≠ 0) (f : fr_ [(101, [13, 6, 7]), (434, []), (435, []), (431, []), (432, [])] T T1) (r : RFP_ T T1) : LOR_ T1 ∧ LH_ T1 ∧ FV_ T1 := by
  have hl := h.2.2.resolve_left hg
  have q : LH_ T1 ∧ FV_ T1 := by
    rcases r with ⟨r1, r2⟩ | ⟨r1, r2, r3⟩
    · rw [r2]
      exact ⟨hl, hl.2.2.2.2.2.resolve_left r1⟩
    · obtain ⟨h1, h2, h3, h4, h5, h6⟩ := hl
      refine ⟨⟨by rw [f 101 0 3 rfl, show (fun k => T1 428 0 k) = (fun k => T 428 0 k) from funext (fun k => f 428 0 k rfl)]; exact h1, by rw [f 101 0 4 rfl, show (fun k => T1 429 0 k) = (fun k => T 429 0 k) from funext (fun k => f 429 0 k rfl)]; exact h2, fun p a b => by rw [f 430 0 p rfl, f 101 0 1 rfl, show (fun k => T1 428 0 k) = (fun k => T 428 0 k) from funext (fun k => f 428 0 k rfl)]; exact h3 p a b, fun k a b => by rw [f 428 0 k rfl, f 429 0 k rfl]; exact h4 k a b, fun k a b => by rw [f 108 0 2 rfl] at a; rw [f 428 0 k rfl]; exact h5 k a b, Or.inr r3⟩, r3⟩
  refine ⟨⟨⟨?_, ?_, ?_, ?_⟩, fun k a b => ?_, Or.inr q.1⟩, q.1, q.2⟩
  · rw [f 101 0 1 rfl, f 111 0 99 rfl]; exact h.1.1
  · rw [f 101 0 2 rfl, f 111 0 100 rfl]; exact h.1.2.1
  · rw [f 101 0 5 rfl, f 111 0 103 rfl]; exact h.1.2.2.1
  · rw [f 101 0 1 rfl, f 111 0 98 rfl]; exact h.1.2.2.2
  · rw [f 428 0 k rfl, f 429 0 k rfl, f 301 0 k rfl, f 302 0 k rfl]; exact h.2.1 k a b
theorem lor_3 {T' : Zt} (h : LOR_ T) (f : fr_ [(304, []), (305, []), (302, [])] T T') (e : ∀ j, T' 302 0 j = T 302 0 j) : LOR_ T' := lor_k h (kz_3 f e (by decide +kernel))
end DRW
/-- a new draw, both sides -/
theorem lor_d {T T1 T2 : Zt} {g l x1 x2 : Int} (h : LOR_ T) (hc : 0 ≤ T 108 0 2) (d1 : NDH_ T T1 g l x1) (f1 : fr_ [(101, [1, 2, 3, 4, 7]), (428, []), (429, []), (430, [])] T T1) (d2 : NDR_ T1 T2 g l x2) (f2 : fr_ [(111, [98, 99, 100]), (301, []), (302, [])] T1 T2) : x1 = x2 ∧ LOR_ T2 := by
  rcases d1 with ⟨a1, a2, a3⟩ | ⟨a1, a2, a3, a4, a5, a6, a7, a8, a9⟩
  · rcases d2 with ⟨b1, b2, b3⟩ | ⟨b1, b2⟩
    · rw [b1, a1]
      exact ⟨by omega, h⟩
    · exact absurd b1 a3
  · rcases d2 with ⟨b1, b2, b3⟩ | ⟨b1, b2, b3, b4, b5, b6⟩
    · exact absurd a1 b3
    · have e1 := f2 101 0 1 rfl
      have e2 := f2 101 0 2 rfl
      have e5 := f2 101 0 5 rfl
      have e6 := f1 101 0 5 rfl
      have g5 := f2 111 0 103 rfl
      have g6 := f1 111 0 103 rfl
      have h5 := h.1.2.2.1
      refine ⟨by omega, ⟨by omega, by omega, by omega, by omega⟩, fun k p q => ?_, Or.inr ⟨?_, ?_, fun p p1 p2 => ?_, fun k p q r => ?_, fun k p q => ?_, Or.inl ?_⟩⟩
      · rw [f2 428 0 k rfl, f2 429 0 k rfl, (a8 k p q).1, (a8 k p q).2, (b6 k p q).1, (b6 k p q).2]
        exact ⟨rfl, rfl⟩
      · rw [f2 101 0 3 rfl, a5, cnz_a 12 (fun k p q => by rw [f2 428 0 k rfl]; exact (a8 k p (by omega)).1)]
        rfl
      · rw [f2 101 0 4 rfl, a6, cnz_a 12 (fun k p q => by rw [f2 429 0 k rfl]; exact (a8 k p (by omega)).2)]
        rfl
      · rw [f2 430 0 p rfl, a9 p p1 (by omega), cnz_n 12 (fun k u v => by rw [f2 428 0 k rfl, (a8 k u (by omega)).1]; omega)]
        exact ⟨rfl, by omega⟩
      · rw [f2 429 0 k rfl]; exact (a8 k p q).2
      · rw [f2 428 0 k rfl]; exact (a8 k (by rw [f2 108 0 2 rfl, f1 108 0 2 rfl] at p; omega) q).1
      · rw [f2 101 0 7 rfl]; exact a7
