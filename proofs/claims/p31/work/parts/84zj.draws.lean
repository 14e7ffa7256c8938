-- the draw, both sides
theorem alk_x {E C f : Int → Int} {x g : Int} {n : Nat} : ∀ m : Nat, (∀ k : Int, n ≤ k → k < m → E k = -1) → n ≤ m → alk_ E C f x g m = alk_ E C f x g n
  | 0, _, h => by rw [show n = 0 by omega]
  | m + 1, z, h => by
    by_cases e : n = m + 1
    · rw [e]
    · have i := alk_x (C := C) (f := f) (x := x) (g := g) m (fun k a b => z k a (by omega)) (by omega)
      show alk_ E C f x g m + (if ((m : Nat) : Int) ≠ x ∧ E m ≠ -1 ∧ f m = g ∧ C m = C x then (1 : Int) else 0) = _
      have n1 : ¬ (((m : Nat) : Int) ≠ x ∧ E m ≠ -1 ∧ f m = g ∧ C m = C x) := fun q => q.2.1 (z m (by omega) (by omega))
      rw [i, if_neg n1]; omega
theorem alk_c {E C f E2 C2 f2 : Int → Int} {x g : Int} (hx : C2 x = C x) : ∀ n : Nat, (∀ k : Int, 0 ≤ k → k < n → E2 k = E k ∧ f2 k = f k ∧ (E k ≠ -1 → C2 k = C k)) → alk_ E2 C2 f2 x g n = alk_ E C f x g n
  | 0, _ => rfl
  | n + 1, h => by
    have i := alk_c (g := g) hx n (fun k a b => h k a (by omega))
    obtain ⟨h1, h2, h3⟩ := h n (by omega) (by omega)
    show alk_ E2 C2 f2 x g n + (if ((n : Nat) : Int) ≠ x ∧ E2 n ≠ -1 ∧ f2 n = g ∧ C2 n = C2 x then (1 : Int) else 0) = alk_ E C f x g n + (if ((n : Nat) : Int) ≠ x ∧ E n ≠ -1 ∧ f n = g ∧ C n = C x then (1 : Int) else 0)
    rw [i, h1, h2, hx]
    by_cases z : E n = -1
    · have n1 : ¬ (((n : Nat) : Int) ≠ x ∧ E n ≠ -1 ∧ f n = g ∧ C2 n = C x) := fun q => q.2.1 z
      have n2 : ¬ (((n : Nat) : Int) ≠ x ∧ E n ≠ -1 ∧ f n = g ∧ C n = C x) := fun q => q.2.1 z
      rw [if_neg n1, if_neg n2]
    · rw [h3 z]
/-- two draws that differ in nothing that counts -/
def DS9_ (d d2 : Dr_) : Prop := (0 ≤ d.n ∧ d.n ≤ d2.n) ∧ (∀ k, 0 ≤ k → k < d.n → d2.E k = d.E k ∧ (d.E k ≠ -1 → d2.C k = d.C k)) ∧ (∀ k, d.n ≤ k → k < d2.n → d2.E k = -1) ∧ d2.G = d.G ∧ d2.L = d.L
theorem ms_c {d d2 : Dr_} {f f2 : Int → Int} {x g : Int} (h : DS9_ d d2) (hf : ∀ k, 0 ≤ k → k < d.n → f2 k = f k) (hx : 0 ≤ x ∧ x < d.n) (he : d.E x ≠ -1) : ms_ d2 f2 x g ↔ ms_ d f x g := by
  obtain ⟨h1, h2, h3, h4, h5⟩ := h
  have ea : alk_ d2.E d2.C f2 x g d2.n.toNat = alk_ d.E d.C f x g d.n.toNat := by
    rw [alk_x (n := d.n.toNat) d2.n.toNat (fun k a b => h3 k (by omega) (by omega)) (by omega)]
    exact alk_c ((h2 x hx.1 hx.2).2 he) d.n.toNat (fun k a b => ⟨(h2 k a (by omega)).1, hf k a (by omega), (h2 k a (by omega)).2⟩)
  unfold ms_
  rw [ea, h5]
  constructor
  · rintro ⟨p, q⟩
    refine ⟨fun k a b c e u v => ?_, q⟩
    have y := (h2 k a b).1
    exact p k a (by omega) c (by rw [y]; exact e) (by rw [hf k a b]; exact u) (by rw [y, (h2 x hx.1 hx.2).1]; exact v)
  · rintro ⟨p, q⟩
    refine ⟨fun k a b c e u v => ?_, q⟩
    by_cases z : k < d.n
    · have y := (h2 k a z).1
      rw [y] at e v
      rw [hf k a z] at u
      rw [(h2 x hx.1 hx.2).1] at v
      exact p k a z c e u v
    · exact e (h3 k (by omega) b)
theorem nw_c {d d2 : Dr_} {fx gp : Int} (h : DS9_ d d2) : ∀ (l : List Int) (f f2 : Int → Int), (∀ z ∈ l, (0 ≤ z ∧ z < d.n) ∧ d.E z ≠ -1) → (∀ k, 0 ≤ k → k < d.n → f2 k = f k) → nw_ d2 fx gp l f2 = nw_ d fx gp l f
  | [], _, _, _, _ => rfl
  | x :: l, f, f2, hl, hf => by
    have q := hl x List.mem_cons_self
    show qs_ (ok_ d2 fx gp f2 x) (fun g => nw_ d2 fx gp l (fu_ f2 x g)) (-1) = qs_ (ok_ d fx gp f x) (fun g => nw_ d fx gp l (fu_ f x g)) (-1)
    refine qs_e (fun g _ _ => ?_) (fun g _ _ _ => nw_c h l _ _ (fun z hz => hl z (List.mem_cons_of_mem _ hz)) (fun k a b => ?_))
    · unfold ok_
      rw [h.2.2.2.1, ms_c h hf q.1 q.2]
    · unfold fu_
      by_cases z : k = x
      · rw [if_pos z, if_pos z]
      · rw [if_neg z, if_neg z]; exact hf k a b
theorem lpk_x {E b : Int → Int} {p : Int} {n : Nat} : ∀ m : Nat, (∀ k : Int, n ≤ k → k < m → E k ≠ p) → n ≤ m → lpk_ E b p m = lpk_ E b p n
  | 0, _, h => by rw [show n = 0 by omega]
  | m + 1, z, h => by
    by_cases e : n = m + 1
    · rw [e]
    · have i := lpk_x (b := b) m (fun k a c => z k a (by omega)) (by omega)
      show lpk_ E b p m ++ (if E m = p ∧ b m = -1 then [((m : Nat) : Int)] else []) = _
      have n1 : ¬ (E m = p ∧ b m = -1) := fun q => z m (by omega) (by omega) q.1
      rw [i, if_neg n1, List.append_nil]
theorem lpk_c {E b E2 b2 : Int → Int} {p : Int} : ∀ n : Nat, (∀ k : Int, 0 ≤ k → k < n → E2 k = E k ∧ b2 k = b k) → lpk_ E2 b2 p n = lpk_ E b p n
  | 0, _ => rfl
  | n + 1, h => by
    have i := lpk_c (p := p) n (fun k a c => h k a (by omega))
    obtain ⟨h1, h2⟩ := h n (by omega) (by omega)
    show lpk_ E2 b2 p n ++ (if E2 n = p ∧ b2 n = -1 then [((n : Nat) : Int)] else []) = lpk_ E b p n ++ (if E n = p ∧ b n = -1 then [((n : Nat) : Int)] else [])
    rw [i, h1, h2]
theorem lq_c {E b E2 b2 : Int → Int} {n m : Nat} (hn : n ≤ m) (h : ∀ k : Int, 0 ≤ k → k < n → E2 k = E k ∧ b2 k = b k) (z : ∀ k : Int, n ≤ k → k < m → E2 k = -1) : ∀ p : Nat, lq_ E2 b2 m p = lq_ E b n p
  | 0 => rfl
  | p + 1 => by
    show lq_ E2 b2 m p ++ lpk_ E2 b2 p m = lq_ E b n p ++ lpk_ E b p n
    rw [lq_c hn h z p, lpk_x m (fun k a c => by rw [z k a c]; omega) hn, lpk_c n h]
section DRW
variable {T : Zt}
/-- both sides' lists, ways -/
theorem lor_l (h : LOR_ T) (hl : LH_ T) (hn : T 108 0 2 = T 111 0 12) (hb : 0 ≤ T 108 0 2 ∧ T 108 0 2 ≤ 12) : lhw_ T = ll_ T := by
  unfold lhw_ ll_
  exact lq_c (by omega) (fun k a b => h.2.1 k a (by omega)) (fun k a b => hl.2.2.2.2.1 k (by omega) (by omega)) 3
theorem lor_n (h : LOR_ T) (hl : LH_ T) (th : THR_ T) (hn : T 108 0 2 = T 111 0 12) (hb : 0 ≤ T 108 0 2 ∧ T 108 0 2 ≤ 12) (fx gp : Int) : nw_ (dh_ T) fx gp (lhw_ T) (ghw_ T) = nw_ (drw_ T) fx gp (ll_ T) (gf_ T) := by
  rw [lor_l h hl hn hb]
  have hd : DS9_ (drw_ T) (dh_ T) := by
    refine ⟨⟨?_, ?_⟩, fun k a b => ?_, fun k a b => ?_, h.1.1, h.1.2.1⟩
    · show 0 ≤ T 111 0 12
      omega
    · show T 111 0 12 ≤ 12
      omega
    · have b2 : k < T 111 0 12 := b
      exact ⟨(h.2.1 k a (by omega)).1, fun _ => (th.1 k a (by omega)).2⟩
    · have a2 : T 111 0 12 ≤ k := a
      have b2 : k < 12 := b
      exact hl.2.2.2.2.1 k (by omega) b2
  refine nw_c hd _ _ _ (fun z hz => ?_) (fun k a b => ?_)
  · have q := ll_m (by omega) hz
    refine ⟨⟨q.1, q.2.1⟩, ?_⟩
    show T 301 0 z ≠ -1
    omega
  · have b2 : k < T 111 0 12 := b
    exact (h.2.1 k a (by omega)).2
/-- the same, of the things with index 0 -/
def kz_ (F : List (Nat × List Int)) (T T' : Zt) : Prop := ∀ k j, fw_ F k j = true → T' k 0 j = T k 0 j
theorem kz_s {F G : List (Nat × List Int)} {T T' : Zt} (h : kz_ G T T') (s : fs_ F G = true) : kz_ F T T' := fun k j w => h k j (fs_sub s w)
theorem kz_o {F : List (Nat × List Int)} {T T' : Zt} (h : ks_ F T T') : kz_ F T T' := fun k j w => h k 0 j w
theorem fw_3 {k : Nat} {j : Int} (n : k ≠ 302) (h : fw_ [(304, []), (305, [])] k j = false) : fw_ [(304, []), (305, []), (302, [])] k j = false := by
  simp [fw_] at h ⊢
  omega
theorem kz_3 {F : List (Nat × List Int)} {T T' : Zt} (f : fr_ [(304, []), (305, []), (302, [])] T T') (e : ∀ j, T' 302 0 j = T 302 0 j) (d : dj_ [(304, []), (305, [])] F = true) : kz_ F T T' := fun k j w => by
  by_cases z : k = 302
  · rw [z]; exact e j
  · refine f k 0 j (fw_3 z ?_)
    cases y : fw_ [(304, []), (305, [])] k j
    · rfl
    · rw [dj_s d y] at w
      cases w
/-- the house's own words under a frame -/
theorem lhw_k {T' : Zt} (h : LH_ T) (k : kz_ [(101, [1, 2, 3, 4, 6, 7, 13]), (108, [2]), (428, []), (429, []), (430, []), (431, []), (432, []), (561, [])] T T') : LH_ T' := by
  obtain ⟨h1, h2, h3, h4, h5, h6⟩ := h
  have eE : (fun j => T' 428 0 j) = (fun j => T 428 0 j) := funext (fun j => k 428 j rfl)
  have eG : (fun j => T' 429 0 j) = (fun j => T 429 0 j) := funext (fun j => k 429 j rfl)
  refine ⟨by rw [k 101 3 rfl, eE]; exact h1, by rw [k 101 4 rfl, eG]; exact h2, fun p a b => by rw [k 430 p rfl, eE, k 101 1 rfl]; exact h3 p a b, fun j a b => by rw [k 428 j rfl, k 429 j rfl]; exact h4 j a b, fun j a b => by rw [k 108 2 rfl] at a; rw [k 428 j rfl]; exact h5 j a b, ?_⟩
  rcases h6 with h6 | h6
  · exact Or.inl (by rw [k 101 7 rfl]; exact h6)
  · refine Or.inr ?_
    unfold FV_
    rw [dh_e (fun j => k 428 j rfl) (fun j => k 561 j rfl) (k 101 1 rfl) (k 101 2 rfl), lhw_e (fun j => k 428 j rfl) (fun j => k 429 j rfl), ghw_e (fun j => k 429 j rfl), k 101 6 rfl]
    exact ⟨h6.1, fun c hc u a b => by rw [k 431 _ rfl]; exact h6.2.1 c hc u a b, (wl_e (fun j => k 432 j rfl) (k 101 13 rfl) (h6.2.2 :) :)⟩
theorem lor_k {T' : Zt} (h : LOR_ T) (k : kz_ [(101, [1, 2, 3, 4, 5, 6, 7, 13]), (108, [2]), (428, []), (429, []), (430, []), (431, []), (432, []), (561, []), (111, [98, 99, 100, 103]), (301, []), (302, [])] T T') : LOR_ T' := by
  obtain ⟨⟨h1, h2, h3, h4⟩, h5, h6⟩ := h
  have e1 := k 101 1 rfl
  have e2 := k 101 2 rfl
  have e5 := k 101 5 rfl
  have f1 := k 111 98 rfl
  have f2 := k 111 99 rfl
  have f3 := k 111 100 rfl
  have f4 := k 111 103 rfl
  refine ⟨⟨by omega, by omega, by omega, by omega⟩, fun j a b => ?_, ?_⟩
  · rw [k 428 j rfl, k 429 j rfl, k 301 j rfl, k 302 j rfl]
    exact h5 j a b
  · rcases h6 with h6 | h6
    · exact Or.inl (by omega)
    · exact Or.inr (lhw_k h6 (kz_s k (by decide +kernel)))
/-- a new club is in no draw -/
theorem lor_c {T' : Zt} {n : Int} (h : LOR_ T) (hn : T 108 0 2 = n) (k : kz_ [(101, [1, 2, 3, 4, 5, 6, 7, 13]), (428, []), (429, []), (430, []), (431, []), (432, []), (111, [98, 99, 100, 103]), (301, []), (302, [])] T T') (g1 : n ≤ T' 108 0 2) (g2 : ∀ j, j ≠ n → T' 561 0 j = T 561 0 j) (g3 : 0 ≤ n) : LOR_ T' := by
  obtain ⟨⟨h1, h2, h3, h4⟩, h5, h6⟩ := h
  have e1 := k 101 1 rfl
  have e2 := k 101 2 rfl
  have e5 := k 101 5 rfl
  have f1 := k 111 98 rfl
  have f2 := k 111 99 rfl
  have f3 := k 111 100 rfl
  have f4 := k 111 103 rfl
  refine ⟨⟨by omega, by omega, by omega, by omega⟩, fun j a b => ?_, ?_⟩
  · rw [k 428 j rfl, k 429 j rfl, k 301 j rfl, k 302 j rfl]
    exact h5 j a b
  · rcases h6 with h6 | ⟨q1, q2, q3, q4, q5, q6⟩
    · exact Or.inl (by omega)
    · have eE : (fun j => T' 428 0 j) = (fun j => T 428 0 j) := funext (fun j => k 428 j rfl)
      have eG : (fun j => T' 429 0 j) = (fun j => T 429 0 j) := funext (fun j => k 429 j rfl)
      refine Or.inr ⟨by rw [k 101 3 rfl, eE]; exact q1, by rw [k 101 4 rfl, eG]; exact q2, fun p a b => by rw [k 430 p rfl, eE, k 101 1 rfl]; exact q3 p a b, fun j a b => by rw [k 428 j rfl, k 429 j rfl]; exact q4 j a b, fun j a b => by rw [k 428 j rfl]; exact q5 j (by omega) b, ?_⟩
      rcases q6 with q6 | q6
      · exact Or.inl (by rw [k 101 7 rfl]; exact q6)
      · refine Or.inr ?_
        have hd : DS9_ (dh_ T) (dh_ T') := by
          refine ⟨⟨show (0 : Int) ≤ 12 by decide, show (12 : Int) ≤ 12 by decide⟩, fun j a b => ⟨k 428 j rfl, fun c => g2 j (fun z => c ?_)⟩, fun j a b => absurd b (by show ¬ j < 12; have a2 : 12 ≤ j := a; omega), e1, e2⟩
          exact q5 j (by omega) b
        have e : ∀ fx gp, nw_ (dh_ T') fx gp (lhw_ T) (ghw_ T) = nw_ (dh_ T) fx gp (lhw_ T) (ghw_ T) := fun fx gp => nw_c hd _ _ _ (fun z hz => ⟨⟨(lhw_m hz).1, (lhw_m hz).2.1⟩, by show T 428 0 z ≠ -1; have := lhw_m hz; omega⟩) (fun _ _ _ => rfl)
        unfold FV_
        rw [lhw_e (fun j => k 428 j rfl) (fun j => k 429 j rfl), ghw_e (fun j => k 429 j rfl), k 101 6 rfl, e]
        exact ⟨q6.1, fun c hc u a b => by rw [k 431 _ rfl, e]; exact q6.2.1 c hc u a b, (wl_e (fun j => k 432 j rfl) (k 101 13 rfl) (q6.2.2 :) :)⟩
/-- the counts are fresh -/
theorem lor_r {T1 : Zt} (h : LOR_ T) (hg : T 101 0 1 ≠ 0) (f : fr_ [(101, [13, 6, 7]), (434, []), (435, []), (431, []), (432, [])] T T1) (r : RFP_ T T1) : LOR_ T1 ∧ LH_ T1 ∧ FV_ T1 := by
  have hl := h.2.2.resolve_left hg
  have q : LH_ T1 ∧ FV_ T1 := by
    rcases r with ⟨r1, r2⟩ | ⟨r1, r2, r3⟩
    · rw [r2]
      exact ⟨hl, hl.2.2.2.2.2.resolve_left r1⟩
    · obtain ⟨h1, h2, h3, h4, h5, h6⟩ := hl
      refine ⟨⟨by rw [f 101 0 3 rfl, show (fun k => T1 428 0 k) = (fun k => T 428 0 k) from funext (fun k => f 428 0 k rfl)]; exact h1, by rw [f 101 0 4 rfl, show (fun k => T1 429 0 k) = (fun k => T 429 0 k) from funext (fun k => f 429 0 k rfl)]; exact h2, fun p a b => by rw [f 430 0 p rfl, f 101 0 1 rfl, show (fun k => T1 428 0 k) = (fun k => T 428 0 k) from funext (fun k => f 428 0 k rfl)]; exact h3 p a b, fun k a b => by rw [f 428 0 k rfl, f 429 0 k rfl]; exact h4 k a b, fun k a b => by rw [f 108 0 2 rfl] at a; rw [f 428 0 k rfl]; exact h5 k a b, Or.inr r3⟩, r3⟩
  refine ⟨⟨⟨?_, ?_, ?_, ?_⟩, fun k a b => ?_, Or.inr q.1⟩, q.1, q.2⟩
  · rw [f 101 0 1 rfl, f 111 0 99 rfl]; exact h.1.1
  · rw [f 101 0 2 rfl, f 111 0 100 rfl]; exact h.1.2.1
  · rw [f 101 0 5 rfl, f 111 0 103 rfl]; exact h.1.2.2.1
  · rw [f 101 0 1 rfl, f 111 0 98 rfl]; exact h.1.2.2.2
  · rw [f 428 0 k rfl, f 429 0 k rfl, f 301 0 k rfl, f 302 0 k rfl]; exact h.2.1 k a b
theorem lor_3 {T' : Zt} (h : LOR_ T) (f : fr_ [(304, []), (305, []), (302, [])] T T') (e : ∀ j, T' 302 0 j = T 302 0 j) : LOR_ T' := lor_k h (kz_3 f e (by decide +kernel))
end DRW
/-- a new draw, both sides -/
theorem lor_d {T T1 T2 : Zt} {g l x1 x2 : Int} (h : LOR_ T) (hc : 0 ≤ T 108 0 2) (d1 : NDH_ T T1 g l x1) (f1 : fr_ [(101, [1, 2, 3, 4, 7]), (428, []), (429, []), (430, [])] T T1) (d2 : NDR_ T1 T2 g l x2) (f2 : fr_ [(111, [98, 99, 100]), (301, []), (302, [])] T1 T2) : x1 = x2 ∧ LOR_ T2 := by
  rcases d1 with ⟨a1, a2, a3⟩ | ⟨a1, a2, a3, a4, a5, a6, a7, a8, a9⟩
  · rcases d2 with ⟨b1, b2, b3⟩ | ⟨b1, b2⟩
    · rw [b1, a1]
      exact ⟨by omega, h⟩
    · exact absurd b1 a3
  · rcases d2 with ⟨b1, b2, b3⟩ | ⟨b1, b2, b3, b4, b5, b6⟩
    · exact absurd a1 b3
    · have e1 := f2 101 0 1 rfl
      have e2 := f2 101 0 2 rfl
      have e5 := f2 101 0 5 rfl
      have e6 := f1 101 0 5 rfl
      have g5 := f2 111 0 103 rfl
      have g6 := f1 111 0 103 rfl
      have h5 := h.1.2.2.1
      refine ⟨by omega, ⟨by omega, by omega, by omega, by omega⟩, fun k p q => ?_, Or.inr ⟨?_, ?_, fun p p1 p2 => ?_, fun k p q r => ?_, fun k p q => ?_, Or.inl ?_⟩⟩
      · rw [f2 428 0 k rfl, f2 429 0 k rfl, (a8 k p q).1, (a8 k p q).2, (b6 k p q).1, (b6 k p q).2]
        exact ⟨rfl, rfl⟩
      · rw [f2 101 0 3 rfl, a5, cnz_a 12 (fun k p q => by rw [f2 428 0 k rfl]; exact (a8 k p (by omega)).1)]
        rfl
      · rw [f2 101 0 4 rfl, a6, cnz_a 12 (fun k p q => by rw [f2 429 0 k rfl]; exact (a8 k p (by omega)).2)]
        rfl
      · rw [f2 430 0 p rfl, a9 p p1 (by omega), cnz_n 12 (fun k u v => by rw [f2 428 0 k rfl, (a8 k u (by omega)).1]; omega)]
        exact ⟨rfl, by omega⟩
      · rw [f2 429 0 k rfl]; exact (a8 k p q).2
      · rw [f2 428 0 k rfl]; exact (a8 k (by rw [f2 108 0 2 rfl, f1 108 0 2 rfl] at p; omega) q).1
      · rw [f2 101 0 7 rfl]; exact a7
/-- a club comes into a pot, both sides -/
theorem lor_p {T T1 T2 : Zt} {c k x1 x2 : Int} (h : LOR_ T) (hn : T 108 0 2 = T 111 0 12) (hb : T 108 0 2 ≤ 12) (d1 : PTH_ T T1 c k x1) (f1 : fr_ [(428, []), (430, []), (101, [3, 7])] T T1) (d2 : PTR_ T1 T2 c k x2) (f2 : fr_ [(301, [])] T1 T2) : x1 = x2 ∧ LOR_ T2 := by
  have g12 := f1 111 0 12 rfl
  have g98 := f1 111 0 98 rfl
  have g99 := f1 111 0 99 rfl
  have eG : (fun j => T1 302 0 j) = (fun j => T 302 0 j) := funext (fun j => f1 302 0 j rfl)
  have eE : (fun j => T1 301 0 j) = (fun j => T 301 0 j) := funext (fun j => f1 301 0 j rfl)
  have ec := f1 301 0 c rfl
  unfold PTR_ at d2
  rw [eG, eE, g12, g98, g99, ec] at d2
  obtain ⟨⟨h1, h2, h3, h4⟩, h5, h6⟩ := h
  have key : (0 ≤ c ∧ c < T 108 0 2) → ((T 101 0 1 = 0 ∨ T 428 0 c ≠ -1 ∨ 0 < T 101 0 4) ↔ (T 111 0 98 = 0 ∨ T 301 0 c ≠ -1 ∨ cnz_ (fun j => T 302 0 j) (-1) 12 < 12)) := fun hc => by
    have z := (h5 c hc.1 (by omega)).1
    rcases h6 with h6 | h6
    · constructor
      · intro _; exact Or.inl (by omega)
      · intro _; exact Or.inl h6
    · have y := h6.2.1
      have y2 : cnz_ (fun j => T 429 0 j) (-1) 12 = cnz_ (fun j => T 302 0 j) (-1) 12 := cnz_e 12 (fun j a b => (h5 j a (by omega)).2)
      omega
  have pots : ∀ p, 0 ≤ p → p < 3 → T 101 0 1 ≠ 0 → T 430 0 p = cnz_ (fun j => T 301 0 j) p 12 ∧ T 430 0 p ≤ T 101 0 1 := fun p a b d => by
    have y := (h6.resolve_left d).2.2.1 p a (by omega)
    have y2 : cnz_ (fun j => T 428 0 j) p 12 = cnz_ (fun j => T 301 0 j) p 12 := cnz_e 12 (fun j a b => (h5 j a (by omega)).1)
    omega
  rcases d1 with ⟨rfl, a⟩ | ⟨a1, a2, a3, a4, a5, a6, a7, a8, a9⟩
  · rcases d2 with ⟨rfl, b⟩ | ⟨b1, b2, b3, b4, b5, b6⟩
    · refine ⟨?_, ⟨h1, h2, h3, h4⟩, h5, h6⟩
      rcases a with ⟨u1, u2⟩ | ⟨u1, u2, u3⟩ | ⟨u1, u2, u3, u4⟩ | ⟨u1, u2, u3, u4, u5⟩
      · rcases b with ⟨v1, v2⟩ | ⟨v1, v2, v3⟩ | ⟨v1, v2, v3, v4⟩ | ⟨v1, v2, v3, v4, v5⟩
        · omega
        · exact absurd (by omega) u2
        · exact absurd (by omega) u2
        · exact absurd (by omega) u2
      · rcases b with ⟨v1, v2⟩ | ⟨v1, v2, v3⟩ | ⟨v1, v2, v3, v4⟩ | ⟨v1, v2, v3, v4, v5⟩
        · exact absurd (by omega) v2
        · omega
        · exact absurd v2 u3
        · exact absurd v2 u3
      · rcases b with ⟨v1, v2⟩ | ⟨v1, v2, v3⟩ | ⟨v1, v2, v3, v4⟩ | ⟨v1, v2, v3, v4, v5⟩
        · exact absurd (by omega) v2
        · exact absurd u2 v3
        · omega
        · exact absurd ((key u1).mp u4) v3
      · rcases b with ⟨v1, v2⟩ | ⟨v1, v2, v3⟩ | ⟨v1, v2, v3, v4⟩ | ⟨v1, v2, v3, v4, v5⟩
        · exact absurd (by omega) v2
        · exact absurd u2 v3
        · exact absurd ((key u1).mpr v4) u3
        · omega
    · exfalso
      have p1 : 0 ≤ c ∧ c < T1 108 0 2 := by omega
      rcases a with ⟨u1, u2⟩ | ⟨u1, u2, u3⟩ | ⟨u1, u2, u3, u4⟩ | ⟨u1, u2, u3, u4, u5⟩
      · exact u2 p1
      · exact u3 b2
      · exact b3 ((key u1).mp u4)
      · have y := pots k b2.1 b2.2 (fun z => u3 (Or.inl z))
        omega
  · have y := pots k a2.1 a2.2 (fun z => a3 (Or.inl z))
    have hg : T 101 0 1 ≠ 0 := fun z => a3 (Or.inl z)
    have hec : T 428 0 c = -1 := Classical.byContradiction (fun z => a3 (Or.inr (Or.inl z)))
    rcases d2 with ⟨e2, b⟩ | ⟨b1, b2, b3, b4, b5, b6, b7⟩
    · exfalso
      rcases b with ⟨v1, v2⟩ | ⟨v1, v2, v3⟩ | ⟨v1, v2, v3, v4⟩ | ⟨v1, v2, v3, v4, v5⟩
      · exact v2 (by omega)
      · exact v3 a2
      · exact a3 ((key a1).mpr v4)
      · omega
    · have e1 := f2 101 0 1 rfl
      have e1b := f1 101 0 1 rfl
      have e2 := f2 101 0 2 rfl
      have e2b := f1 101 0 2 rfl
      have e5 := f2 101 0 5 rfl
      have e5b := f1 101 0 5 rfl
      have k98 := f2 111 0 98 rfl
      have k99 := f2 111 0 99 rfl
      have k100 := f2 111 0 100 rfl
      have k100b := f1 111 0 100 rfl
      have k103 := f2 111 0 103 rfl
      have k103b := f1 111 0 103 rfl
      obtain ⟨q1, q2, q3, q4, q5, q6⟩ := h6.resolve_left hg
      have uE : ∀ v, cnz_ (fun j => T1 428 0 j) v 12 = cnz_ (fun j => T 428 0 j) v 12 - (if T 428 0 c = v then 1 else 0) + (if T1 428 0 c = v then 1 else 0) := fun v => cnz_u (f := fun j => T 428 0 j) (g := fun j => T1 428 0 j) (x := c) a1.1 (fun j hj => a6.2 j hj) 12 (by omega)
      have s2 : ∀ v, cnz_ (fun j => T2 428 0 j) v 12 = cnz_ (fun j => T1 428 0 j) v 12 := fun v => cnz_e 12 (fun j _ _ => f2 428 0 j rfl)
      refine ⟨by omega, ⟨by omega, by omega, by omega, by omega⟩, fun j p q => ?_, Or.inr ⟨?_, ?_, fun p p1 p2 => ?_, fun j p q r => ?_, fun j p q => ?_, Or.inl ?_⟩⟩
      · rw [f2 428 0 j rfl, f2 429 0 j rfl, f1 429 0 j rfl, f2 302 0 j rfl, f1 302 0 j rfl]
        refine ⟨?_, (h5 j p q).2⟩
        by_cases z : j = c
        · rw [z, a6.1, b6]
        · rw [a6.2 j z, b7 j z, f1 301 0 j rfl]; exact (h5 j p q).1
      · rw [s2, uE, if_pos hec, if_neg (show ¬ T1 428 0 c = -1 by omega), f2 101 0 3 rfl]
        omega
      · rw [f2 101 0 4 rfl, f1 101 0 4 rfl, show (fun j => T2 429 0 j) = (fun j => T 429 0 j) from funext (fun j => (f2 429 0 j rfl).trans (f1 429 0 j rfl))]
        exact q2
      · rw [s2, uE, if_neg (show ¬ T 428 0 c = p by omega), f2 430 0 p rfl]
        have w := q3 p p1 p2
        by_cases z : p = k
        · rw [if_pos (show T1 428 0 c = p by omega), z, a7.1]
          rw [z] at w
          omega
        · rw [if_neg (show ¬ T1 428 0 c = p by omega), a7.2 p z]
          omega
      · rw [f2 428 0 j rfl] at r
        rw [f2 429 0 j rfl, f1 429 0 j rfl]
        by_cases z : j = c
        · rw [z, a6.1] at r; omega
        · rw [a6.2 j z] at r; exact q4 j p q r
      · rw [f2 108 0 2 rfl, f1 108 0 2 rfl] at p
        rw [f2 428 0 j rfl, a6.2 j (by omega)]
        exact q5 j p q
      · rw [f2 101 0 7 rfl]; exact a9
/-- ways, both sides -/
theorem lor_w {T T1 T2 : Zt} {x1 x2 : Int} (h : LOR_ T) (hn : T 108 0 2 = T 111 0 12) (hb : 0 ≤ T 108 0 2 ∧ T 108 0 2 ≤ 12) (d1 : WYH_ T T1 x1) (f1 : fr_ [(101, [13, 6, 7]), (434, []), (435, []), (431, []), (432, [])] T T1) (th : THR_ T1) (d2 : WYR_ T1 T2 x2) (f2 : fr_ [(304, []), (305, []), (302, [])] T1 T2) : x1 = x2 ∧ LOR_ T2 := by
  have g98 := f1 111 0 98 rfl
  have k := h.1.2.2.2
  rcases d1 with ⟨rfl, a2, a3⟩ | ⟨a1, a2, a3⟩
  · rcases d2 with ⟨rfl, b2, b3⟩ | ⟨b1, b2, b3⟩
    · exact ⟨by omega, h⟩
    · exfalso; omega
  · obtain ⟨r1, r2, r3⟩ := lor_r h a1 f1 a2
    rcases d2 with ⟨e2, b2, b3⟩ | ⟨b1, b2, b3⟩
    · exfalso; omega
    · refine ⟨?_, lor_3 r1 f2 b2⟩
      have y := lor_n r1 r2 th (by rw [f1 108 0 2 rfl, f1 111 0 12 rfl]; exact hn) (by rw [f1 108 0 2 rfl]; exact hb) (-1) (-1)
      rw [a3, r3.1, b3, y]
/-- chance, both sides -/
theorem lor_h {T T1 T2 : Zt} {c g x1 x2 : Int} (h : LOR_ T) (hn : T 108 0 2 = T 111 0 12) (hb : 0 ≤ T 108 0 2 ∧ T 108 0 2 ≤ 12) (hE : ∀ j, 0 ≤ j → -1 ≤ T 428 0 j ∧ T 428 0 j ≤ 2) (hG : T 101 0 1 ≤ 4) (d1 : CHH_ T T1 c g x1) (f1 : fr_ [(101, [13, 6, 7]), (434, []), (435, []), (431, []), (432, [])] T T1) (th : THR_ T1) (d2 : CHR_ T1 T2 c g x2) (f2 : fr_ [(304, []), (305, []), (302, [])] T1 T2) : x1 = x2 ∧ LOR_ T2 := by
  have g98 := f1 111 0 98 rfl
  have g12 := f1 111 0 12 rfl
  have g99 := f1 111 0 99 rfl
  have g301 := f1 301 0 c rfl
  have k := h.1.2.2.2
  have k1 := h.1.1
  have kc : (0 ≤ c ∧ c < T 108 0 2) → T 428 0 c = T 301 0 c := fun z => (h.2.1 c z.1 (by omega)).1
  unfold CHR_ at d2
  rw [g98, g12, g99, g301] at d2
  have kk : ((0 ≤ c ∧ c < T 108 0 2) ∧ T 101 0 1 ≠ 0 ∧ T 428 0 c ≠ -1) ↔ ((0 ≤ c ∧ c < T 111 0 12) ∧ T 111 0 98 ≠ 0 ∧ T 301 0 c ≠ -1) := by
    constructor
    · rintro ⟨u, v, w⟩
      have := kc u
      exact ⟨by omega, by omega, by omega⟩
    · rintro ⟨u, v, w⟩
      have := kc (by omega)
      exact ⟨by omega, by omega, by omega⟩
  rcases d1 with ⟨rfl, a⟩ | ⟨a1, a2, a3, a4⟩
  · rcases d2 with ⟨rfl, b⟩ | ⟨b1, b2, b3⟩
    · refine ⟨?_, h⟩
      rcases a with ⟨u1, u2⟩ | ⟨u1, u2, u3⟩
      · rcases b with ⟨v1, v2⟩ | ⟨v1, v2, v3⟩
        · omega
        · exact absurd (kk.mpr v1) u2
      · rcases b with ⟨v1, v2⟩ | ⟨v1, v2, v3⟩
        · exact absurd (kk.mp u1) v2
        · omega
    · exfalso
      rcases a with ⟨u1, u2⟩ | ⟨u1, u2, u3⟩
      · exact u2 (kk.mpr b1)
      · exact u3 (by omega)
  · rcases d2 with ⟨e2, b⟩ | ⟨b1, b2, b3, b4⟩
    · exfalso
      rcases b with ⟨v1, v2⟩ | ⟨v1, v2, v3⟩
      · exact v2 (kk.mp a1)
      · exact v3 (by omega)
    · obtain ⟨r1, r2, r3⟩ := lor_r h a1.2.1 f1 a3
      refine ⟨?_, lor_3 r1 f2 b3⟩
      have y := lor_n r1 r2 th (by rw [f1 108 0 2 rfl, f1 111 0 12 rfl]; exact hn) (by rw [f1 108 0 2 rfl]; exact hb)
      have ef : T1 429 0 c = T1 302 0 c := (r1.2.1 c a1.1.1 (by omega)).2
      rcases a4 with ⟨a4, a5⟩ | ⟨a4, a5⟩
      · have w := y (-1) (-1)
        have w2 := r3.1
        rw [w] at w2
        rcases b4 with ⟨b4, b5⟩ | ⟨b4, b5⟩
        · omega
        · exfalso; omega
      · rcases b4 with ⟨b4, b5⟩ | ⟨b4, b5⟩
        · exfalso; omega
        · have e1 := f1 428 0 c rfl
          have e2 := hE c a1.1.1
          have m : c ∈ lhw_ T1 := lhw_i a1.1.1 (by omega) a4 (by omega) (by omega)
          rw [a5, r3.2.1 c m g a2.1 (by omega), b5, y]
/-- drawn, both sides -/
theorem lor_q {T : Zt} {c x1 x2 : Int} (h : LOR_ T) (hn : T 108 0 2 = T 111 0 12) (hb : T 108 0 2 ≤ 12) (d1 : DWH_ T c x1) (d2 : DWR_ T c x2) : x1 = x2 := by
  have k := h.1.2.2.2
  rcases d1 with ⟨a1, a2⟩ | ⟨a1, a2⟩
  · rcases d2 with ⟨b1, b2⟩ | ⟨b1, b2⟩
    · omega
    · exact absurd (by omega) a2
  · have z := (h.2.1 c a1.1 (by omega)).2
    rcases d2 with ⟨b1, b2⟩ | ⟨b1, b2⟩
    · exact absurd (by omega) b2
    · omega
theorem fw_4 {k : Nat} {j : Int} (n : k ≠ 302) (m : ¬ (k = 111 ∧ j = 103)) (h : fw_ [(304, []), (305, [])] k j = false) : fw_ [(304, []), (305, []), (302, []), (111, [103])] k j = false := by
  simp [fw_] at h ⊢
  omega
theorem kz_4 {F : List (Nat × List Int)} {T T' : Zt} (f : fr_ [(304, []), (305, []), (302, []), (111, [103])] T T') (e : ∀ j, T' 302 0 j = T 302 0 j) (e2 : T' 111 0 103 = T 111 0 103) (d : dj_ [(304, []), (305, [])] F = true) : kz_ F T T' := fun k j w => by
  by_cases z : k = 302
  · rw [z]; exact e j
  · by_cases y : k = 111 ∧ j = 103
    · rw [y.1, y.2]; exact e2
    · refine f k 0 j (fw_4 z y ?_)
      cases y : fw_ [(304, []), (305, [])] k j
      · rfl
      · rw [dj_s d y] at w
        cases w
theorem cen_e {T T1 : Zt} {p : Int} (a : ∀ k, T1 301 0 k = T 301 0 k) (b : ∀ k, T1 302 0 k = T 302 0 k) : ∀ n : Nat, cen_ T1 p n = cen_ T p n
  | 0 => rfl
  | n + 1 => by
    show cen_ T1 p n + (if T1 301 0 (n : Int) = p ∧ T1 302 0 (n : Int) = -1 then (1 : Int) else 0) = cen_ T p n + (if T 301 0 (n : Int) = p ∧ T 302 0 (n : Int) = -1 then (1 : Int) else 0)
    rw [cen_e a b n, a, b]
/-- a ball of the reference, told by another picture with the same reference -/
theorem blr_t {T T1 T2 : Zt} {s b x : Int} (a : ∀ k, T1 301 0 k = T 301 0 k) (c : ∀ k, T1 302 0 k = T 302 0 k) (d : ∀ k, T1 214 0 k = T 214 0 k) (e : ∀ j, T1 111 0 j = T 111 0 j) (h : BLR_ T1 T2 s b x) : BLR_ T T2 s b x := by
  have h0 : ∀ fx gp, nw_ (drw_ T1) fx gp (ll_ T1) (gf_ T1) = nw_ (drw_ T) fx gp (ll_ T) (gf_ T) := fun fx gp => by
    rw [drw_e a d (e 12) (e 99) (e 100), ll_e a c (e 12), gf_e c]
  have h1 : BR0_ T1 = BR0_ T := by
    unfold BR0_
    rw [h0]
  have h2 : ∀ p k, cel_ T1 p k = cel_ T p k := fun p k => cen_e a c _
  have h3 : ∀ c g, sgm_ T1 c g = sgm_ T c g := fun c g => by
    unfold sgm_
    rw [h0, h0, h0, h0]
  rcases h with ⟨q1, q2, q3, q4⟩ | ⟨q1, q2, s0, p, cc, g, u1, ⟨u2, j0, v1, v2, v3, v4⟩, u3, ⟨w1, w2, w3, w4, w5⟩, u4, ⟨u5, u6⟩, u7, u8, u9, u10⟩
  · refine Or.inl ⟨q1, fun k => (q2 k).trans (c k), q3.trans (e 103), ?_⟩
    rw [h1, e 98, e 12] at q4
    rcases q4 with q4 | q4 | q4
    · exact Or.inl q4
    · exact Or.inr (Or.inl (fun j z1 z2 z3 => by rw [← c]; exact q4 j z1 z2 (by rw [a]; exact z3)))
    · exact Or.inr (Or.inr q4)
  · rw [e 98] at q1
    rw [h1] at q2 u5 u6 u7
    rw [e 103] at u1
    rw [e 12] at v2 w2 w5 u5 u6 u7
    rw [h2] at w5 u5 u6 u7
    rw [h2] at w5
    rw [h3] at u5 u6
    rw [a] at w3 v3
    rw [c] at w4 v4
    refine Or.inr ⟨q1, q2, s0, p, cc, g, u1, ⟨u2, j0, v1, v2, v3, v4⟩, fun j z1 z2 z3 z4 => ?_, ⟨w1, w2, w3, w4, w5⟩, u4, ⟨u5, u6⟩, u7, u8, fun j hj => (u9 j hj).trans (c j), u10⟩
    have y := u3 j z1 (by rw [e 12]; exact z2) (by rw [a]; exact z3) (by rw [c]; exact z4)
    rw [a] at y
    exact y
theorem cen_l {T : Zt} {p : Int} : ∀ n : Nat, cen_ T p n = ((lpk_ (fun k => T 301 0 k) (gf_ T) p n).length : Int)
  | 0 => rfl
  | n + 1 => by
    show cen_ T p n + (if T 301 0 (n : Int) = p ∧ T 302 0 (n : Int) = -1 then (1 : Int) else 0) = ((lpk_ (fun k => T 301 0 k) (gf_ T) p n ++ (if T 301 0 (n : Int) = p ∧ gf_ T n = -1 then [((n : Nat) : Int)] else [])).length : Int)
    have i := cen_l (T := T) (p := p) n
    rw [List.length_append]
    by_cases z : T 301 0 (n : Int) = p ∧ T 302 0 (n : Int) = -1
    · have z2 : T 301 0 (n : Int) = p ∧ gf_ T n = -1 := z
      rw [if_pos z, if_pos z2, List.length_singleton]; omega
    · have z2 : ¬ (T 301 0 (n : Int) = p ∧ gf_ T n = -1) := z
      rw [if_neg z, if_neg z2, List.length_nil]; omega
theorem lpk_g {E b : Int → Int} {p : Int} {n : Nat} : ∀ m : Nat, n ≤ m → (lpk_ E b p n).length ≤ (lpk_ E b p m).length
  | 0, h => by rw [show n = 0 by omega]; exact Nat.le_refl _
  | m + 1, h => by
    by_cases e : n = m + 1
    · rw [e]; exact Nat.le_refl _
    · have i := lpk_g (E := E) (b := b) (p := p) (n := n) m (by omega)
      show _ ≤ (lpk_ E b p m ++ _).length
      rw [List.length_append]; omega
theorem lpk_u {E b : Int → Int} {p c c2 : Int} (h0 : 0 ≤ c) (h1 : E c = p ∧ b c = -1) (h : c < c2) : (lpk_ E b p c.toNat).length < (lpk_ E b p c2.toNat).length := by
  have i := lpk_g (E := E) (b := b) (p := p) (n := (c + 1).toNat) c2.toNat (by omega)
  rw [lpk_t h0 h1, List.length_append, List.length_singleton] at i
  omega
theorem wl_a {T : Zt} {r : List Int} : ∀ {l : List Int} {k : Int}, WL_ T (l ++ r) k → WB_ T l k ∧ WL_ T r (k + (l.length : Int))
  | [], k, h => ⟨trivial, by rw [List.length_nil, show k + ((0 : Nat) : Int) = k by omega]; exact h⟩
  | x :: l, k, h => by
    have i := wl_a (r := r) h.2
    refine ⟨⟨h.1, i.1⟩, ?_⟩
    rw [List.length_cons, show k + ((l.length + 1 : Nat) : Int) = k + 1 + (l.length : Int) by omega]
    exact i.2
theorem wb_a {T : Zt} {r : List Int} : ∀ {l : List Int} {k : Int}, WB_ T (l ++ r) k → WB_ T l k ∧ WB_ T r (k + (l.length : Int))
  | [], k, h => ⟨trivial, by rw [List.length_nil, show k + ((0 : Nat) : Int) = k by omega]; exact h⟩
  | x :: l, k, h => by
    have i := wb_a (r := r) h.2
    refine ⟨⟨h.1, i.1⟩, ?_⟩
    rw [List.length_cons, show k + ((l.length + 1 : Nat) : Int) = k + 1 + (l.length : Int) by omega]
    exact i.2
theorem wb_i {T : Zt} : ∀ {l : List Int} {k i : Int}, WB_ T l k → 0 ≤ i → i < (l.length : Int) → T 432 0 (k + i) ∈ l
  | [], _, _, _, a, b => by rw [List.length_nil] at b; omega
  | x :: l, k, i, h, a, b => by
    by_cases z : i = 0
    · rw [z, show k + 0 = k by omega, h.1]; exact List.mem_cons_self
    · have q := wb_i (i := i - 1) h.2 (by omega) (by rw [List.length_cons] at b; omega)
      rw [show k + 1 + (i - 1) = k + i by omega] at q
      exact List.mem_cons_of_mem _ q
/-- the w-th of a pot stands behind w of them -/
theorem lpk_w {T : Zt} {E b : Int → Int} {p : Int} : ∀ n : Nat, WB_ T (lpk_ E b p n) 0 → ∀ w, 0 ≤ w → w < ((lpk_ E b p n).length : Int) → ((lpk_ E b p (T 432 0 w).toNat).length : Int) = w
  | 0, _, w, a, c => by
    have c2 : w < ((0 : Nat) : Int) := c
    omega
  | n + 1, h, w, a, c => by
    have h2 : WB_ T (lpk_ E b p n ++ (if E n = p ∧ b n = -1 then [((n : Nat) : Int)] else [])) 0 := h
    have c2 : w < ((lpk_ E b p n ++ (if E n = p ∧ b n = -1 then [((n : Nat) : Int)] else [])).length : Int) := c
    by_cases z : E n = p ∧ b n = -1
    · rw [if_pos z] at h2 c2
      obtain ⟨g1, g2⟩ := wb_a h2
      rw [List.length_append, List.length_singleton] at c2
      by_cases y : w = ((lpk_ E b p n).length : Int)
      · have e : T 432 0 w = ((n : Nat) : Int) := by
          have g3 := g2.1
          rw [show (0 : Int) + ((lpk_ E b p n).length : Int) = w by omega] at g3
          exact g3
        rw [e, show (((n : Nat) : Int)).toNat = n by omega]
        exact y.symm
      · exact lpk_w n g1 w a (by omega)
    · rw [if_neg z, List.append_nil] at h2 c2
      exact lpk_w n h2 w a c2
theorem cnz_m {f : Int → Int} {v : Int} {m : Nat} : ∀ n : Nat, m ≤ n → (∀ k : Int, 0 ≤ k → k < m → f k = v) → (∀ k : Int, m ≤ k → k < n → f k ≠ v) → cnz_ f v n = m
  | 0, h, _, _ => by rw [show m = 0 by omega]; rfl
  | n + 1, h, a, b => by
    by_cases e : m = n + 1
    · rw [e] at a ⊢
      exact cnz_a (n + 1) a
    · have i := cnz_m (f := f) (v := v) n (by omega) a (fun k p q => b k p (by omega))
      show cnz_ f v n + (if f n = v then (1 : Int) else 0) = _
      rw [i, if_neg (b n (by omega) (by omega)), Int.add_zero]
theorem lq_p {N : Nat} {E b : Int → Int} {p : Int} (hp : 0 ≤ p ∧ p ≤ 2) (hl : ∀ q, 0 ≤ q → q < p → lpk_ E b q N = []) : ∃ R, lq_ E b N 3 = lpk_ E b p N ++ R ∧ ∀ z ∈ R, E z ≠ p := by
  have e : lq_ E b N 3 = (([] ++ lpk_ E b 0 N) ++ lpk_ E b 1 N) ++ lpk_ E b 2 N := rfl
  rcases (by omega : p = 0 ∨ p = 1 ∨ p = 2) with z | z | z
  · subst z
    refine ⟨lpk_ E b 1 N ++ lpk_ E b 2 N, by rw [e, List.nil_append, List.append_assoc], fun x hx => ?_⟩
    rcases List.mem_append.mp hx with q | q
    · have := lpk_m q; omega
    · have := lpk_m q; omega
  · subst z
    refine ⟨lpk_ E b 2 N, by rw [e, hl 0 (by decide) (by decide), List.nil_append, List.nil_append], fun x hx => ?_⟩
    have := lpk_m hx; omega
  · subst z
    refine ⟨[], by rw [e, hl 0 (by decide) (by decide), hl 1 (by decide) (by decide), List.nil_append, List.nil_append, List.nil_append, List.append_nil], fun x hx => absurd hx List.not_mem_nil⟩
/-- the first pot that waits, how many are in it, and its w-th club -/
theorem who_n {N : Nat} {T : Zt} {E b : Int → Int} {p : Int} (hE : ∀ k, T 428 0 k = E k) (hw : WL_ T (lq_ E b N 3) 0) (hp : 0 ≤ p ∧ p ≤ 2) (hl : ∀ q, 0 ≤ q → q < p → lpk_ E b q N = []) (hn : 0 < (lpk_ E b p N).length) : T 428 0 (T 432 0 0) = p ∧ cpw_ T p (T 101 0 13).toNat = ((lpk_ E b p N).length : Int) ∧ ∀ w, 0 ≤ w → w < ((lpk_ E b p N).length : Int) → (0 ≤ T 432 0 w ∧ T 432 0 w < (N : Int) ∧ E (T 432 0 w) = p ∧ b (T 432 0 w) = -1) ∧ ((lpk_ E b p (T 432 0 w).toNat).length : Int) = w := by
  have wc := wl_c hw
  obtain ⟨R, e, hR⟩ := lq_p hp hl
  rw [e] at hw wc
  obtain ⟨g1, g2⟩ := wl_a hw
  rw [List.length_append] at wc
  have m1 : ∀ w, 0 ≤ w → w < ((lpk_ E b p N).length : Int) → T 432 0 w ∈ lpk_ E b p N := fun w a c => by
    have q := wb_i g1 a c
    rwa [show (0 : Int) + w = w by omega] at q
  refine ⟨?_, ?_, fun w a c => ⟨?_, lpk_w N g1 w a c⟩⟩
  · rw [hE]
    exact (lpk_m (m1 0 (by decide) (by omega))).2.2.1
  · refine cnz_m _ (by omega) (fun k a c => ?_) (fun k a c => ?_)
    · show T 428 0 (T 432 0 k) = p
      rw [hE]
      exact (lpk_m (m1 k a c)).2.2.1
    · show T 428 0 (T 432 0 k) ≠ p
      rw [hE]
      have q := wl_i (i := k - ((lpk_ E b p N).length : Int)) g2 (by omega) (by omega)
      rw [show (0 : Int) + ((lpk_ E b p N).length : Int) + (k - ((lpk_ E b p N).length : Int)) = k by omega] at q
      exact hR _ q
  · have q := lpk_m (m1 w a c)
    have q2 := q.2.1
    exact ⟨q.1, q2, q.2.2.1, q.2.2.2⟩
theorem who_ {T : Zt} {E b : Int → Int} {p : Int} (hE : ∀ k, T 428 0 k = E k) (hw : WL_ T (lq_ E b 12 3) 0) (hp : 0 ≤ p ∧ p ≤ 2) (hl : ∀ q, 0 ≤ q → q < p → lpk_ E b q 12 = []) (hn : 0 < (lpk_ E b p 12).length) : T 428 0 (T 432 0 0) = p ∧ cpw_ T p (T 101 0 13).toNat = ((lpk_ E b p 12).length : Int) ∧ ∀ w, 0 ≤ w → w < ((lpk_ E b p 12).length : Int) → (0 ≤ T 432 0 w ∧ T 432 0 w < 12 ∧ E (T 432 0 w) = p ∧ b (T 432 0 w) = -1) ∧ ((lpk_ E b p (T 432 0 w).toNat).length : Int) = w := who_n hE (hw :) hp hl hn
theorem swn_m {T : Zt} {c i : Int} (h : ∀ u, 0 ≤ u → u < 4 → 0 ≤ T 431 0 (c * 4 + u)) (h0 : 0 ≤ i) : ∀ n : Nat, i + n ≤ 4 → swn_ T c i.toNat ≤ swn_ T c (i + n).toNat
  | 0, _ => by rw [show i + ((0 : Nat) : Int) = i by omega]; exact Int.le_refl _
  | n + 1, q => by
    have y := swn_m h h0 n (by omega)
    have z := h (i + n) (by omega) (by omega)
    have s := swn_s (T := T) (c := c) (g := i + n) (by omega)
    rw [show i + ((n + 1 : Nat) : Int) = i + (n : Int) + 1 by omega]
    omega
theorem swn_g {T U : Zt} {c : Int} (e : ∀ u, 0 ≤ u → u < 4 → U 431 0 (c * 4 + u) = (nw_ (drw_ T) c u (ll_ T) (gf_ T) : Nat)) {g : Int} (hg : 0 ≤ g ∧ g ≤ 3) : swn_ U c g.toNat = sgm_ T c (g - 1) ∧ swn_ U c (g + 1).toNat = sgm_ T c g := by
  have s0 : swn_ U c (0 : Int).toNat = sgm_ T c (-1) := sgm_0.symm
  have s1 : swn_ U c (1 : Int).toNat = sgm_ T c 0 := by
    have a := swn_s (T := U) (c := c) (g := 0) (by decide)
    have b := sgm_s (T := T) (c := c) (g := -1) (by decide)
    rw [e 0 (by decide) (by decide)] at a
    exact a.trans (by rw [s0]; exact b.symm)
  have s2 : swn_ U c (2 : Int).toNat = sgm_ T c 1 := by
    have a := swn_s (T := U) (c := c) (g := 1) (by decide)
    have b := sgm_s (T := T) (c := c) (g := 0) (by decide)
    rw [e 1 (by decide) (by decide)] at a
    exact a.trans (by rw [s1]; exact b.symm)
  have s3 : swn_ U c (3 : Int).toNat = sgm_ T c 2 := by
    have a := swn_s (T := U) (c := c) (g := 2) (by decide)
    have b := sgm_s (T := T) (c := c) (g := 1) (by decide)
    rw [e 2 (by decide) (by decide)] at a
    exact a.trans (by rw [s2]; exact b.symm)
  have s4 : swn_ U c (4 : Int).toNat = sgm_ T c 3 := by
    have a := swn_s (T := U) (c := c) (g := 3) (by decide)
    have b := sgm_s (T := T) (c := c) (g := 2) (by decide)
    rw [e 3 (by decide) (by decide)] at a
    exact a.trans (by rw [s3]; exact b.symm)
  rcases (by omega : g = 0 ∨ g = 1 ∨ g = 2 ∨ g = 3) with z | z | z | z
  · subst z; exact ⟨s0, s1⟩
  · subst z; exact ⟨s1, s2⟩
  · subst z; exact ⟨s2, s3⟩
  · subst z; exact ⟨s3, s4⟩
/-- a ball, both sides -/
theorem lor_b {T T1 T2 : Zt} {s b x1 x2 : Int} (h : LOR_ T) (hn : T 108 0 2 = T 111 0 12) (hb : 0 ≤ T 108 0 2 ∧ T 108 0 2 ≤ 12) (hE : ∀ j, 0 ≤ j → -1 ≤ T 428 0 j ∧ T 428 0 j ≤ 2) (hC : ∀ j, 0 ≤ j → 0 ≤ T 561 0 j ∧ T 561 0 j ≤ 7) (hG : 0 ≤ T 101 0 1 ∧ T 101 0 1 ≤ 4) (th : THR_ T) (d1 : BLH_ T T1 s b x1) (f1 : fr_ [(101, [13, 6, 7, 5, 4]), (434, []), (435, []), (431, []), (432, []), (429, [])] T T1) (d2 : BLR_ T1 T2 s b x2) (f2 : fr_ [(304, []), (305, []), (302, []), (111, [103])] T1 T2) : x1 = x2 ∧ LOR_ T2 := by
  have d2 := blr_t (T := T) (fun k => f1 301 0 k rfl) (fun k => f1 302 0 k rfl) (fun k => f1 214 0 k rfl) (fun j => f1 111 0 j rfl) d2
  have k98 := h.1.2.2.2
  have alike := h.2.1
  -- who waits, on both sides
  have wait : T 101 0 1 ≠ 0 → (T 101 0 3 ≤ T 101 0 4 ↔ ∀ j, 0 ≤ j → j < T 111 0 12 → T 301 0 j ≠ -1 → T 302 0 j ≠ -1) := fun hg => by
    obtain ⟨q1, q2, q3, q4, q5, q6⟩ := h.2.2.resolve_left hg
    constructor
    · intro l j p q r z
      have a := alike j p (by omega)
      have y := cnz_s (f := fun k => T 428 0 k) (g := fun k => T 429 0 k) (v := -1) (w := -1) (j := j) p (by show T 428 0 j ≠ -1; omega) (by show T 429 0 j = -1; omega) 12 (by omega) (fun k u v w => q4 k u (by omega) w)
      omega
    · intro l
      have y := cnz_l (f := fun k => T 429 0 k) (g := fun k => T 428 0 k) (v := -1) (w := -1) 12 (fun k u v w => by
        show T 428 0 k = -1
        have w2 : T 429 0 k = -1 := w
        by_cases z : k < T 108 0 2
        · have a := alike k u (by omega)
          by_cases z2 : T 428 0 k = -1
          · exact z2
          · exact absurd (a.2.symm.trans w2) (l k u (by omega) (by omega))
        · exact q5 k (by omega) (by omega))
      omega
  rcases d1 with ⟨rfl, a1, a2⟩ | ⟨a1, Tr, a2, a3, a4⟩
  · rcases d2 with ⟨b1, b2, b3, b4⟩ | ⟨b1, b2, s0, p, c, g, b3, ⟨b4, j0, b5, b6, b7, b8⟩, b9⟩
    · exact ⟨by omega, lor_k h (kz_4 f2 b2 b3 (by decide +kernel))⟩
    · exfalso
      rcases a2 with a2 | a2
      · omega
      · exact (wait (by omega)).mp a2 j0 b5 b6 (by omega) b8
  · have hg : T 101 0 1 ≠ 0 := fun z => a1 (Or.inl z)
    have hlt : ¬ T 101 0 3 ≤ T 101 0 4 := fun z => a1 (Or.inr z)
    obtain ⟨r1, r2, r3⟩ := lor_r h hg a3 a2
    have hl := h.2.2.resolve_left hg
    have eN : ∀ fx gp, nw_ (dh_ Tr) fx gp (lhw_ Tr) (ghw_ Tr) = nw_ (drw_ T) fx gp (ll_ T) (gf_ T) := fun fx gp => by
      rw [dh_e (fun k => a3 428 0 k rfl) (fun k => a3 561 0 k rfl) (a3 101 0 1 rfl) (a3 101 0 2 rfl), lhw_e (fun k => a3 428 0 k rfl) (fun k => a3 429 0 k rfl), ghw_e (fun k => a3 429 0 k rfl)]
      exact lor_n h hl th hn hb fx gp
    have e6 : Tr 101 0 6 = BR0_ T := by
      rw [r3.1, eN]
      rfl
    rcases a4 with ⟨a4, a5, a6⟩ | ⟨a4, s0, n, Tp, u1, u2, u3, u4, u5, ⟨g, u6, u7, u8, u9, u10, u11, u12⟩, u13⟩
    · rcases d2 with ⟨b1, b2, b3, b4⟩ | ⟨b1, b2, b3⟩
      · refine ⟨by omega, ?_⟩
        rw [a6] at f2
        exact lor_k r1 (kz_4 f2 (fun k => (b2 k).trans (a3 302 0 k rfl).symm) (b3.trans (a3 111 0 103 rfl).symm) (by decide +kernel))
      · exfalso; omega
    · rcases d2 with ⟨b1, b2, b3, b4⟩ | ⟨b1, b2, s1, p, c, g2, b3, ⟨b4, j0, b5, b6, b7, b8⟩, b9, ⟨c1, c2, c3, c4, c5⟩, c6, ⟨c7, c8⟩, c9, c10, c11, c12⟩
      · exfalso
        rcases b4 with b4 | b4 | b4
        · omega
        · exact hlt ((wait hg).mpr b4)
        · omega
      · -- the same seed
        have es : s1 = s0 := by
          have z := h.1.2.2.1
          have z2 := a3 101 0 5 rfl
          omega
        subst es
        -- the same pot, as many, the same club
        have eE : ∀ k : Int, 0 ≤ k → k < 12 → (fun k => T 428 0 k) k = (fun k => T 301 0 k) k ∧ ghw_ T k = gf_ T k := fun k x y => alike k x y
        have lp : ∀ q n, n ≤ 12 → lpk_ (fun k => T 428 0 k) (ghw_ T) q n = lpk_ (fun k => T 301 0 k) (gf_ T) q n := fun q n hq => lpk_c n (fun k x y => eE k x (by omega))
        have hwl := r3.2.2
        rw [lhw_e (fun k => a3 428 0 k rfl) (fun k => a3 429 0 k rfl)] at hwl
        have low : ∀ q, 0 ≤ q → q < p → lpk_ (fun k => T 428 0 k) (ghw_ T) q 12 = [] := fun q x y => by
          cases e : lpk_ (fun k => T 428 0 k) (ghw_ T) q 12 with
          | nil => rfl
          | cons z l =>
            exfalso
            have m := lpk_m (show z ∈ lpk_ (fun k => T 428 0 k) (ghw_ T) q 12 by rw [e]; exact List.mem_cons_self)
            obtain ⟨m1, m2, m3, m4⟩ := m
            have m3 : T 428 0 z = q := m3
            have m4 : T 429 0 z = -1 := m4
            have al := alike z m1 (by omega)
            have zc : z < T 108 0 2 := Classical.byContradiction (fun w => by
              have := hl.2.2.2.2.1 z (by omega) (by omega)
              omega)
            have := b9 z m1 (by omega) (by omega) (by omega)
            omega
        have inp : 0 < (lpk_ (fun k => T 428 0 k) (ghw_ T) p 12).length := by
          have m : j0 ∈ lpk_ (fun k => T 428 0 k) (ghw_ T) p 12 := by
            have al := alike j0 b5 (by omega)
            exact lpk_i b5 (by show T 428 0 j0 = p; omega) (by show T 429 0 j0 = -1; omega) (by omega)
          exact List.length_pos_of_mem m
        obtain ⟨w1, w2, w3⟩ := who_ (T := Tr) (fun k => a3 428 0 k rfl) (hwl :) b4 low inp
        rw [w1] at u2
        have many : n = cel_ T p (T 111 0 12) := by
          rw [u2, w2, lp p 12 (by omega)]
          have y := lpk_x (E := fun k => T 301 0 k) (b := gf_ T) (p := p) (n := (T 111 0 12).toNat) 12 (fun k x y => by
            show T 301 0 k ≠ p
            have al := (alike k (by omega) (by omega)).1
            have := hl.2.2.2.2.1 k (by omega) (by omega)
            omega) (by omega)
          rw [y]
          exact (cen_l _).symm
        rw [← many] at c5 c7 c8 c9
        have wr := tb9_r (m := n) (s := s1) (by omega)
        have w4 := w3 (tb9_ n s1).1 wr.1 (by omega)
        obtain ⟨⟨v1, v2, v3, v4⟩, v5⟩ := w4
        have ec : c = Tr 432 0 (tb9_ n s1).1 := by
          have l1 : ((lpk_ (fun k => T 301 0 k) (gf_ T) p c.toNat).length : Int) = (tb9_ n s1).1 := by
            rw [← c5]
            exact (cen_l _).symm
          rw [lp p _ (by omega)] at v5
          have v3 : T 428 0 (Tr 432 0 (tb9_ n s1).1) = p := v3
          have v4 : T 429 0 (Tr 432 0 (tb9_ n s1).1) = -1 := v4
          have al := alike _ v1 v2
          rcases Int.lt_trichotomy c (Tr 432 0 (tb9_ n s1).1) with z | z | z
          · have y := lpk_u (E := fun k => T 301 0 k) (b := gf_ T) (p := p) c1 ⟨c3, c4⟩ z
            omega
          · exact z
          · have y := lpk_u (E := fun k => T 301 0 k) (b := gf_ T) (p := p) v1 ⟨by show T 301 0 _ = p; omega, by show T 302 0 _ = -1; omega⟩ z
            omega
        rw [← ec] at u7 u8 u9 u13
        -- the same group
        have t6 : Tp 101 0 6 = BR0_ T := (u4 101 0 6 rfl).trans e6
        rw [t6, u5] at u7 u12
        have hc : c ∈ lhw_ Tr := by
          rw [lhw_e (fun k => a3 428 0 k rfl) (fun k => a3 429 0 k rfl)]
          have al := alike c c1 (by omega)
          exact lhw_i c1 (by omega) (by omega) (by omega) (by omega)
        have ew : ∀ u, 0 ≤ u → u < 4 → Tp 431 0 (c * 4 + u) = (nw_ (drw_ T) c u (ll_ T) (gf_ T) : Nat) := fun u x y => by
          rw [u4 431 0 _ rfl, r3.2.1 c hc u x y, eN]
        have hg4 : Tp 101 0 1 ≤ 4 := by
          rw [u4 101 0 1 rfl, a3 101 0 1 rfl]; exact hG.2
        have gr1 := swn_g ew (g := g2) c6
        rw [← gr1.1] at c7
        rw [← gr1.2] at c8
        have nn : ∀ u, 0 ≤ u → u < 4 → 0 ≤ Tp 431 0 (c * 4 + u) := fun u x y => by rw [ew u x y]; omega
        have eg : g = g2 := by
          rcases Int.lt_trichotomy g g2 with z | z | z
          · exfalso
            have y := swn_m nn (i := g + 1) (by omega) (g2 - (g + 1)).toNat (by omega)
            rw [show g + 1 + (((g2 - (g + 1)).toNat : Nat) : Int) = g2 by omega] at y
            omega
          · exact z
          · exfalso
            have y := swn_m nn (i := g2 + 1) (by omega) (g - (g2 + 1)).toNat (by omega)
            rw [show g2 + 1 + (((g - (g2 + 1)).toNat : Nat) : Int) = g by omega] at y
            omega
        subst eg
        obtain ⟨q1, q2, q3, q4, q5, q6⟩ := hl
        have al := alike c c1 (by omega)
        have t1 := (f2 101 0 1 rfl).trans (f1 101 0 1 rfl)
        have t2 := (f2 101 0 2 rfl).trans (f1 101 0 2 rfl)
        have t5 := f2 101 0 5 rfl
        have k98b := (f2 111 0 98 rfl).trans (f1 111 0 98 rfl)
        have k99 := (f2 111 0 99 rfl).trans (f1 111 0 99 rfl)
        have k100 := (f2 111 0 100 rfl).trans (f1 111 0 100 rfl)
        have h1 := h.1.1
        have h2 := h.1.2.1
        have u9 : ∀ j, j ≠ c → T1 429 0 j = T 429 0 j := fun j hj => (u9 j hj).trans ((u4 429 0 j rfl).trans (a3 429 0 j rfl))
        have u10 : T1 101 0 4 = T 101 0 4 + 1 := by rw [u10, u4 101 0 4 rfl, a3 101 0 4 rfl]
        refine ⟨by omega, ⟨by omega, by omega, by omega, by omega⟩, fun j x y => ?_, Or.inr ⟨?_, ?_, fun q x y => ?_, fun j x y z => ?_, fun j x y => ?_, Or.inl ?_⟩⟩
        · rw [f2 428 0 j rfl, f1 428 0 j rfl, f2 429 0 j rfl, f2 301 0 j rfl, f1 301 0 j rfl]
          refine ⟨(alike j x y).1, ?_⟩
          by_cases z : j = c
          · rw [z, u8, c10]
          · rw [u9 j z, c11 j z]; exact (alike j x y).2
        · rw [f2 101 0 3 rfl, f1 101 0 3 rfl, show (fun j => T2 428 0 j) = (fun j => T 428 0 j) from funext (fun j => (f2 428 0 j rfl).trans (f1 428 0 j rfl))]
          exact q1
        · have y := cnz_u (f := fun j => T 429 0 j) (g := fun j => T1 429 0 j) (v := -1) (x := c) c1 u9 12 (by omega)
          have y2 : cnz_ (fun j => T2 429 0 j) (-1) 12 = cnz_ (fun j => T1 429 0 j) (-1) 12 := cnz_e 12 (fun j _ _ => f2 429 0 j rfl)
          have y3 : T 429 0 c = -1 := by omega
          have y4 : ¬ T1 429 0 c = -1 := by omega
          rw [if_pos y3, if_neg y4] at y
          rw [y2, y, f2 101 0 4 rfl]
          omega
        · rw [f2 430 0 q rfl, f1 430 0 q rfl, t1, show (fun j => T2 428 0 j) = (fun j => T 428 0 j) from funext (fun j => (f2 428 0 j rfl).trans (f1 428 0 j rfl))]
          exact q3 q x y
        · rw [f2 428 0 j rfl, f1 428 0 j rfl] at z
          rw [f2 429 0 j rfl, u9 j (fun w => by rw [w] at z; omega)]
          exact q4 j x y z
        · rw [f2 108 0 2 rfl, f1 108 0 2 rfl] at x
          rw [f2 428 0 j rfl, f1 428 0 j rfl]
          exact q5 j x y
        · rw [f2 101 0 7 rfl]; exact u11

