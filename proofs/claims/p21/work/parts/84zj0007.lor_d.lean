section DRW
variable {T : Zt}
/-- both sides' lists, ways -/
theorem lor_l (h : LOR_ T) (hl : LH_ T) (hn : T 108 0 2 = T 111 0 12) (hb : 0 ≤ T 108 0 2 ∧ T 108 0 2 ≤ 12) : lhw_ T = ll_ T := by
  unfold lhw_ ll_
  exact lq_c (by omega) (fun k a b => h.2.1 k a (by omega)) (fun k a b => hl.2.2.2.2.1 k (by omega) (by omega)) 3
theorem lor_n (h : LOR_ T) (hl : LH_ T) (th : THR_ T) (hn : T 108 0 2 = T 111 0 12) (hb : 0 ≤ T 108 0 2 ∧ T 108 0 2 ≤ 12) (fx gp : Int) : nw_ (dh_ T) fx gp (lhw_ T) (ghw_ T) = nw_ (drw_ T) fx gp (ll_ T) (gf_ T) := by
  rw [lor_l h hl hn hb]
  have hd : DS9_ (drw_ T) (dh_ T) := by
    refine ⟨⟨?_, ?_⟩, fun k a b => ?_, fun k a b => ?_, h.1.1, h.1.2.1⟩
    · show 0 ≤ T 111 0 12
      omega
    · show T 111 0 12 ≤ 12
      omega
    · have b2 : k < T 111 0 12 := b
      exact ⟨(h.2.1 k a (by omega)).1, fun _ => (th.1 k a (by omega)).2⟩
    · have a2 : T 111 0 12 ≤ k := a
      have b2 : k < 12 := b
      exact hl.2.2.2.2.1 k (by omega) b2
  refine nw_c hd _ _ _ (fun z hz => ?_) (fun k a b => ?_)
  · have q := ll_m (by omega) hz
    refine ⟨⟨q.1, q.2.1⟩, ?_⟩
    show T 301 0 z ≠ -1
    omega
  · have b2 : k < T 111 0 12 := b
    exact (h.2.1 k a (by omega)).2
/-- the same, of the things with index 0 -/
def kz_ (F : List (Nat × List Int)) (T T' : Zt) : Prop := ∀ k j, fw_ F k j = true → T' k 0 j = T k 0 j
theorem kz_s {F G : List (Nat × List Int)} {T T' : Zt} (h : kz_ G T T') (s : fs_ F G = true) : kz_ F T T' := fun k j w => h k j (fs_sub s w)
theorem kz_o {F : List (Nat × List Int)} {T T' : Zt} (h : ks_ F T T') : kz_ F T T' := fun k j w => h k 0 j w
theorem fw_3 {k : Nat} {j : Int} (n : k ≠ 302) (h : fw_ [(304, []), (305, [])] k j = false) : fw_ [(304, []), (305, []), (302, [])] k j = false := by
  simp [fw_] at h ⊢
  omega
theorem kz_3 {F : List (Nat × List Int)} {T T' : Zt} (f : fr_ [(304, []), (305, []), (302, [])] T T') (e : ∀ j, T' 302 0 j = T 302 0 j) (d : dj_ [(304, []), (305, [])] F = true) : kz_ F T T' := fun k j w => by
  by_cases z : k = 302
  · rw [z]; exact e j
  · refine f k 0 j (fw_3 z ?_)
    cases y : fw_ [(304, []), (305, [])] k j
    · rfl
    · rw [dj_s d y] at w
      cases w
/-- the house's own words under a frame -/
theorem lhw_k {T' : Zt} (h : LH_ T) (k : kz_ [(101, [1, 2, 3, 4, 6, 7, 13]), (108, [2]), (428, []), (429, []), (430, []), (431, []), (432, []), (561, [])] T T') : LH_ T' := by
  obtain ⟨h1, h2, h3, h4, h5, h6⟩ := h
  have eE : (fun j => T' 428 0 j) = (fun j => T 428 0 j) := funext (fun j => k 428 j rfl)
  have eG : (fun j => T' 429 0 j) = (fun j => T 429 0 j) := funext (fun j => k 429 j rfl)
  refine ⟨by rw [k 101 3 rfl, eE]; exact h1, by rw [k 101 4 rfl, eG]; exact h2, fun p a b => by rw [k 430 p rfl, eE, k 101 1 rfl]; exact h3 p a b, fun j a b => by rw [k 428 j rfl, k 429 j rfl]; exact h4 j a b, fun j a b => by rw [k 108 2 rfl] at a; rw [k 428 j rfl]; exact h5 j a b, ?_⟩
  rcases h6 with h6 | h6
  · exact Or.inl (by rw [k 101 7 rfl]; exact h6)
  · refine Or.inr ?_
    unfold FV_
    rw [dh_e (fun j => k 428 j rfl) (fun j => k 561 j rfl) (k 101 1 rfl) (k 101 2 rfl), lhw_e (fun j => k 428 j rfl) (fun j => k 429 j rfl), ghw_e (fun j => k 429 j rfl), k 101 6 rfl]
    exact ⟨h6.1, fun c hc u a b => by rw [k 431 _ rfl]; exact h6.2.1 c hc u a b, wl_e (fun j => k 432 j rfl) (k 101 13 rfl) h6.2.2⟩
theorem lor_k {T' : Zt} (h : LOR_ T) (k : kz_ [(101, [1, 2, 3, 4, 5, 6, 7, 13]), (108, [2]), (428, []), (429, []), (430, []), (431, []), (432, []), (561, []), (111, [98, 99, 100, 103]), (301, []), (302, [])] T T') : LOR_ T' := by
  obtain ⟨⟨h1, h2, h3, h4⟩, h5, h6⟩ := h
  have e1 := k 101 1 rfl
  have e2 := k 101 2 rfl
  have e5 := k 101 5 rfl
  have f1 := k 111 98 rfl
  have f2 := k 111 99 rfl
  have f3 := k 111 100 rfl
  have f4 := k 111 103 rfl
  refine ⟨⟨by omega, by omega, by omega, by omega⟩, fun j a b => ?_, ?_⟩
  · rw [k 428 j rfl, k 429 j rfl, k 301 j rfl, k 302 j rfl]
    exact h5 j a b
  · rcases h6 with h6 | h6
    · exact Or.inl (by omega)
    · exact Or.inr (lhw_k h6 (kz_s k (by decide +kernel)))
/-- a new club is in no draw -/
theorem lor_c {T' : Zt} {n : Int} (h : LOR_ T) (hn : T 108 0 2 = n) (k : kz_ [(101, [1, 2, 3, 4, 5, 6, 7, 13]), (428, []), (429, []), (430, []), (431, []), (432, []), (111, [98, 99, 100, 103]), (301, []), (302, [])] T T') (g1 : n ≤ T' 108 0 2) (g2 : ∀ j, j ≠ n → T' 561 0 j = T 561 0 j) (g3 : 0 ≤ n) : LOR_ T' := by
  obtain ⟨⟨h1, h2, h3, h4⟩, h5, h6⟩ := h
  have e1 := k 101 1 rfl
  have e2 := k 101 2 rfl
  have e5 := k 101 5 rfl
  have f1 := k 111 98 rfl
  have f2 := k 111 99 rfl
  have f3 := k 111 100 rfl
  have f4 := k 111 103 rfl
  refine ⟨⟨by omega, by omega, by omega, by omega⟩, fun j a b => ?_, ?_⟩
  · rw [k 428 j rfl, k 429 j rfl, k 301 j rfl, k 302 j rfl]
    exact h5 j a b
  · rcases h6 with h6 | ⟨q1, q2, q3, q4, q5, q6⟩
    · exact Or.inl (by omega)
    · have eE : (fun j => T' 428 0 j) = (fun j => T 428 0 j) := funext (fun j => k 428 j rfl)
      have eG : (fun j => T' 429 0 j) = (fun j => T 429 0 j) := funext (fun j => k 429 j rfl)
      refine Or.inr ⟨by rw [k 101 3 rfl, eE]; exact q1, by rw [k 101 4 rfl, eG]; exact q2, fun p a b => by rw [k 430 p rfl, eE, k 101 1 rfl]; exact q3 p a b, fun j a b => by rw [k 428 j rfl, k 429 j rfl]; exact q4 j a b, fun j a b => by rw [k 428 j rfl]; exact q5 j (by omega) b, ?_⟩
      rcases q6 with q6 | q6
      · exact Or.inl (by rw [k 101 7 rfl]; exact q6)
      · refine Or.inr ?_
        have hd : DS9_ (dh_ T) (dh_ T') := by
          refine ⟨⟨show (0 : Int) ≤ 12 by decide, show (12 : Int) ≤ 12 by decide⟩, fun j a b => ⟨k 428 j rfl, fun c => g2 j (fun z => c ?_)⟩, fun j a b => absurd b (by show ¬ j < 12; have a2 : 12 ≤ j := a; omega), e1, e2⟩
          exact q5 j (by omega) b
        have e : ∀ fx gp, nw_ (dh_ T') fx gp (lhw_ T) (ghw_ T) = nw_ (dh_ T) fx gp (lhw_ T) (ghw_ T) := fun fx gp => nw_c hd _ _ _ (fun z hz => ⟨⟨(lhw_m hz).1, (lhw_m hz).2.1⟩, by show T 428 0 z ≠ -1; have := lhw_m hz; omega⟩) (fun _ _ _ => rfl)
        unfold FV_
        rw [lhw_e (fun j => k 428 j rfl) (fun j => k 429 j rfl), ghw_e (fun j => k 429 j rfl), k 101 6 rfl, e]
        exact ⟨q6.1, fun c hc u a b => by rw [k 431 _ rfl, e]; exact q6.2.1 c hc u a b, wl_e (fun j => k 432 j rfl) (k 101 13 rfl) q6.2.2⟩
/-- the counts are fresh -/
theorem lor_r {T1 : Zt} (h : LOR_ T) (hg : T 101 0 1 ≠ 0) (f : fr_ [(101, [13, 6, 7]), (434, []), (435, []), (431, []), (432, [])] T T1) (r : RFP_ T T1) : LOR_ T1 ∧ LH_ T1 ∧ FV_ T1 := by
  have hl := h.2.2.resolve_left hg
  have q : LH_ T1 ∧ FV_ T1 := by
    rcases r with ⟨r1, r2⟩ | ⟨r1, r2, r3⟩
    · rw [r2]
      exact ⟨hl, hl.2.2.2.2.2.resolve_left r1⟩
    · obtain ⟨h1, h2, h3, h4, h5, h6⟩ := hl
      refine ⟨⟨by rw [f 101 0 3 rfl, show (fun k => T1 428 0 k) = (fun k => T 428 0 k) from funext (fun k => f 428 0 k rfl)]; exact h1, by rw [f 101 0 4 rfl, show (fun k => T1 429 0 k) = (fun k => T 429 0 k) from funext (fun k => f 429 0 k rfl)]; exact h2, fun p a b => by rw [f 430 0 p rfl, f 101 0 1 rfl, show (fun k => T1 428 0 k) = (fun k => T 428 0 k) from funext (fun k => f 428 0 k rfl)]; exact h3 p a b, fun k a b => by rw [f 428 0 k rfl, f 429 0 k rfl]; exact h4 k a b, fun k a b => by rw [f 108 0 2 rfl] at a; rw [f 428 0 k rfl]; exact h5 k a b, Or.inr r3⟩, r3⟩
  refine ⟨⟨⟨?_, ?_, ?_, ?_⟩, fun k a b => ?_, Or.inr q.1⟩, q.1, q.2⟩
  · rw [f 101 0 1 rfl, f 111 0 99 rfl]; exact h.1.1
  · rw [f 101 0 2 rfl, f 111 0 100 rfl]; exact h.1.2.1
  · rw [f 101 0 5 rfl, f 111 0 103 rfl]; exact h.1.2.2.1
  · rw [f 101 0 1 rfl, f 111 0 98 rfl]; exact h.1.2.2.2
  · rw [f 428 0 k rfl, f 429 0 k rfl, f 301 0 k rfl, f 302 0 k rfl]; exact h.2.1 k a b
theorem lor_3 {T' : Zt} (h : LOR_ T) (f : fr_ [(304, []), (305, []), (302, [])] T T') (e : ∀ j, T' 302 0 j = T 302 0 j) : LOR_ T' := lor_k h (kz_3 f e (by decide +kernel))
end DRW
/-- a new draw, both sides -/
theorem lor_d {T T1 T2 : Zt} {g l x1 x2 : Int} (h : LOR_ T) (hc : 0 ≤ T 108 0 2) (d1 : NDH_ T T1 g l x1) (f1 : fr_ [(101, [1, 2, 3, 4, 7]), (428, []), (429, []), (430, [])] T T1) (d2 : NDR_ T1 T2 g l x2) (f2 : fr_ [(111, [98, 99, 100]), (301, []), (302, [])] T1 T2) : x1 = x2 ∧ LOR_ T2 := by
  rcases d1 with ⟨a1, a2, a3⟩ | ⟨a1, a2, a3, a4, a5, a6, a7, a8, a9⟩
  · rcases d2 with ⟨b1, b2, b3⟩ | ⟨b1, b2⟩
    · rw [b1, a1]
      exact ⟨by omega, h⟩
    · exact absurd b1 a3
  · rcases d2 with ⟨b1, b2, b3⟩ | ⟨b1, b2, b3, b4, b5, b6⟩
    · exact absurd a1 b3
    · have e1 := f2 101 0 1 rfl
      have e2 := f2 101 0 2 rfl
      have e5 := f2 101 0 5 rfl
      have e6 := f1 101 0 5 rfl
      have g5 := f2 111 0 103 rfl
      have g6 := f1 111 0 103 rfl
      have h5 := h.1.2.2.1
      refine ⟨by omega, ⟨by omega, by omega, by omega, by omega⟩, fun k p q => ?_, Or.inr ⟨?_, ?_, fun p p1 p2 => ?_, fun k p q r => ?_, fun k p q => ?_, Or.inl ?_⟩⟩
      · rw [f2 428 0 k rfl, f2 429 0 k rfl, (a8 k p q).1, (a8 k p q).2, (b6 k p q).1, (b6 k p q).2]
        exact ⟨rfl, rfl⟩
      · rw [f2 101 0 3 rfl, a5, cnz_a 12 (fun k p q => by rw [f2 428 0 k rfl]; exact (a8 k p (by omega)).1)]
        rfl
      · rw [f2 101 0 4 rfl, a6, cnz_a 12 (fun k p q => by rw [f2 429 0 k rfl]; exact (a8 k p (by omega)).2)]
        rfl
      · rw [f2 430 0 p rfl, a9 p p1 (by omega), cnz_n 12 (fun k u v => by rw [f2 428 0 k rfl, (a8 k u (by omega)).1]; omega)]
        exact ⟨rfl, by omega⟩
      · rw [f2 429 0 k rfl]; exact (a8 k p q).2
      · rw [f2 428 0 k rfl]; exact (a8 k (by rw [f2 108 0 2 rfl, f1 108 0 2 rfl] at p; omega) q).1
      · rw [f2 101 0 7 rfl]; exact a7
