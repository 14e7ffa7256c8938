/-- a new club is in no draw -/
theorem lor_c {T : Zt} {T' : Zt} {n : Int} (h : LOR_ T) (hn : T 108 0 2 = n) (k : kz_ [(101, [1, 2, 3, 4, 5, 6, 7, 13]), (428, []), (429, []), (430, []), (431, []), (432, []), (111, [98, 99, 100, 103]), (301, []), (302, [])] T T') (g1 : n ≤ T' 108 0 2) (g2 : ∀ j, j ≠ n → T' 561 0 j = T 561 0 j) (g3 : 0 ≤ n) : LOR_ T' := by
  obtain ⟨⟨h1, h2, h3, h4⟩, h5, h6⟩ := h
  have e1 := k 101 1 rfl
  have e2 := k 101 2 rfl
  have e5 := k 101 5 rfl
  have f1 := k 111 98 rfl
  have f2 := k 111 99 rfl
  have f3 := k 111 100 rfl
  have f4 := k 111 103 rfl
  refine ⟨⟨by omega, by omega, by omega, by omega⟩, fun j a b => ?_, ?_⟩
  · rw [k 428 j rfl, k 429 j rfl, k 301 j rfl, k 302 j rfl]
    exact h5 j a b
  · rcases h6 with h6 | ⟨q1, q2, q3, q4, q5, q6⟩
    · exact Or.inl (by omega)
    · have eE : (fun j => T' 428 0 j) = (fun j => T 428 0 j) := funext (fun j => k 428 j rfl)
      have eG : (fun j => T' 429 0 j) = (fun j => T 429 0 j) := funext (fun j => k 429 j rfl)
      refine Or.inr ⟨by rw [k 101 3 rfl, eE]; exact q1, by rw [k 101 4 rfl, eG]; exact q2, fun p a b => by rw [k 430 p rfl, eE, k 101 1 rfl]; exact q3 p a b, fun j a b => by rw [k 428 j rfl, k 429 j rfl]; exact q4 j a b, fun j a b => by rw [k 428 j rfl]; exact q5 j (by omega) b, ?_⟩
      rcases q6 with q6 | q6
      · exact Or.inl (by rw [k 101 7 rfl]; exact q6)
      · refine Or.inr ?_
        have hd : DS9_ (dh_ T) (dh_ T') := by
          refine ⟨⟨show (0 : Int) ≤ 12 by decide, show (12 : Int) ≤ 12 by decide⟩, fun j a b => ⟨k 428 j rfl, fun c => g2 j (fun z => c ?_)⟩, fun j a b => absurd b (by show ¬ j < 12; have a2 : 12 ≤ j := a; omega), e1, e2⟩
          exact q5 j (by omega) b
        have e : ∀ fx gp, nw_ (dh_ T') fx gp (lhw_ T) (ghw_ T) = nw_ (dh_ T) fx gp (lhw_ T) (ghw_ T) := fun fx gp => nw_c hd _ _ _ (fun z hz => ⟨⟨(lhw_m hz).1, (lhw_m hz).2.1⟩, by show T 428 0 z ≠ -1; have := lhw_m hz; omega⟩) (fun _ _ _ => rfl)
        unfold FV_
        rw [lhw_e (fun j => k 428 j rfl) (fun j => k 429 j rfl), ghw_e (fun j => k 429 j rfl), k 101 6 rfl, e]
        exact ⟨q6.1, fun c hc u a b => by rw [k 431 _ rfl, e]; exact q6.2.1 c hc u a b, wl_e (fun j => k 432 j rfl) (k 101 13 rfl) q6.2.2⟩
