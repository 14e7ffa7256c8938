/-- both sides' lists, ways -/
theorem lor_l {T : Zt} (h : LOR_ T) (hl : LH_ T) (hn : T 108 0 2 = T 111 0 12) (hb : 0 ≤ T 108 0 2 ∧ T 108 0 2 ≤ 12) : lhw_ T = ll_ T := by
  unfold lhw_ ll_
  exact lq_c (by omega) (fun k a b => h.2.1 k a (by omega)) (fun k a b => hl.2.2.2.2.1 k (by omega) (by omega)) 3
theorem lor_n {T : Zt} (h : LOR_ T) (hl : LH_ T) (th : THR_ T) (hn : T 108 0 2 = T 111 0 12) (hb : 0 ≤ T 108 0 2 ∧ T 108 0 2 ≤ 12) (fx gp : Int) : nw_ (dh_ T) fx gp (lhw_ T) (ghw_ T) = nw_ (drw_ T) fx gp (ll_ T) (gf_ T) := by
  rw [lor_l h hl hn hb]
  have hd : DS9_ (drw_ T) (dh_ T) := by
    refine ⟨⟨?_, ?_⟩, fun k a b => ?_, fun k a b => ?_, h.1.1, h.1.2.1⟩
    · show 0 ≤ T 111 0 12
      omega
    · show T 111 0 12 ≤ 12
      omega
    · have b2 : k < T 111 0 12 := b
      exact ⟨(h.2.1 k a (by omega)).1, fun _ => (th.1 k a (by omega)).2⟩
    · have a2 : T 111 0 12 ≤ k := a
      have b2 : k < 12 := b
      exact hl.2.2.2.2.1 k (by omega) b2
  refine nw_c hd _ _ _ (fun z hz => ?_) (fun k a b => ?_)
  · have q := ll_m (by omega) hz
    refine ⟨⟨q.1, q.2.1⟩, ?_⟩
    show T 301 0 z ≠ -1
    omega
  · have b2 : k < T 111 0 12 := b
    exact (h.2.1 k a (by omega)).2
