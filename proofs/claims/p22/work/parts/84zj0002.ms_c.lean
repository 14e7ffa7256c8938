/-- two draws that differ in nothing that counts -/
def DS9_ (d d2 : Dr_) : Prop := (0 ≤ d.n ∧ d.n ≤ d2.n) ∧ (∀ k, 0 ≤ k → k < d.n → d2.E k = d.E k ∧ (d.E k ≠ -1 → d2.C k = d.C k)) ∧ (∀ k, d.n ≤ k → k < d2.n → d2.E k = -1) ∧ d2.G = d.G ∧ d2.L = d.L
theorem ms_c {d d2 : Dr_} {f f2 : Int → Int} {x g : Int} (h : DS9_ d d2) (hf : ∀ k, 0 ≤ k → k < d.n → f2 k = f k) (hx : 0 ≤ x ∧ x < d.n) (he : d.E x ≠ -1) : ms_ d2 f2 x g ↔ ms_ d f x g := by
  obtain ⟨h1, h2, h3, h4, h5⟩ := h
  have ea : alk_ d2.E d2.C f2 x g d2.n.toNat = alk_ d.E d.C f x g d.n.toNat := by
    rw [alk_x (n := d.n.toNat) d2.n.toNat (fun k a b => h3 k (by omega) (by omega)) (by omega)]
    exact alk_c ((h2 x hx.1 hx.2).2 he) d.n.toNat (fun k a b => ⟨(h2 k a (by omega)).1, hf k a (by omega), (h2 k a (by omega)).2⟩)
  unfold ms_
  rw [ea, h5]
  constructor
  · rintro ⟨p, q⟩
    refine ⟨fun k a b c e u v => ?_, q⟩
    have y := (h2 k a b).1
    exact p k a (by omega) c (by rw [y]; exact e) (by rw [hf k a b]; exact u) (by rw [y, (h2 x hx.1 hx.2).1]; exact v)
  · rintro ⟨p, q⟩
    refine ⟨fun k a b c e u v => ?_, q⟩
    by_cases z : k < d.n
    · have y := (h2 k a z).1
      rw [y] at e v
      rw [hf k a z] at u
      rw [(h2 x hx.1 hx.2).1] at v
      exact p k a z c e u v
    · exact e (h3 k (by omega) b)
