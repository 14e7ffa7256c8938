theorem lhd_q {day : Int → Int} {rel rel' : Int → Prop} {L L' : Int → Int} {f k kp x x' : Int} (h : LHD_ day rel L f k kp x) (h' : LHD_ day rel' L' f k kp x') (e : ∀ m, f ≤ m → m < f + k → (rel m ↔ rel' m)) (x0 : 0 ≤ x) (x1 : 0 ≤ x') : x = x' ∧ ∀ j, 0 ≤ j → j < x → L j = L' j := by
  have a : ∀ j, 0 ≤ j → j < x → j < x' ∧ L j = L' j := fun j j0 j1 => by
    have q := lhd_u h h' e j.toNat (by omega)
    rw [show ((j.toNat : Nat) : Int) = j by omega] at q
    exact q
  have b : ∀ j, 0 ≤ j → j < x' → j < x := fun j j0 j1 => by
    have q := lhd_u h' h (fun m m0 m1 => (e m m0 m1).symm) j.toNat (by omega)
    rw [show ((j.toNat : Nat) : Int) = j by omega] at q
    exact q.1
  refine ⟨?_, fun j j0 j1 => (a j j0 j1).2⟩
  rcases Int.lt_trichotomy x x' with c | c | c
  · have := b x x0 c; omega
  · exact c
  · have := (a x' x1 c).1; omega
/-- those of one stadium are on different days afterwards -/
theorem mv_dd {sq hq R : Int → Int → Prop} {rs : Int → Int} {ab : Int → Prop} {n p d : Int} {ag : Int → Prop} {day : Int → Int} (hR : ∀ a b, R a b → sq a b) (sy : ∀ a b, R a b → R b a)
    (h0 : ∀ a b, 0 ≤ a → a < n → 0 ≤ b → b < n → a ≠ b → ab a → ab b → R a b → day a = day b → (a = p ∧ ag b) ∨ (b = p ∧ ag a)) : ∀ k : Nat, (k : Int) ≤ n → (mv_ (BK_ sq hq rs ab n) ag d day k).2 = 1 → ∀ a b, 0 ≤ a → a < n → 0 ≤ b → b < n → a ≠ b → ab a → ab b → R a b → (mv_ (BK_ sq hq rs ab n) ag d day k).1 a = (mv_ (BK_ sq hq rs ab n) ag d day k).1 b → (a = p ∧ ag b ∧ (k : Int) ≤ b) ∨ (b = p ∧ ag a ∧ (k : Int) ≤ a)
  | 0, _, _ => fun a b a0 a1 b0 b1 ne ha hb hs he => by
    rcases h0 a b a0 a1 b0 b1 ne ha hb hs he with z | z
    · exact Or.inl ⟨z.1, z.2, by omega⟩
    · exact Or.inr ⟨z.1, z.2, by omega⟩
  | k + 1, hk, h2 => fun a b a0 a1 b0 b1 ne ha hb hs he => by
    by_cases z : (mv_ (BK_ sq hq rs ab n) ag d day k).2 = 1 ∧ ag (k : Int)
    · have ih := mv_dd (hq := hq) (rs := rs) (d := d) hR sy h0 k (by omega) z.1
      by_cases g : ffd_ (BK_ sq hq rs ab n (mv_ (BK_ sq hq rs ab n) ag d day k).1 (k : Int)) (999 - d).toNat (d + 1) = -1
      · rw [mv_x z g] at h2; have h3 : (0 : Int) = 1 := h2; exact absurd h3 (by decide)
      · rw [mv_y z g] at he
        have nb : ¬ BK_ sq hq rs ab n (mv_ (BK_ sq hq rs ab n) ag d day k).1 (k : Int) (ffd_ (BK_ sq hq rs ab n (mv_ (BK_ sq hq rs ab n) ag d day k).1 (k : Int)) (999 - d).toNat (d + 1)) := ffd_p _ _ g
        generalize ffd_ (BK_ sq hq rs ab n (mv_ (BK_ sq hq rs ab n) ag d day k).1 (k : Int)) (999 - d).toNat (d + 1) = D at he nb
        have he2 : u1_ (mv_ (BK_ sq hq rs ab n) ag d day k).1 (k : Int) D a = u1_ (mv_ (BK_ sq hq rs ab n) ag d day k).1 (k : Int) D b := he
        by_cases wa : a = (k : Int)
        · rw [wa, u1_s, u1_n (fun y => ne (wa.trans y.symm))] at he2
          exact absurd ⟨b, b0, b1, fun y => ne (wa.trans y), wa ▸ ha, hb, Or.inl ⟨he2, hR _ _ (wa ▸ hs)⟩⟩ nb
        · by_cases wb : b = (k : Int)
          · rw [wb, u1_s, u1_n wa] at he2
            exact absurd ⟨a, a0, a1, fun y => wa y.symm, wb ▸ hb, ha, Or.inl ⟨he2.symm, hR _ _ (wb ▸ sy a b hs)⟩⟩ nb
          · rw [u1_n wa, u1_n wb] at he2
            rcases ih a b a0 a1 b0 b1 ne ha hb hs he2 with y | y
            · exact Or.inl ⟨y.1, y.2.1, by omega⟩
            · exact Or.inr ⟨y.1, y.2.1, by omega⟩
    · rw [mv_n z] at h2 he
      have nz : ¬ ag (k : Int) := fun c => z ⟨h2, c⟩
      rcases mv_dd (hq := hq) (rs := rs) (d := d) hR sy h0 k (by omega) h2 a b a0 a1 b0 b1 ne ha hb hs he with y | y
      · refine Or.inl ⟨y.1, y.2.1, ?_⟩
        by_cases w : b = (k : Int)
        · exact absurd (w ▸ y.2.1) nz
        · omega
      · refine Or.inr ⟨y.1, y.2.1, ?_⟩
        by_cases w : a = (k : Int)
        · exact absurd (w ▸ y.2.1) nz
        · omega
