-- what is read keeps the bounds of the rules
def GV9_ (v : Int → Int) : Prop := (∀ w : Int, 0 ≤ w → w < 23 → (rb_ w).1 ≤ v w ∧ v w ≤ (rb_ w).2) ∧ v 2 ≤ v 1 ∧ v 3 ≤ v 2
theorem gb9_u {v : Int → Int} {w x : Int} (h : GV9_ v) (hx : (rb_ w).1 ≤ x ∧ x ≤ (rb_ w).2) (h1 : w ≠ 1) (h2 : w ≠ 2) (h3 : w ≠ 3) : GV9_ (u9_ v w x) := by
  refine ⟨fun j a b => ?_, ?_, ?_⟩
  · by_cases z : j = w
    · rw [z, u9_e]
      exact hx
    · rw [u9_n z]
      exact h.1 j a b
  · rw [u9_n (fun z => h2 z.symm), u9_n (fun z => h1 z.symm)]
    exact h.2.1
  · rw [u9_n (fun z => h3 z.symm), u9_n (fun z => h2 z.symm)]
    exact h.2.2
theorem rb9_0 : (rb_ 0) = (0, 3) ∧ (rb_ 1) = (0, 9) ∧ (rb_ 2) = (0, 9) ∧ (rb_ 3) = (0, 9) ∧ (rb_ 4) = (0, 7) ∧ (rb_ 5) = (0, 1) := by decide +kernel
theorem rb9_n : ∀ k : Nat, k < 16 → (rb_ (k : Int)).1 = (sa_ 1).getD k 0 ∧ (rb_ (k : Int)).2 = (sa_ 2).getD k 0 := by decide +kernel
theorem rb9_i {w : Int} (h0 : 0 ≤ w) (h1 : w < 16) : (rb_ w).1 = (sa_ 1).getD w.toNat 0 ∧ (rb_ w).2 = (sa_ 2).getD w.toNat 0 := by
  have h := rb9_n w.toNat (by omega)
  rw [show ((w.toNat : Nat) : Int) = w by omega] at h
  exact h
theorem rb9_m : ∀ k : Nat, k < 7 → rb_ ((16 + k : Nat) : Int) = (-1, 6) := by decide +kernel
theorem rb9_k {w : Int} (h0 : 16 ≤ w) (h1 : w < 23) : rb_ w = (-1, 6) := by
  have h := rb9_m (w - 16).toNat (by omega)
  rw [show ((16 + (w - 16).toNat : Nat) : Int) = w by omega] at h
  exact h
theorem gb9_p {v : Int → Int} {x y z : Int} (h : GV9_ v) (hx : 0 ≤ x ∧ x ≤ 9) (hy : 0 ≤ y ∧ y ≤ x) (hz : 0 ≤ z ∧ z ≤ y) : GV9_ (u9_ (u9_ (u9_ v 1 x) 2 y) 3 z) := by
  refine ⟨fun j a b => ?_, ?_, ?_⟩
  · by_cases z3 : j = 3
    · rw [z3, u9_e, rb9_0.2.2.2.1]
      exact ⟨hz.1, by show z ≤ 9; omega⟩
    · rw [u9_n z3]
      by_cases z2 : j = 2
      · rw [z2, u9_e, rb9_0.2.2.1]
        exact ⟨hy.1, by show y ≤ 9; omega⟩
      · rw [u9_n z2]
        by_cases z1 : j = 1
        · rw [z1, u9_e, rb9_0.2.1]
          exact hx
        · rw [u9_n z1]
          exact h.1 j a b
  · rw [u9_n (by decide), u9_e, u9_n (by decide), u9_n (by decide), u9_e]
    exact hy.2
  · rw [u9_e, u9_n (by decide), u9_e]
    exact hz.2
theorem gb9_o {v : Int → Int} (h : GV9_ v) : GV9_ (ov9_ v) := by
  refine ⟨fun j a b => ?_, ?_, ?_⟩
  · by_cases z : j = 4
    · rw [z, ov9_4, rb9_0.2.2.2.2.1]
      exact ⟨by decide, by decide⟩
    · by_cases y : 16 ≤ j
      · rw [ov9_k y, rb9_k y b]
        exact ⟨by decide, by decide⟩
      · rw [ov9_i z (by omega)]
        exact h.1 j a b
  · rw [ov9_i (by decide) (by decide), ov9_i (by decide) (by decide)]
    exact h.2.1
  · rw [ov9_i (by decide) (by decide), ov9_i (by decide) (by decide)]
    exact h.2.2
theorem gb9_n : ∀ k : Nat, k < 23 → (rb_ (k : Int)).1 ≤ dv9_ (k : Int) ∧ dv9_ (k : Int) ≤ (rb_ (k : Int)).2 := by decide +kernel
theorem gb9_d : GV9_ dv9_ := by
  refine ⟨fun w h0 h1 => ?_, by decide +kernel, by decide +kernel⟩
  have h := gb9_n w.toNat (by omega)
  rw [show ((w.toNat : Nat) : Int) = w by omega] at h
  exact h
theorem wd9_x (w : List Int) (ts : List (Int × Int × Int)) (b : Int → Int) (s e : Int) : WD9_ w ts b s e (wdf9_ w ts b s e) := by
  refine Classical.epsilon_spec (p := fun x : Int => WD9_ w ts b s e x) ?_
  by_cases z : ∃ k0 n e0, (k0, n, e0) ∈ ts ∧ EW9_ w b s e k0 e0
  · obtain ⟨k0, n, e0, h1, h2⟩ := z
    exact ⟨n, Or.inl ⟨k0, e0, h1, h2⟩⟩
  · exact ⟨-1, Or.inr ⟨rfl, fun k0 n e0 h1 h2 => z ⟨k0, n, e0, h1, h2⟩⟩⟩
theorem wof9_g {w : List Int} {ts : List (Int × Int × Int)} {c b : Int → Int} {L nW n a : Int} {q : Int × Int} (ht : TB9_ w ts c L nW) (h : wof9_ w ts b n a = Sum.inr q) : 0 ≤ q.2 ∧ q.2 < nW := by
  unfold wof9_ at h
  by_cases z5 : (tkf9_ b n a).2.2 = 5
  · rw [if_pos z5] at h
    cases h
  · rw [if_neg z5] at h
    by_cases z1 : (tkf9_ b n a).2.2 = 1
    · rw [if_pos z1] at h
      by_cases z : wdf9_ w ts b (tkf9_ b n a).1 (tkf9_ b n a).2.1 = -1
      · rw [if_pos z] at h
        cases h
      · rw [if_neg z] at h
        cases h
        rcases wd9_x w ts b (tkf9_ b n a).1 (tkf9_ b n a).2.1 with ⟨k0, e0, hm, _⟩ | ⟨hx, _⟩
        · have := (ht.1 _ _ _ hm).1
          exact ⟨this.1, this.2.1⟩
        · exact absurd hx z
    · rw [if_neg z1] at h
      cases h
theorem nrf9_g {b : Int → Int} {n a lo mo : Int} {q : Int × Int} (h : nrf9_ b n a lo mo = Sum.inr q) : lo ≤ q.2 ∧ q.2 ≤ mo := by
  unfold nrf9_ at h
  by_cases z5 : (tkf9_ b n a).2.2 = 5
  · rw [if_pos z5] at h
    cases h
  · rw [if_neg z5] at h
    by_cases z2 : (tkf9_ b n a).2.2 = 2
    · rw [if_pos z2] at h
      by_cases z : lo ≤ nv9_ b (tkf9_ b n a).1 ((tkf9_ b n a).2.1 - (tkf9_ b n a).1).toNat ∧ nv9_ b (tkf9_ b n a).1 ((tkf9_ b n a).2.1 - (tkf9_ b n a).1).toNat ≤ mo
      · rw [if_pos z] at h
        cases h
        exact z
      · rw [if_neg z] at h
        cases h
    · rw [if_neg z2] at h
      cases h
theorem bn9_i {α β : Type} {r : Qr9_ α} {f : α → Qr9_ β} {y : β} (h : bn9_ r f = Sum.inr y) : ∃ q, r = Sum.inr q ∧ f q = Sum.inr y := by
  cases r with
  | inl p => cases h
  | inr q => exact ⟨q, rfl, h⟩
theorem pnf9_g {b : Int → Int} {n a : Int} {q : Int × Int × Int × Int} (h : pnf9_ b n a = Sum.inr q) : (0 ≤ q.2.1 ∧ q.2.1 ≤ 9) ∧ (0 ≤ q.2.2.1 ∧ q.2.2.1 ≤ q.2.1) ∧ (0 ≤ q.2.2.2 ∧ q.2.2.2 ≤ q.2.2.1) := by
  unfold pnf9_ at h
  obtain ⟨x, h1, h2⟩ := bn9_i h
  obtain ⟨y, h3, h4⟩ := bn9_i h2
  obtain ⟨z, h5, h6⟩ := bn9_i h4
  cases h6
  have a1 := nrf9_g h1
  have a2 := nrf9_g h3
  have a3 := nrf9_g h5
  exact ⟨a1, a2, a3⟩
theorem orf9_g {b : Int → Int} {n : Int} : ∀ (f : Nat) {a c : Int} {t v : Int → Int} {p : Int × (Int → Int)}, KS9_ t c → GV9_ v → orf9_ f b n a t c v = Sum.inr p → GV9_ p.2
  | 0, _, _, _, _, _, _, _, h => by cases h
  | f + 1, a, c, t, v, p, hk, hv, h => by
      unfold orf9_ at h
      obtain ⟨q, h1, h2⟩ := bn9_i h
      have hx := wof9_g tb9_2 h1
      have hb := ks9_b hk
      by_cases z : t q.2 = 0
      · have hc : c < 7 := Classical.byContradiction fun y => ks9_7 hk (by omega) hx.1 hx.2 z
        have g1 : GV9_ (u9_ (u9_ v (16 + c) q.2) 4 (c + 1)) := by
          refine gb9_u (gb9_u hv ?_ (by omega) (by omega) (by omega)) ?_ (by decide) (by decide) (by decide)
          · rw [rb9_k (by omega) (by omega)]
            exact ⟨by show (-1 : Int) ≤ q.2; omega, by show q.2 ≤ 6; omega⟩
          · rw [rb9_0.2.2.2.2.1]
            exact ⟨by show (0 : Int) ≤ c + 1; omega, by show c + 1 ≤ 7; omega⟩
        rw [if_pos z] at h2
        by_cases z4 : (tkf9_ b n q.1).2.2 = 4
        · rw [if_pos z4] at h2
          exact orf9_g f (ks9_s hk hx.1 hx.2 z) g1 h2
        · rw [if_neg z4] at h2
          obtain ⟨e, h3, h4⟩ := bn9_i h2
          cases h4
          exact g1
      · rw [if_neg z] at h2
        cases h2
theorem bdf9_g {b v : Int → Int} {n a x : Int} {p : Int × (Int → Int)} (hv : GV9_ v) (hx : 0 ≤ x ∧ x < 14) (h2 : x ≠ 2) (h : bdf9_ b n a x v = Sum.inr p) : GV9_ p.2 := by
  by_cases z0 : x = 0
  · rw [bdf9_0 z0] at h
    obtain ⟨q, h1, h3⟩ := bn9_i h
    cases h3
    have y := wof9_g tb9_1 h1
    refine gb9_u hv ?_ (by decide) (by decide) (by decide)
    rw [rb9_0.1]
    exact ⟨y.1, by show q.2 ≤ 3; omega⟩
  · by_cases z1 : x = 1
    · rw [bdf9_1 z1] at h
      obtain ⟨q, h1, h3⟩ := bn9_i h
      cases h3
      have y := pnf9_g h1
      exact gb9_p hv y.1 y.2.1 y.2.2
    · by_cases z3 : x = 3
      · rw [bdf9_3 z3] at h
        cases h
        refine gb9_u hv ?_ (by decide) (by decide) (by decide)
        rw [rb9_0.2.2.2.2.2]
        exact ⟨by decide, by decide⟩
      · rw [bdf9_4 (by omega)] at h
        obtain ⟨q, h1, h3⟩ := bn9_i h
        cases h3
        have y := nrf9_g h1
        have e := rb9_i (w := x + 2) (by omega) (by omega)
        refine gb9_u hv ?_ (by omega) (by omega) (by omega)
        rw [e.1, e.2]
        exact y
theorem stf9_g {b t v : Int → Int} {n a : Int} {y : Int × (Int → Int) × (Int → Int)} (hv : GV9_ v) (h : stf9_ b n a t v = Sum.inr y) : GV9_ y.2.2 := by
  unfold stf9_ at h
  obtain ⟨q, h1, h2⟩ := bn9_i h
  by_cases z : t q.2 = 0
  · rw [if_pos z] at h2
    by_cases z2 : q.2 = 2
    · rw [if_pos z2] at h2
      obtain ⟨p, h3, h4⟩ := bn9_i h2
      cases h4
      exact orf9_g 9 ks9_0 (gb9_o hv) h3
    · rw [if_neg z2] at h2
      obtain ⟨p, h3, h4⟩ := bn9_i h2
      obtain ⟨e, h5, h6⟩ := bn9_i h4
      cases h6
      exact bdf9_g hv (wof9_g tb9_0 h1) z2 h3
  · rw [if_neg z] at h2
    cases h2
theorem rdf9_g {b : Int → Int} {n : Int} : ∀ (f : Nat) {a : Int} {t v v' : Int → Int}, GV9_ v → rdf9_ f b n a t v = Sum.inr v' → GV9_ v'
  | 0, _, _, _, _, _, h => by cases h
  | f + 1, a, t, v, v', hv, h => by
      unfold rdf9_ at h
      by_cases z : (tkf9_ b n a).2.2 = 0
      · rw [if_pos z] at h
        cases h
        exact hv
      · rw [if_neg z] at h
        obtain ⟨y, h1, h2⟩ := bn9_i h
        exact rdf9_g f (stf9_g hv h1) h2
/-- behind the last key there is none -/
def KV9_ (v : Int → Int) : Prop := ∀ k, 0 ≤ k → k < 7 → ¬ k < v 4 → v (16 + k) = -1
theorem kv9_u {v : Int → Int} {w x : Int} (h : KV9_ v) (h4 : w ≠ 4) (h16 : w < 16) : KV9_ (u9_ v w x) := fun k a b c => by
  rw [u9_n (fun z => h4 z.symm)] at c
  rw [u9_n (show 16 + k ≠ w by omega)]
  exact h k a b c
theorem kv9_o {v : Int → Int} : KV9_ (ov9_ v) := fun k a b c => ov9_k (by omega)
theorem kv9_s {v : Int → Int} {c x : Int} (h : KV9_ v) (h4 : v 4 = c) : KV9_ (u9_ (u9_ v (16 + c) x) 4 (c + 1)) := fun k a b d => by
  rw [u9_e] at d
  rw [u9_n (show 16 + k ≠ 4 by omega), u9_n (show 16 + k ≠ 16 + c by omega)]
  exact h k a b (by omega)
theorem kv9_d : KV9_ dv9_ := by
  have h : ∀ k : Nat, k < 7 → ¬ (k : Int) < dv9_ 4 → dv9_ (16 + (k : Int)) = -1 := by decide +kernel
  intro k a b c
  have g := h k.toNat (by omega)
  rw [show ((k.toNat : Nat) : Int) = k by omega] at g
  exact g c
theorem orf9_v {b : Int → Int} {n : Int} : ∀ (f : Nat) {a c : Int} {t v : Int → Int} {p : Int × (Int → Int)}, v 4 = c → KV9_ v → orf9_ f b n a t c v = Sum.inr p → KV9_ p.2
  | 0, _, _, _, _, _, _, _, h => by cases h
  | f + 1, a, c, t, v, p, hk, hv, h => by
      unfold orf9_ at h
      obtain ⟨q, h1, h2⟩ := bn9_i h
      have g1 : KV9_ (u9_ (u9_ v (16 + c) q.2) 4 (c + 1)) := kv9_s hv hk
      by_cases z : t q.2 = 0
      · rw [if_pos z] at h2
        by_cases z4 : (tkf9_ b n q.1).2.2 = 4
        · rw [if_pos z4] at h2
          exact orf9_v f u9_e g1 h2
        · rw [if_neg z4] at h2
          obtain ⟨e, h3, h4⟩ := bn9_i h2
          cases h4
          exact g1
      · rw [if_neg z] at h2
        cases h2
theorem bdf9_v {b v : Int → Int} {n a x : Int} {p : Int × (Int → Int)} (hv : KV9_ v) (hx : 0 ≤ x ∧ x < 14) (h2 : x ≠ 2) (h : bdf9_ b n a x v = Sum.inr p) : KV9_ p.2 := by
  by_cases z0 : x = 0
  · rw [bdf9_0 z0] at h
    obtain ⟨q, h1, h3⟩ := bn9_i h
    cases h3
    exact kv9_u hv (by decide) (by decide)
  · by_cases z1 : x = 1
    · rw [bdf9_1 z1] at h
      obtain ⟨q, h1, h3⟩ := bn9_i h
      cases h3
      exact kv9_u (kv9_u (kv9_u hv (by decide) (by decide)) (by decide) (by decide)) (by decide) (by decide)
    · by_cases z3 : x = 3
      · rw [bdf9_3 z3] at h
        cases h
        exact kv9_u hv (by decide) (by decide)
      · rw [bdf9_4 (by omega)] at h
        obtain ⟨q, h1, h3⟩ := bn9_i h
        cases h3
        exact kv9_u hv (by omega) (by omega)
theorem stf9_v {b t v : Int → Int} {n a : Int} {y : Int × (Int → Int) × (Int → Int)} (hv : KV9_ v) (h : stf9_ b n a t v = Sum.inr y) : KV9_ y.2.2 := by
  unfold stf9_ at h
  obtain ⟨q, h1, h2⟩ := bn9_i h
  by_cases z : t q.2 = 0
  · rw [if_pos z] at h2
    by_cases z2 : q.2 = 2
    · rw [if_pos z2] at h2
      obtain ⟨p, h3, h4⟩ := bn9_i h2
      cases h4
      exact orf9_v 9 ov9_4 kv9_o h3
    · rw [if_neg z2] at h2
      obtain ⟨p, h3, h4⟩ := bn9_i h2
      obtain ⟨e, h5, h6⟩ := bn9_i h4
      cases h6
      exact bdf9_v hv (wof9_g tb9_0 h1) z2 h3
  · rw [if_neg z] at h2
    cases h2
theorem rdf9_v {b : Int → Int} {n : Int} : ∀ (f : Nat) {a : Int} {t v v' : Int → Int}, KV9_ v → rdf9_ f b n a t v = Sum.inr v' → KV9_ v'
  | 0, _, _, _, _, _, h => by cases h
  | f + 1, a, t, v, v', hv, h => by
      unfold rdf9_ at h
      by_cases z : (tkf9_ b n a).2.2 = 0
      · rw [if_pos z] at h
        cases h
        exact hv
      · rw [if_neg z] at h
        obtain ⟨y, h1, h2⟩ := bn9_i h
        exact rdf9_v f (stf9_v hv h1) h2

