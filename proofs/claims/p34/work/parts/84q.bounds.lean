-- what is read keeps the bounds of the rules
def GV9_ (v : Int → Int) : Prop := (∀ w : Int, 0 ≤ w → w < 23 → (rb_ w).1 ≤ v w ∧ v w ≤ (rb_ w).2) ∧ v 2 ≤ v 1 ∧ v 3 ≤ v 2
theorem gb9_u {v : Int → Int} {w x : Int} (h : GV9_ v) (hx : (rb_ w).1 ≤ x ∧ x ≤ (rb_ w).2) (h1 : w ≠ 1) (h2 : w ≠ 2) (h3 : w ≠ 3) : GV9_ (u9_ v w x) := by
  refine ⟨fun j a b => ?_, ?_, ?_⟩
  · by_cases z : j = w
    · rw [z, u9_e]
      exact hx
    · rw [u9_n z]
      exact h.1 j a b
  · rw [u9_n (fun z => h2 z.symm), u9_n (fun z => h1 z.symm)]
    exact h.2.1
  · rw [u9_n (fun z => h3 z.symm), u9_n (fun z => h2 z.symm)]
    exact h.2.2
theorem rb9_0 : (rb_ 0) = (0, 3) ∧ (rb_ 1) = (0, 9) ∧ (rb_ 2) = (0, 9) ∧ (rb_ 3) = (0, 9) ∧ (rb_ 4) = (0, 7) ∧ (rb_ 5) = (0, 1) := by decide +kernel
theorem rb9_n : ∀ k : Nat, k < 16 → (rb_ (k : Int)).1 = (sa_ 1).getD k 0 ∧ (rb_ (k : Int)).2 = (sa_ 2).getD k 0 := by decide +kernel
theorem rb9_i {w : Int} (h0 : 0 ≤ w) (h1 : w < 16) : (rb_ w).1 = (sa_ 1).getD w.toNat 0 ∧ (rb_ w).2 = (sa_ 2).getD w.toNat 0 := by
  have h := rb9_n w.toNat (by omega)
  rw [show ((w.toNat : Nat) : Int) = w by omega] at h
  exact h
theorem rb9_m : ∀ k : Nat, k < 7 → rb_ ((16 + k : Nat) : Int) = (-1, 6) := by decide +kernel
theorem rb9_k {w : Int} (h0 : 16 ≤ w) (h1 : w < 23) : rb_ w = (-1, 6) := by
  have h := rb9_m (w - 16).toNat (by omega)
  rw [show ((16 + (w - 16).toNat : Nat) : Int) = w by omega] at h
  exact h
theorem gb9_p {v : Int → Int} {x y z : Int} (h : GV9_ v) (hx : 0 ≤ x ∧ x ≤ 9) (hy : 0 ≤ y ∧ y ≤ x) (hz : 0 ≤ z ∧ z ≤ y) : GV9_ (u9_ (u9_ (u9_ v 1 x) 2 y) 3 z) := by
  refine ⟨fun j a b => ?_, ?_, ?_⟩
  · by_cases z3 : j = 3
    · rw [z3, u9_e, rb9_0.2.2.2.1]
      exact ⟨hz.1, by show z ≤ 9; omega⟩
    · rw [u9_n z3]
      by_cases z2 : j = 2
      · rw [z2, u9_e, rb9_0.2.2.1]
        exact ⟨hy.1, by show y ≤ 9; omega⟩
      · rw [u9_n z2]
        by_cases z1 : j = 1
        · rw [z1, u9_e, rb9_0.2.1]
          exact hx
        · rw [u9_n z1]
          exact h.1 j a b
  · rw [u9_n (by decide), u9_e, u9_n (by decide), u9_n (by decide), u9_e]
    exact hy.2
  · rw [u9_e, u9_n (by decide), u9_e]
    exact hz.2
theorem gb9_o {v : Int → Int} (h : GV9_ v) : GV9_ (ov9_ v) := by
  refine ⟨fun j a b => ?_, ?_, ?_⟩
  · by_cases z : j = 4
    · rw [z, ov9_4, rb9_0.2.2.2.2.1]
      exact ⟨by decide, by decide⟩
    · by_cases y : 16 ≤ j
      · rw [ov9_k y, rb9_k y b]
        exact ⟨by decide, by decide⟩
      · rw [ov9_i z (by omega)]
        exact h.1 j a b
  · rw [ov9_i (by decide) (by decide), ov9_i (by decide) (by decide)]
    exact h.2.1
  · rw [ov9_i (by decide) (by decide), ov9_i (by decide) (by decide)]
    exact h.2.2
theorem gb9_n : ∀ k : Nat, k < 23 → (rb_ (k : Int)).1 ≤ dv9_ (k : Int) ∧ dv9_ (k : Int) ≤ (rb_ (k : Int)).2 := by decide +kernel
theorem gb9_d : GV9_ dv9_ := by
  refine ⟨fun w h0 h1 => ?_, by decide +kernel, by decide +kernel⟩
  have h := gb9_n w.toNat (by omega)
  rw [show ((w.toNat : Nat) : Int) = w by omega] at h
  exact h
theorem wd9_x (w : List Int) (ts : List (Int × Int × Int)) (b : Int → Int) (s e : Int) : WD9_ w ts b s e (wdf9_ w ts b s e) := by
  refine Classical.epsilon_spec (p := fun x : Int => WD9_ w ts b s e x) ?_
  by_cases z : ∃ k0 n e0, (k0, n, e0) ∈ ts ∧ EW9_ w b s e k0 e0
  · obtain ⟨k0, n, e0, h1, h2⟩ := z
    exact ⟨n, Or.inl ⟨k0, e0, h1, h2⟩⟩
  · exact ⟨-1, Or.inr ⟨rfl, fun k0 n e0 h1 h2 => z ⟨k0, n, e0, h1, h2⟩⟩⟩
theorem wof9_g {w : List Int} {ts : List (Int × Int × Int)} {c b : Int → Int} {L nW n a : Int} {q : Int × Int} (ht : TB9_ w ts c L nW) (h : wof9_ w ts b n a = Sum.inr q) : 0 ≤ q.2 ∧ q.2 < nW := by
  unfold wof9_ at h
  by_cases z5 : (tkf9_ b n a).2.2 = 5
  · rw [if_pos z5] at h
    cases h
  · rw [if_neg z5] at h
    by_cases z1 : (tkf9_ b n a).2.2 = 1
    · rw [if_pos z1] at h
      by_cases z : wdf9_ w ts b (tkf9_ b n a).1 (tkf9_ b n a).2.1 = -1
      · rw [if_pos z] at h
        cases h
      · rw [if_neg z] at h
        cases h
        rcases wd9_x w ts b (tkf9_ b n a).1 (tkf9_ b n a).2.1 with ⟨k0, e0, hm, _⟩ | ⟨hx, _⟩
        · have := (ht.1 _ _ _ hm).1
          exact ⟨this.1, this.2.1⟩
        · exact absurd hx z
    · rw [if_neg z1] at h
      cases h
theorem nrf9_g {b : Int → Int} {n a lo mo : Int} {q : Int × Int} (h : nrf9_ b n a lo mo = Sum.inr q) : lo ≤ q.2 ∧ q.2 ≤ mo := by
  unfold nrf9_ at h
  by_cases z5 : (tkf9_ b n a).2.2 = 5
  · rw [if_pos z5] at h
    cases h
  · rw [if_neg z5] at h
    by_cases z2 : (tkf9_ b n a).2.2 = 2
    · rw [if_pos z2] at h
      by_cases z : lo ≤ nv9_ b (tkf9_ b n a).1 ((tkf9_ b n a).2.1 - (tkf9_ b n a).1).toNat ∧ nv9_ b (tkf9_ b n a).1 ((tkf9_ b n a).2.1 - (tkf9_ b n a).1).toNat ≤ mo
      · rw [if_pos z] at h
        cases h
        exact z
      · rw [if_neg z] at h
        cases h
    · rw [if_neg z2] at h
      cases h
theorem bn9_i {α β : Type} {r : Qr9_ α} {f : α → Qr9_ β} {y : β} (h : bn9_ r f = Sum.inr y) : ∃ q, r = Sum.inr q ∧ f q = Sum.inr y := by
  cases r with
  | inl p => cases h
  | inr q => exact ⟨q, rfl, h⟩
theorem pnf9_g {b : Int → Int} {n a : Int} {q : Int × Int × Int × Int} (h : pnf9_ b n a = Sum.inr q) : (0 ≤ q.2.1 ∧ q.2.1 ≤ 9) ∧ (0 ≤ q.2.2.1 ∧ q.2.2.1 ≤ q.2.1) ∧ (0 ≤ q.2.2.2 ∧ q.2.2.2 ≤ q.2.2.1) := by
  unfold pnf9_ at h
  obtain ⟨x, h1, h2⟩ := bn9_i h
  obtain ⟨y, h3, h4⟩ := bn9_i h2
  obtain ⟨z, h5, h6⟩ := bn9_i h4
  cases h6
  have a1 := nrf9_g h1
  have a2 := nrf9_g h3
  have a3 := nrf9_g h5
  exact ⟨a1, a2, a3⟩
theorem orf9_g {b : Int → Int} {n : Int} : ∀ (f : Nat) {a c : Int} {t v : Int → Int} {p : Int × (Int → Int)}, KS9_ t c → GV9_ v → orf9_ f b n a t c v = Sum.inr p → GV9_ p.2
  | 0, _, _, _, _, _, _, _, h => by cases h
  | f + 1, a, c, t, v, p, hk, hv, h => by
      unfold orf9_ at h
      obtain ⟨q, h1, h2⟩ := bn9_i h
      have hx := wof9_g tb9_2 h1
      have hb := ks9_b hk
      by_cases z : t q.2 = 0
      · have hc : c < 7 := Classical.byContradiction fun y => ks9_7 hk (by omega) hx.1 hx.2 z
        have g1 : GV9_ (u9_ (u9_ v (16 + c) q.2) 4 (c + 1)) := by
          refine gb9_u (gb9_u hv ?_ (by omega) (by omega) (by omega)) ?_ (by decide) (by decide) (by decide)
          · rw [rb9_k (by omega) (by omega)]
            exact ⟨by show (-1 : Int) ≤ q.2; omega, by show q.2 ≤ 6; omega⟩
          · rw [rb9_0.2.2.2.2.1]
            exact ⟨by show (0 : Int) ≤ c + 1; omega, by show c + 1 ≤ 7; omega⟩
        rw [if_pos z] at h2
        by_cases z4 : (tkf9_ b n q.1).2.2 = 4
        · rw [if_pos z4] at h2
          exact orf9_g f (ks9_s hk hx.1 hx.2 z) g1 h2
        · rw [if_neg z4] at h2
          obtain ⟨e, h3, h4⟩ := bn9_i h2
          cases h4
          exact g1
      · rw [if_neg z] at h2
        cases h2
theorem bdf9_g {b v : Int → Int} {n a x : Int} {p : Int × (Int → Int)} (hv : GV9_ v) (hx : 0 ≤ x ∧ x < 14) (h2 : x ≠ 2) (h : bdf9_ b n a x v = Sum.inr p) : GV9_ p.2 := by
  by_cases z0 : x = 0
  · rw [bdf9_0 z0] at h
    obtain ⟨q, h1, h3⟩ := bn9_i h
    cases h3
    have y := wof9_g tb9_1 h1
    refine gb9_u hv ?_ (by decide) (by decide) (by decide)
    rw [rb9_0.1]
    exact ⟨y.1, by show q.2 ≤ 3; omega⟩
  · by_cases z1 : x = 1
    · rw [bdf9_1 z1] at h
      obtain ⟨q, h1, h3⟩ := bn9_i h
      cases h3
      have y := pnf9_g h1
      exact gb9_p hv y.1 y.2.1 y.2.2
    · by_cases z3 : x = 3
      · rw [bdf9_3 z3] at h
        cases h
        refine gb9_u hv ?_ (by decide) (by decide) (by decide)
        rw [rb9_0.2.2.2.2.2]
        exact ⟨by decide, by decide⟩
      · rw [bdf9_4 (by omega)] at h
        obtain ⟨q, h1, h3⟩ := bn9_i h
        cases h3
        have y := nrf9_g h1
        have e := rb9_i (w := x + 2) (by omega) (by omega)
        refine gb9_u hv ?_ (by omega) (by omega) (by omega)
        rw [e.1, e.2]
        exact y
theorem stf9_g {b t v : Int → Int} {n a : Int} {y : Int × (Int → Int) × (Int → Int)} (hv : GV9_ v) (h : stf9_ b n a t v = Sum.inr y) : GV9_ y.2.2 := by
  unfold stf9_ at h
  obtain ⟨q, h1, h2⟩ := bn9_i h
  by_cases z : t q.2 = 0
  · rw [if_pos z] at h2
    by_cases z2 : q.2 = 2
    · rw [if_pos z2] at h2
      obtain ⟨p, h3, h4⟩ := bn9_i h2
      cases h4
      exact orf9_g 9 ks9_0 (gb9_o hv) h3
    · rw [if_neg z2] at h2
      obtain ⟨p, h3, h4⟩ := bn9_i h2
      obtain ⟨e, h5, h6⟩ := bn9_i h4
      cases h6
      exact bdf9_g hv (wof9_g tb9_0 h1) z2 h3
  · rw [if_neg z] at h2
    cases h2
theorem rdf9_g {b : Int → Int} {n : Int} : ∀ (f : Nat) {a : Int} {t v v' : Int → Int}, GV9_ v → rdf9_ f b n a t v = Sum.inr v' → GV9_ v'
  | 0, _, _, _, _, _, h => by cases h
  | f + 1, a, t, v, v', hv, h => by
      unfold rdf9_ at h
      by_cases z : (tkf9_ b n a).2.2 = 0
      · rw [if_pos z] at h
        cases h
        exact hv
      · rw [if_neg z] at h
        obtain ⟨y, h1, h2⟩ := bn9_i h
        exact rdf9_g f (stf9_g hv h1) h2
/-- behind the last key there is none -/
def KV9_ (v : Int → Int) : Prop := ∀ k, 0 ≤ k → k < 7 → ¬ k < v 4 → v (16 + k) = -1
theorem kv9_u {v : Int → Int} {w x : Int} (h : KV9_ v) (h4 : w ≠ 4) (h16 : w < 16) : KV9_ (u9_ v w x) := fun k a b c => by
  rw [u9_n (fun z => h4 z.symm)] at c
  rw [u9_n (show 16 + k ≠ w by omega)]
  exact h k a b c
theorem kv9_o {v : Int → Int} : KV9_ (ov9_ v) := fun k a b c => ov9_k (by omega)
theorem kv9_s {v : Int → Int} {c x : Int} (h : KV9_ v) (h4 : v 4 = c) : KV9_ (u9_ (u9_ v (16 + c) x) 4 (c + 1)) := fun k a b d => by
  rw [u9_e] at d
  rw [u9_n (show 16 + k ≠ 4 by omega), u9_n (show 16 + k ≠ 16 + c by omega)]
  exact h k a b (by omega)
theorem kv9_d : KV9_ dv9_ := by
  have h : ∀ k : Nat, k < 7 → ¬ (k : Int) < dv9_ 4 → dv9_ (16 + (k : Int)) = -1 := by decide +kernel
  intro k a b c
  have g := h k.toNat (by omega)
  rw [show ((k.toNat : Nat) : Int) = k by omega] at g
  exact g c
theorem orf9_v {b : Int → Int} {n : Int} : ∀ (f : Nat) {a c : Int} {t v : Int → Int} {p : Int × (Int → Int)}, v 4 = c → KV9_ v → orf9_ f b n a t c v = Sum.inr p → KV9_ p.2
  | 0, _, _, _, _, _, _, _, h => by cases h
  | f + 1, a, c, t, v, p, hk, hv, h => by
      unfold orf9_ at h
      obtain ⟨q, h1, h2⟩ := bn9_i h
      have g1 : KV9_ (u9_ (u9_ v (16 + c) q.2) 4 (c + 1)) := kv9_s hv hk
      by_cases z : t q.2 = 0
      · rw [if_pos z] at h2
        by_cases z4 : (tkf9_ b n q.1).2.2 = 4
        · rw [if_pos z4] at h2
          exact orf9_v f u9_e g1 h2
        · rw [if_neg z4] at h2
          obtain ⟨e, h3, h4⟩ := bn9_i h2
          cases h4
          exact g1
      · rw [if_neg z] at h2
        cases h2
theorem bdf9_v {b v : Int → Int} {n a x : Int} {p : Int × (Int → Int)} (hv : KV9_ v) (hx : 0 ≤ x ∧ x < 14) (h2 : x ≠ 2) (h : bdf9_ b n a x v = Sum.inr p) : KV9_ p.2 := by
  by_cases z0 : x = 0
  · rw [bdf9_0 z0] at h
    obtain ⟨q, h1, h3⟩ := bn9_i h
    cases h3
    exact kv9_u hv (by decide) (by decide)
  · by_cases z1 : x = 1
    · rw [bdf9_1 z1] at h
      obtain ⟨q, h1, h3⟩ := bn9_i h
      cases h3
      exact kv9_u (kv9_u (kv9_u hv (by decide) (by decide)) (by decide) (by decide)) (by decide) (by decide)
    · by_cases z3 : x = 3
      · rw [bdf9_3 z3] at h
        cases h
        exact kv9_u hv (by decide) (by decide)
      · rw [bdf9_4 (by omega)] at h
        obtain ⟨q, h1, h3⟩ := bn9_i h
        cases h3
        exact kv9_u hv (by omega) (by omega)
theorem stf9_v {b t v : Int → Int} {n a : Int} {y : Int × (Int → Int) × (Int → Int)} (hv : KV9_ v) (h : stf9_ b n a t v = Sum.inr y) : KV9_ y.2.2 := by
  unfold stf9_ at h
  obtain ⟨q, h1, h2⟩ := bn9_i h
  by_cases z : t q.2 = 0
  · rw [if_pos z] at h2
    by_cases z2 : q.2 = 2
    · rw [if_pos z2] at h2
      obtain ⟨p, h3, h4⟩ := bn9_i h2
      cases h4
      exact orf9_v 9 ov9_4 kv9_o h3
    · rw [if_neg z2] at h2
      obtain ⟨p, h3, h4⟩ := bn9_i h2
      obtain ⟨e, h5, h6⟩ := bn9_i h4
      cases h6
      exact bdf9_v hv (wof9_g tb9_0 h1) z2 h3
  · rw [if_neg z] at h2
    cases h2
theorem rdf9_v {b : Int → Int} {n : Int} : ∀ (f : Nat) {a : Int} {t v v' : Int → Int}, KV9_ v → rdf9_ f b n a t v = Sum.inr v' → KV9_ v'
  | 0, _, _, _, _, _, h => by cases h
  | f + 1, a, t, v, v', hv, h => by
      unfold rdf9_ at h
      by_cases z : (tkf9_ b n a).2.2 = 0
      · rw [if_pos z] at h
        cases h
        exact hv
      · rw [if_neg z] at h
        obtain ⟨y, h1, h2⟩ := bn9_i h
        exact rdf9_v f (stf9_v hv h1) h2
-- competition of the reference
/-- what a competition's call does to the reference -/
def CR9_ (T T' : Zt) (x : Int) : Prop := (T 111 0 6 = 4 ∧ x = -5 ∧ T' 111 0 2 = -1 ∧ T' 111 0 1 = T 111 0 1 ∧ T' 111 0 6 = T 111 0 6) ∨ (T 111 0 6 < 4 ∧ T' 111 0 1 = 0 ∧ ((T' 111 0 6 = T 111 0 6 ∧ ∃ k, k ≠ 0 ∧ x = -10 - k ∧ rdf9_ 402 (cl9_ (T 111 0 1) (fun j => T 200 0 j)) (T 111 0 1) 0 (fun _ => 0) dv9_ = Sum.inl (k, T' 111 0 2)) ∨ (x = T 111 0 6 ∧ T' 111 0 6 = T 111 0 6 + 1 ∧ T' 111 0 2 = -1 ∧ ∃ v, rdf9_ 402 (cl9_ (T 111 0 1) (fun j => T 200 0 j)) (T 111 0 1) 0 (fun _ => 0) dv9_ = Sum.inr v ∧ ∀ j, 0 ≤ j → j < 23 → T' 205 0 (23 * T 111 0 6 + j) = v j)))
theorem bk_X11_competition_e_113 : ck_ fX11 (some .int) cX11_competition 113 [.iload 2, .iconst 23, .if_icmp .ge 145, .aload 0, .tableswitch 0 11 5 #[], .iconst 23, .aload 0, .tableswitch 0 11 6 #[], .imul, .iload 2, .iadd, .aload 0, .tableswitch 0 11 4 #[], .iload 2, .iaload, .iastore, .iinc 2 1, .goto 113] 145 = true := qck_r (nn_ _) (by decide +kernel)
theorem bs_X11_competition_e_113 {P : Zt → Option Zv → Prop} (K : Int → Zl → List Zv → Zt → Prop) : sx_ K P [.iload 2, .iconst 23, .if_icmp .ge 145, .aload 0, .tableswitch 0 11 5 #[], .iconst 23, .aload 0, .tableswitch 0 11 6 #[], .imul, .iload 2, .iadd, .aload 0, .tableswitch 0 11 4 #[], .iload 2, .iaload, .iastore, .iinc 2 1, .goto 113] 145 = x_iload 2 (x_iconst 23 (x_if_icmp .ge 145 K (x_aload 0 (x_g1 111 205 (x_iconst 23 (x_aload 0 (x_g0 111 6 0 4 (x_imul (x_iload 2 (x_iadd (x_aload 0 (x_g1 111 204 (x_iload 2 (x_iaload (x_iastore (x_iinc 2 1 (x_goto 113 K))))))))))))))))) := ((xe_iload 2).trans (congrArg (x_iload 2) ((xe_iconst 23).trans (congrArg (x_iconst 23) ((xe_if_icmp .ge 145).trans (congrArg (x_if_icmp .ge 145 K) ((xe_aload 0).trans (congrArg (x_aload 0) ((xe_g1 (kk := 111) rfl tl_11_5).trans (congrArg (x_g1 111 205) ((xe_iconst 23).trans (congrArg (x_iconst 23) ((xe_aload 0).trans (congrArg (x_aload 0) ((xe_g0 (kk := 111) rfl tl_11_6).trans (congrArg (x_g0 111 6 0 4) ((xe_imul).trans (congrArg (x_imul) ((xe_iload 2).trans (congrArg (x_iload 2) ((xe_iadd).trans (congrArg (x_iadd) ((xe_aload 0).trans (congrArg (x_aload 0) ((xe_g1 (kk := 111) rfl tl_11_4).trans (congrArg (x_g1 111 204) ((xe_iload 2).trans (congrArg (x_iload 2) ((xe_iaload).trans (congrArg (x_iaload) ((xe_iastore).trans (congrArg (x_iastore) ((xe_iinc 2 1).trans (congrArg (x_iinc 2 1) (xe_goto 113)))))))))))))))))))))))))))))))))))
theorem bk_X11_competition_e_145 : ck_ fX11 (some .int) cX11_competition 145 [.aload 0, .dup, .tableswitch 0 11 6 #[], .iconst 1, .iadd, .tableswitch 1 11 6 #[], .aload 0, .tableswitch 0 11 6 #[], .iconst 1, .isub, .ireturn] 162 = true := qck_r (nn_ _) (by decide +kernel)
theorem bs_X11_competition_e_145 {P : Zt → Option Zv → Prop} (K : Int → Zl → List Zv → Zt → Prop) : sx_ K P [.aload 0, .dup, .tableswitch 0 11 6 #[], .iconst 1, .iadd, .tableswitch 1 11 6 #[], .aload 0, .tableswitch 0 11 6 #[], .iconst 1, .isub, .ireturn] 162 = x_aload 0 (x_dup (x_g0 111 6 0 4 (x_iconst 1 (x_iadd (x_p 111 6 0 4 (x_aload 0 (x_g0 111 6 0 4 (x_iconst 1 (x_isub (x_ireturn P)))))))))) := ((xe_aload 0).trans (congrArg (x_aload 0) ((xe_dup).trans (congrArg (x_dup) ((xe_g0 (kk := 111) rfl tl_11_6).trans (congrArg (x_g0 111 6 0 4) ((xe_iconst 1).trans (congrArg (x_iconst 1) ((xe_iadd).trans (congrArg (x_iadd) ((xe_p (kk := 111) rfl tl_11_6).trans (congrArg (x_p 111 6 0 4) ((xe_aload 0).trans (congrArg (x_aload 0) ((xe_g0 (kk := 111) rfl tl_11_6).trans (congrArg (x_g0 111 6 0 4) ((xe_iconst 1).trans (congrArg (x_iconst 1) ((xe_isub).trans (congrArg (x_isub) (xe_ireturn)))))))))))))))))))))
theorem bk_X11_competition_e_83 : ck_ fX11 (some .int) cX11_competition 83 [.aload 0, .iconst 0, .tableswitch 1 11 1 #[], .aload 0, .aload 0, .tableswitch 0 11 63 #[], .tableswitch 1 11 2 #[], .aload 0, .tableswitch 0 11 62 #[], .ifCond .eq 111, .iconst (-10), .aload 0, .tableswitch 0 11 62 #[], .isub, .ireturn] 111 = true := qck_r (nn_ _) (by decide +kernel)
theorem bs_X11_competition_e_83 {P : Zt → Option Zv → Prop} (K : Int → Zl → List Zv → Zt → Prop) : sx_ K P [.aload 0, .iconst 0, .tableswitch 1 11 1 #[], .aload 0, .aload 0, .tableswitch 0 11 63 #[], .tableswitch 1 11 2 #[], .aload 0, .tableswitch 0 11 62 #[], .ifCond .eq 111, .iconst (-10), .aload 0, .tableswitch 0 11 62 #[], .isub, .ireturn] 111 = x_aload 0 (x_iconst 0 (x_p 111 1 0 400 (x_aload 0 (x_aload 0 (x_g0 111 63 (-1) 400 (x_p 111 2 (-1) 400 (x_aload 0 (x_g0 111 62 0 5 (x_ifCond .eq 111 K (x_iconst (-10) (x_aload 0 (x_g0 111 62 0 5 (x_isub (x_ireturn P)))))))))))))) := ((xe_aload 0).trans (congrArg (x_aload 0) ((xe_iconst 0).trans (congrArg (x_iconst 0) ((xe_p (kk := 111) rfl tl_11_1).trans (congrArg (x_p 111 1 0 400) ((xe_aload 0).trans (congrArg (x_aload 0) ((xe_aload 0).trans (congrArg (x_aload 0) ((xe_g0 (kk := 111) rfl tl_11_63).trans (congrArg (x_g0 111 63 (-1) 400) ((xe_p (kk := 111) rfl tl_11_2).trans (congrArg (x_p 111 2 (-1) 400) ((xe_aload 0).trans (congrArg (x_aload 0) ((xe_g0 (kk := 111) rfl tl_11_62).trans (congrArg (x_g0 111 62 0 5) ((xe_ifCond .eq 111).trans (congrArg (x_ifCond .eq 111 K) ((xe_iconst (-10)).trans (congrArg (x_iconst (-10)) ((xe_aload 0).trans (congrArg (x_aload 0) ((xe_g0 (kk := 111) rfl tl_11_62).trans (congrArg (x_g0 111 62 0 5) ((xe_isub).trans (congrArg (x_isub) (xe_ireturn)))))))))))))))))))))))))))))
theorem bk_X11_competition_e_111 : ck_ fX11 (some .int) cX11_competition 111 [.iconst 0, .istore 2] 113 = true := qck_r (nn_ _) (by decide +kernel)
theorem bs_X11_competition_e_111 {P : Zt → Option Zv → Prop} (K : Int → Zl → List Zv → Zt → Prop) : sx_ K P [.iconst 0, .istore 2] 113 = x_iconst 0 (x_istore 2 (K 113)) := ((xe_iconst 0).trans (congrArg (x_iconst 0) ((xe_istore 2).trans (congrArg (x_istore 2) xe_nil))))
theorem bk_X11_competition_e_37 : ck_ fX11 (some .int) cX11_competition 37 [.iload 1, .ifCond .eq 83, .aload 0, .tableswitch 0 11 62 #[], .ifCond .ne 83, .aload 0] 49 = true := qck_r (nn_ _) (by decide +kernel)
theorem bs_X11_competition_e_37 {P : Zt → Option Zv → Prop} (K : Int → Zl → List Zv → Zt → Prop) : sx_ K P [.iload 1, .ifCond .eq 83, .aload 0, .tableswitch 0 11 62 #[], .ifCond .ne 83, .aload 0] 49 = x_iload 1 (x_ifCond .eq 83 K (x_aload 0 (x_g0 111 62 0 5 (x_ifCond .ne 83 K (x_aload 0 (K 49)))))) := ((xe_iload 1).trans (congrArg (x_iload 1) ((xe_ifCond .eq 83).trans (congrArg (x_ifCond .eq 83 K) ((xe_aload 0).trans (congrArg (x_aload 0) ((xe_g0 (kk := 111) rfl tl_11_62).trans (congrArg (x_g0 111 62 0 5) ((xe_ifCond .ne 83).trans (congrArg (x_ifCond .ne 83 K) ((xe_aload 0).trans (congrArg (x_aload 0) xe_nil))))))))))))
theorem bk_X11_competition_e_52 : ck_ fX11 (some .int) cX11_competition 52 [.aload 0, .tableswitch 0 11 62 #[], .ifCond .ne 70, .aload 0, .tableswitch 0 11 58 #[], .ifCond .eq 70, .iconst 1, .goto 71] 70 = true := qck_r (nn_ _) (by decide +kernel)
theorem bs_X11_competition_e_52 {P : Zt → Option Zv → Prop} (K : Int → Zl → List Zv → Zt → Prop) : sx_ K P [.aload 0, .tableswitch 0 11 62 #[], .ifCond .ne 70, .aload 0, .tableswitch 0 11 58 #[], .ifCond .eq 70, .iconst 1, .goto 71] 70 = x_aload 0 (x_g0 111 62 0 5 (x_ifCond .ne 70 K (x_aload 0 (x_g0 111 58 0 4 (x_ifCond .eq 70 K (x_iconst 1 (x_goto 71 K))))))) := ((xe_aload 0).trans (congrArg (x_aload 0) ((xe_g0 (kk := 111) rfl tl_11_62).trans (congrArg (x_g0 111 62 0 5) ((xe_ifCond .ne 70).trans (congrArg (x_ifCond .ne 70 K) ((xe_aload 0).trans (congrArg (x_aload 0) ((xe_g0 (kk := 111) rfl tl_11_58).trans (congrArg (x_g0 111 58 0 4) ((xe_ifCond .eq 70).trans (congrArg (x_ifCond .eq 70 K) ((xe_iconst 1).trans (congrArg (x_iconst 1) (xe_goto 71)))))))))))))))
theorem bk_X11_competition_e_70 : ck_ fX11 (some .int) cX11_competition 70 [.iconst 0, .istore 1, .iload 1, .ifCond .eq 37, .aload 0] 77 = true := qck_r (nn_ _) (by decide +kernel)
theorem bs_X11_competition_e_70 {P : Zt → Option Zv → Prop} (K : Int → Zl → List Zv → Zt → Prop) : sx_ K P [.iconst 0, .istore 1, .iload 1, .ifCond .eq 37, .aload 0] 77 = x_iconst 0 (x_istore 1 (x_iload 1 (x_ifCond .eq 37 K (x_aload 0 (K 77))))) := ((xe_iconst 0).trans (congrArg (x_iconst 0) ((xe_istore 1).trans (congrArg (x_istore 1) ((xe_iload 1).trans (congrArg (x_iload 1) ((xe_ifCond .eq 37).trans (congrArg (x_ifCond .eq 37 K) ((xe_aload 0).trans (congrArg (x_aload 0) xe_nil))))))))))
theorem bk_X11_competition_e_71 : ck_ fX11 (some .int) cX11_competition 71 [.istore 1, .iload 1, .ifCond .eq 37, .aload 0] 77 = true := qck_r (nn_ _) (by decide +kernel)
theorem bs_X11_competition_e_71 {P : Zt → Option Zv → Prop} (K : Int → Zl → List Zv → Zt → Prop) : sx_ K P [.istore 1, .iload 1, .ifCond .eq 37, .aload 0] 77 = x_istore 1 (x_iload 1 (x_ifCond .eq 37 K (x_aload 0 (K 77)))) := ((xe_istore 1).trans (congrArg (x_istore 1) ((xe_iload 1).trans (congrArg (x_iload 1) ((xe_ifCond .eq 37).trans (congrArg (x_ifCond .eq 37 K) ((xe_aload 0).trans (congrArg (x_aload 0) xe_nil))))))))
theorem bk_X11_competition_e_80 : ck_ fX11 (some .int) cX11_competition 80 [.goto 37] 83 = true := qck_r (nn_ _) (by decide +kernel)
theorem bs_X11_competition_e_80 {P : Zt → Option Zv → Prop} (K : Int → Zl → List Zv → Zt → Prop) : sx_ K P [.goto 37] 83 = x_goto 37 K := (xe_goto 37)
theorem bk_X11_competition_e_0 : ck_ fX11 (some .int) cX11_competition 0 [.aload 0, .tableswitch 0 11 6 #[], .iconst 4, .if_icmp .ne 16, .aload 0, .iconst (-1), .tableswitch 1 11 2 #[], .iconst (-5), .ireturn] 16 = true := qck_r (nn_ _) (by decide +kernel)
theorem bs_X11_competition_e_0 {P : Zt → Option Zv → Prop} (K : Int → Zl → List Zv → Zt → Prop) : sx_ K P [.aload 0, .tableswitch 0 11 6 #[], .iconst 4, .if_icmp .ne 16, .aload 0, .iconst (-1), .tableswitch 1 11 2 #[], .iconst (-5), .ireturn] 16 = x_aload 0 (x_g0 111 6 0 4 (x_iconst 4 (x_if_icmp .ne 16 K (x_aload 0 (x_iconst (-1) (x_p 111 2 (-1) 400 (x_iconst (-5) (x_ireturn P)))))))) := ((xe_aload 0).trans (congrArg (x_aload 0) ((xe_g0 (kk := 111) rfl tl_11_6).trans (congrArg (x_g0 111 6 0 4) ((xe_iconst 4).trans (congrArg (x_iconst 4) ((xe_if_icmp .ne 16).trans (congrArg (x_if_icmp .ne 16 K) ((xe_aload 0).trans (congrArg (x_aload 0) ((xe_iconst (-1)).trans (congrArg (x_iconst (-1)) ((xe_p (kk := 111) rfl tl_11_2).trans (congrArg (x_p 111 2 (-1) 400) ((xe_iconst (-5)).trans (congrArg (x_iconst (-5)) (xe_ireturn)))))))))))))))))
theorem bk_X11_competition_e_16 : ck_ fX11 (some .int) cX11_competition 16 [.aload 0, .iconst 0, .tableswitch 1 11 57 #[], .aload 0, .iconst 0, .tableswitch 1 11 62 #[], .aload 0, .iconst (-1), .tableswitch 1 11 63 #[], .aload 0] 32 = true := qck_r (nn_ _) (by decide +kernel)
theorem bs_X11_competition_e_16 {P : Zt → Option Zv → Prop} (K : Int → Zl → List Zv → Zt → Prop) : sx_ K P [.aload 0, .iconst 0, .tableswitch 1 11 57 #[], .aload 0, .iconst 0, .tableswitch 1 11 62 #[], .aload 0, .iconst (-1), .tableswitch 1 11 63 #[], .aload 0] 32 = x_aload 0 (x_iconst 0 (x_p 111 57 0 400 (x_aload 0 (x_iconst 0 (x_p 111 62 0 5 (x_aload 0 (x_iconst (-1) (x_p 111 63 (-1) 400 (x_aload 0 (K 32)))))))))) := ((xe_aload 0).trans (congrArg (x_aload 0) ((xe_iconst 0).trans (congrArg (x_iconst 0) ((xe_p (kk := 111) rfl tl_11_57).trans (congrArg (x_p 111 57 0 400) ((xe_aload 0).trans (congrArg (x_aload 0) ((xe_iconst 0).trans (congrArg (x_iconst 0) ((xe_p (kk := 111) rfl tl_11_62).trans (congrArg (x_p 111 62 0 5) ((xe_aload 0).trans (congrArg (x_aload 0) ((xe_iconst (-1)).trans (congrArg (x_iconst (-1)) ((xe_p (kk := 111) rfl tl_11_63).trans (congrArg (x_p 111 63 (-1) 400) ((xe_aload 0).trans (congrArg (x_aload 0) xe_nil))))))))))))))))))))
theorem bk_X11_competition_e_35 : ck_ fX11 (some .int) cX11_competition 35 [.iconst 1, .istore 1] 37 = true := qck_r (nn_ _) (by decide +kernel)
theorem bs_X11_competition_e_35 {P : Zt → Option Zv → Prop} (K : Int → Zl → List Zv → Zt → Prop) : sx_ K P [.iconst 1, .istore 1] 37 = x_iconst 1 (x_istore 1 (K 37)) := ((xe_iconst 1).trans (congrArg (x_iconst 1) ((xe_istore 1).trans (congrArg (x_istore 1) xe_nil))))
abbrev po_X11_competition_e (T : Zt) : Zt → Option Zv → Prop := fun T' r => ∃ x : Int, r = some (vI x) ∧ fr_ [(111, [1, 2, 6, 57, 58, 59, 60, 61, 62, 63]), (204, []), (269, []), (270, []), (205, [])] T T' ∧ ((x < 0 ∧ T' 111 0 6 = T 111 0 6 ∨ x = T 111 0 6 ∧ T' 111 0 6 = x + 1) ∧ RI_ T' ∧ RW_ T' ∧ (∀ j, j < 23 * T 111 0 6 → T' 205 0 j = T 205 0 j) ∧ CR9_ T T' x)
set_option maxHeartbeats 4000000 in
theorem ct_X11_competition_e {T : Zt} (hC : CW_ T) (hRI : RI_ T) (hRW : RW_ T) : Ct_ yX11_competition zX11_competition T [vR 111 0] (po_X11_competition_e T) := by
  refine ct_of pn_11 rfl rfl (Nat.le_of_ble_eq_true rfl) (fun hT hav => ?_)
  have hz : zX11_competition.2.2.2.1 = some .boolean → ∀ (T' : Zt) (x : Int), po_X11_competition_e T T' (some (vI x)) → 0 ≤ x ∧ x ≤ 1 := fun h => by cases h
  have hb_1 : 0 ≤ T 111 0 1 ∧ T 111 0 1 ≤ 400 := bd_f hT 111 1 tl_11_1 0
  have hb_6 : 0 ≤ T 111 0 6 ∧ T 111 0 6 ≤ 4 := bd_f hT 111 6 tl_11_6 0
  show J_ zX11_competition T (po_X11_competition_e T) 0 0 0 [some (vR 111 0), none, none] [] T
  have c_83 : ∀ (v : Int → Int) (T4 : Zt), (fr_ [(111, [57, 58, 59, 60, 61, 62, 63]), (204, []), (269, []), (270, [])] T T4) → (0 ≤ T 111 0 6 ∧ T 111 0 6 < 4) → ((T4 111 0 62 ≠ 0 ∧ rdf9_ 402 (cl9_ (T 111 0 1) (fun j => T 200 0 j)) (T 111 0 1) 0 (fun _ => 0) dv9_ = Sum.inl (T4 111 0 62, T4 111 0 63)) ∨ (T4 111 0 62 = 0 ∧ rdf9_ 402 (cl9_ (T 111 0 1) (fun j => T 200 0 j)) (T 111 0 1) 0 (fun _ => 0) dv9_ = Sum.inr v)) → (T4 111 0 62 = 0 → VR9_ T4 v) → (T4 111 0 62 = 0 → T4 111 0 63 = -1) → J_ zX11_competition T (po_X11_competition_e T) 0 0 83 [some (vR 111 0), none, none] [] T4 := by
    intro v T4 hf_83 a4 jr4 jv4 j64
    have jrr : T4 111 0 62 = 0 → rdf9_ 402 (cl9_ (T 111 0 1) (fun j => T 200 0 j)) (T 111 0 1) 0 (fun _ => 0) dv9_ = Sum.inr v := fun z => (jr4.resolve_left (fun y => y.1 z)).2
    refine j_ok (fun hT4 _ => ?_)
    have hb4_62 : 0 ≤ T4 111 0 62 ∧ T4 111 0 62 ≤ 5 := bd_f hT4 111 62 tl_11_62 0
    have c_113 : ∀ (nn : Nat) (k : Int) (T2 : Zt), ((23 - k).toNat) ≤ nn → (fr_ [(111, [1, 2, 57, 58, 59, 60, 61, 62, 63]), (204, []), (269, []), (270, []), (205, [])] T T2) → (0 ≤ k ∧ k ≤ 23) → (VR9_ T2 v) → (T2 111 0 1 = 0 ∧ T2 111 0 2 = -1 ∧ T4 111 0 62 = 0) → (∀ j : Int, 0 ≤ j → j < k → T2 205 0 (23 * T 111 0 6 + j) = T2 204 0 j) → (∀ j : Int, j < 23 * T 111 0 6 → T2 205 0 j = T 205 0 j) → J_ zX11_competition T (po_X11_competition_e T) 0 0 113 [some (vR 111 0), none, some (vI k)] [] T2 := by
      intro nn
      induction nn using Nat.strongRecOn with
      | _ nn ih_113 =>
        intro k T2 hm_113 hf_113 k1 g2 w2 r1 r2
        replace hm_113 := fun (_ : Unit) => hm_113
        refine j_blx (F := fX11) tb_X11 (nn_ _) bk_X11_competition_e_113 bs_X11_competition_e_113 hz (fun K hK => ?_)
        refine And.intro (fun c1 => ?_) (fun c1 => ?_)
        · refine hK 145 _ [] T2 ?_
          refine j_blx (F := fX11) tb_X11 (nn_ _) bk_X11_competition_e_145 bs_X11_competition_e_145 hz (fun K hK => ?_)
          intro b2 b2b
          have e3 : T2 111 0 6 = T 111 0 6 := hf_113 111 0 6 rfl
          rw [e3] at b2 b2b ⊢
          refine rg_i (by omega) ?_
          refine bd_i (by omega) ?_
          refine x_nm (fun U4 hU4 => ?_)
          have e5 := up_f hU4
          intro b6 b6b
          have e7 : U4 111 0 6 = (T 111 0 6) + 1 := up_f hU4
          rw [e7] at b6 b6b ⊢
          refine rg_i (by omega) ?_
          refine (show po_X11_competition_e T U4 (some (vI (((T 111 0 6) + 1) - 1))) from ?_)
          have e8 : U4 111 0 6 = (T 111 0 6) + 1 := up_f hU4
          have e9 : U4 111 0 1 = T2 111 0 1 := up_j hU4 (by decide) 111 0
          have e10 : U4 111 0 2 = T2 111 0 2 := up_j hU4 (by decide) 111 0
          have e11 : U4 111 0 6 = (T 111 0 6) + 1 := up_f hU4
          have ec : U4 111 0 6 = T 111 0 6 + 1 := by omega
          have hw := rdf9_g 402 gb9_d (jrr (by omega))
          have ek : ∀ j, U4 205 0 j = T2 205 0 j := fun j => up_k hU4 (by exact Nat.ne_of_beq_eq_false rfl) 0 j
          have rv : ∀ j, 0 ≤ j → j < 23 → U4 205 0 (23 * T 111 0 6 + j) = v j := fun j a b => (ek _).trans ((r1 j a (by omega)).trans (g2 j a b))
          refine ⟨_, rfl, fr_u (fr_t (fr_0 _ _) (fr_s hf_113 rfl)) hU4 rfl, by omega, fun c w a b d e => ?_, fun c a b => ?_, fun j a => (ek j).trans (r2 j a), Or.inr ⟨by omega, by omega, Or.inr ⟨by omega, by omega, by omega, v, jrr (by omega), rv⟩⟩⟩
          · by_cases z : c = T 111 0 6
            · rw [z, rv w d e]; exact hw.1 w d e
            · rw [ek, r2 _ (by omega)]; exact hRI c w a (by omega) d e
          · by_cases z : c = T 111 0 6
            · rw [z, rv 1 (by omega) (by omega), rv 2 (by omega) (by omega), rv 3 (by omega) (by omega)]; exact hw.2
            · rw [ek, ek, ek, r2 _ (by omega), r2 _ (by omega), r2 _ (by omega)]; exact hRW c a (by omega)
        · intro b12 b12b
          have e13 : T2 111 0 6 = T 111 0 6 := hf_113 111 0 6 rfl
          rw [e13] at b12 b12b ⊢
          refine rg_i (by omega) ?_
          refine rg_i (by omega) ?_
          refine ix_i (by omega) ?_
          intro b14 b14b
          refine iy_i (by omega) (by omega) ?_
          refine x_nm (fun U15 hU15 => ?_)
          have e16 := up_f hU15
          refine rg_i (by omega) ?_
          refine hK 113 [some (vR 111 0), none, some (vI (k + 1))] [] U15 ?_
          have e17 : U15 111 0 1 = T2 111 0 1 := up_k hU15 (by exact Nat.ne_of_beq_eq_false rfl) 0 1
          have e18 : U15 111 0 2 = T2 111 0 2 := up_k hU15 (by exact Nat.ne_of_beq_eq_false rfl) 0 2
          refine ih_113 _ ?_ (k + 1) U15 (Nat.le_refl _) ?_ ?_ ?_ ?_ ?_ ?_
          · have hm_113 := hm_113 (); omega
          · exact fr_u (fr_t (fr_0 _ _) (fr_s hf_113 rfl)) hU15 rfl
          · omega
          · exact VR9_f g2 (show fr_ [(205, [])] T2 U15 from fr_u (fr_0 _ _) hU15 rfl) (fun _ => rfl)
          · omega
          · intro j a b
            by_cases z : j = k
            · subst z; rw [up_f hU15]; exact (up_k hU15 (by exact Nat.ne_of_beq_eq_false rfl) 0 j).symm
            · rw [up_g hU15 (by omega), up_k hU15 (by exact Nat.ne_of_beq_eq_false rfl)]; exact r1 j a (by omega)
          · intro j a
            rw [up_g hU15 (by omega)]; exact r2 j a
    refine j_blx (F := fX11) tb_X11 (nn_ _) bk_X11_competition_e_83 bs_X11_competition_e_83 hz (fun K hK => ?_)
    refine bd_i (by omega) ?_
    refine x_nm (fun U19 hU19 => ?_)
    have e20 := up_f hU19
    intro b21 b21b
    have e22 : U19 111 0 63 = T4 111 0 63 := up_j hU19 (by decide) 111 0
    rw [e22] at b21 b21b ⊢
    refine bd_i (by omega) ?_
    refine x_nm (fun U23 hU23 => ?_)
    have e24 := up_f hU23
    intro b25 b25b
    have e26 : U23 111 0 62 = T4 111 0 62 := (up_j hU23 (by decide) 111 0).trans (up_j hU19 (by decide) 111 0)
    rw [e26] at b25 b25b ⊢
    refine And.intro (fun c27 => ?_) (fun c27 => ?_)
    · refine hK 111 _ [] U23 ?_
      refine j_blx (F := fX11) tb_X11 (nn_ _) bk_X11_competition_e_111 bs_X11_competition_e_111 hz (fun K hK => ?_)
      refine hK 113 [some (vR 111 0), none, some (vI 0)] [] U23 ?_
      have e28 : U23 111 0 1 = 0 := (up_j hU23 (by decide) 111 0).trans (up_f hU19)
      have e29 : U23 111 0 2 = T4 111 0 63 := up_f hU23
      refine c_113 _ 0 U23 (Nat.le_refl _) ?_ ?_ ?_ ?_ ?_ ?_
      · exact fr_u (fr_u (fr_t (fr_0 _ _) (fr_s hf_83 rfl)) hU19 rfl) hU23 rfl
      · omega
      · exact VR9_f (jv4 (by omega)) (show fr_ [(111, [2, 1])] T4 U23 from fr_u (fr_u (fr_0 _ _) hU19 rfl) hU23 rfl) (fun _ => rfl)
      · omega
      · intro j a b; omega
      · exact fun j _ => (show fr_ [(111, [2, 1, 57, 58, 59, 60, 61, 62, 63]), (204, []), (269, []), (270, [])] T U23 from fr_u (fr_u (fr_t (fr_0 _ _) (fr_s hf_83 rfl)) hU19 rfl) hU23 rfl) 205 0 j rfl
    · intro b30 b30b
      have e31 : U23 111 0 62 = T4 111 0 62 := (up_j hU23 (by decide) 111 0).trans (up_j hU19 (by decide) 111 0)
      rw [e31] at b30 b30b ⊢
      refine rg_i (by omega) ?_
      refine (show po_X11_competition_e T U23 (some (vI ((-10) - (T4 111 0 62)))) from ?_)
      have e32 : U23 111 0 6 = T 111 0 6 := (up_j hU23 (by decide) 111 0).trans ((up_j hU19 (by decide) 111 0).trans (hf_83 111 0 6 rfl))
      have e33 : U23 111 0 1 = 0 := (up_j hU23 (by decide) 111 0).trans (up_f hU19)
      have e34 : U23 111 0 2 = T4 111 0 63 := up_f hU23
      have e35 : U23 111 0 6 = T 111 0 6 := (up_j hU23 (by decide) 111 0).trans ((up_j hU19 (by decide) 111 0).trans (hf_83 111 0 6 rfl))
      refine ⟨_, rfl, fr_u (fr_u (fr_t (fr_0 _ _) (fr_s hf_83 rfl)) hU19 rfl) hU23 rfl, by omega, RI__f (ws := [(111, [2, 1, 57, 58, 59, 60, 61, 62, 63]), (204, []), (269, []), (270, [])]) hRI (fr_u (fr_u (fr_t (fr_0 _ _) (fr_s hf_83 rfl)) hU19 rfl) hU23 rfl) ⟨fun _ => rfl, rfl, trivial⟩, RW__f (ws := [(111, [2, 1, 57, 58, 59, 60, 61, 62, 63]), (204, []), (269, []), (270, [])]) hRW (fr_u (fr_u (fr_t (fr_0 _ _) (fr_s hf_83 rfl)) hU19 rfl) hU23 rfl) ⟨fun _ => rfl, rfl, trivial⟩, fun j _ => (show fr_ [(111, [2, 1, 57, 58, 59, 60, 61, 62, 63]), (204, []), (269, []), (270, [])] T U23 from fr_u (fr_u (fr_t (fr_0 _ _) (fr_s hf_83 rfl)) hU19 rfl) hU23 rfl) 205 0 j rfl, Or.inr ⟨by omega, by omega, Or.inl ⟨by omega, T4 111 0 62, by omega, by omega, ?_⟩⟩⟩
      rw [show U23 111 0 2 = T4 111 0 63 by omega]
      exact (jr4.resolve_right (fun z => by omega)).2
  have c_37 : ∀ (nn : Nat) (mo : Int) (f : Nat) (t : Int → Int) (v : Int → Int) (T1 : Zt), f ≤ nn → (fr_ [(111, [57, 58, 59, 60, 61, 62, 63]), (204, []), (269, []), (270, [])] T T1) → (0 ≤ T 111 0 6 ∧ T 111 0 6 < 4) → ((T1 111 0 62 ≠ 0 ∧ rdf9_ 402 (cl9_ (T 111 0 1) (fun j => T 200 0 j)) (T 111 0 1) 0 (fun _ => 0) dv9_ = Sum.inl (T1 111 0 62, T1 111 0 63)) ∨ (T1 111 0 62 = 0 ∧ mo = 0 ∧ rdf9_ 402 (cl9_ (T 111 0 1) (fun j => T 200 0 j)) (T 111 0 1) 0 (fun _ => 0) dv9_ = Sum.inr v) ∨ (T1 111 0 62 = 0 ∧ mo = 1 ∧ rdf9_ 402 (cl9_ (T 111 0 1) (fun j => T 200 0 j)) (T 111 0 1) 0 (fun _ => 0) dv9_ = rdf9_ (f + 1) (cl9_ (T 111 0 1) (fun j => T 200 0 j)) (T 111 0 1) (T1 111 0 57) t v)) → (T1 111 0 62 = 0 → VR9_ T1 v) → (T1 111 0 62 = 0 → mo = 1 → TA9_ T1 t ∧ 401 ≤ (f : Int) + T1 111 0 57 ∧ T1 111 0 57 ≤ T 111 0 1) → (T1 111 0 62 = 0 → T1 111 0 63 = -1) → J_ zX11_competition T (po_X11_competition_e T) 0 0 37 [some (vR 111 0), some (vI mo), none] [] T1 := by
    intro nn
    induction nn using Nat.strongRecOn with
    | _ nn ih_37 =>
      intro mo f t v T1 hm_37 hf_37 a1 jr jv jt j63
      replace hm_37 := fun (_ : Unit) => hm_37
      refine j_ok (fun hT1 _ => ?_)
      have hb1_57 : 0 ≤ T1 111 0 57 ∧ T1 111 0 57 ≤ 400 := bd_f hT1 111 57 tl_11_57 0
      refine j_blx (F := fX11) tb_X11 (nn_ _) bk_X11_competition_e_37 bs_X11_competition_e_37 hz (fun K hK => ?_)
      refine And.intro (fun c36 => ?_) (fun c36 => ?_)
      · refine hK 83 _ [] T1 ?_
        refine j_drq [some (vR 111 0), none, none] (drq_s (drq_n (drq_n drq_0))) ?_
        refine c_83 v T1 ?_ ?_ ?_ ?_ ?_
        · exact fr_t (fr_0 _ _) (fr_s hf_37 rfl)
        · omega
        · rcases jr with z | ⟨z1, z2, z3⟩ | ⟨z1, z2, z3⟩
          · exact Or.inl z
          · exact Or.inr ⟨z1, z3⟩
          · exfalso; omega
        · exact jv
        · exact j63
      · intro b37 b37b
        refine And.intro (fun c38 => ?_) (fun c38 => ?_)
        · refine hK 83 [some (vR 111 0), some (vI mo), none] [] T1 ?_
          refine j_drq [some (vR 111 0), none, none] (drq_s (drq_n (drq_n drq_0))) ?_
          refine c_83 v T1 ?_ ?_ ?_ ?_ ?_
          · exact fr_t (fr_0 _ _) (fr_s hf_37 rfl)
          · omega
          · rcases jr with z | ⟨z1, z2, z3⟩ | ⟨z1, z2, z3⟩
            · exact Or.inl z
            · exact Or.inr ⟨z1, z3⟩
            · exfalso; omega
          · exact jv
          · exact j63
        · have hj : T1 111 0 62 = 0 ∧ mo = 1 := by omega
          have jt1 := jt hj.1 hj.2
          have ir := ((jr.resolve_left (fun z => by omega)).resolve_left (fun z => by omega)).2.2
          have j631 := j63 hj.1
          refine hK 49 [some (vR 111 0), some (vI mo), none] [vR 111 0] T1 ?_
          have e39 : T1 111 0 1 = T 111 0 1 := hf_37 111 0 1 rfl
          refine j_callV (y := yX11_take) (Yc := zX11_take) (rest := []) [] (ct_X11_take_e (T := T1) (by omega) (by omega)) cl_X11_291 (qd_c (by decide +kernel)) (nn_ _) rfl (rf_of rfl) (Nat.le_of_ble_eq_true rfl) (Nat.le_of_ble_eq_true rfl) (Nat.le_of_ble_eq_true rfl) rfl ?_
          rintro U40 _ ⟨rfl, fU40, qU40⟩
          show J_ zX11_competition T (po_X11_competition_e T) 0 0 52 _ [] U40
          have qka := qU40
          have fb41 : fr_ [(111, [57, 58, 59, 60, 61, 62, 63]), (204, []), (269, []), (270, [])] T T1 := fr_t (fr_0 _ _) (fr_s hf_37 rfl)
          rw [show (fun j => T1 200 0 j) = fun j => T 200 0 j from funext fun j => fb41 200 0 j rfl, show T1 111 0 1 = T 111 0 1 from fb41 111 0 1 rfl] at qka
          obtain ⟨qaa, ea, ka, hka, hqa⟩ := qka
          have tra := tk9_r hka
          refine j_blx (F := fX11) tb_X11 (nn_ _) bk_X11_competition_e_52 bs_X11_competition_e_52 hz (fun K hK => ?_)
          intro b42 b42b
          refine And.intro (fun c43 => ?_) (fun c43 => ?_)
          · refine hK 70 _ [] U40 ?_
            refine j_blx (F := fX11) tb_X11 (nn_ _) bk_X11_competition_e_70 bs_X11_competition_e_70 hz (fun K hK => ?_)
            refine And.intro (fun c44 => ?_) (fun c44 => ?_)
            · refine hK 37 [some (vR 111 0), some (vI 0), none] [] U40 ?_
              refine ih_37 _ ?_ 0 (f - 1) t v U40 (Nat.le_refl _) ?_ ?_ ?_ ?_ ?_ ?_
              · have hm_37 := hm_37 (); omega
              · exact fr_t (fr_t (fr_0 _ _) (fr_s hf_37 rfl)) (fr_s fU40 rfl)
              · omega
              · refine Or.inl ⟨by omega, ir.trans ((rdf9_s hka (by omega) (by omega)).trans (bn9_l (stf9_w ?_)))⟩
                rw [show U40 111 0 62 = 1 by omega, show U40 111 0 63 = U40 111 0 59 by omega]
                exact wof9_1 hka (by omega) (by omega)
              · exact fun z => absurd z (by omega)
              · exact fun z => absurd z (by omega)
              · exact fun z => absurd z (by omega)
            · exact absurd c44 (by decide)
          · intro b45 b45b
            refine And.intro (fun c46 => ?_) (fun c46 => ?_)
            · refine hK 70 _ [] U40 ?_
              refine j_blx (F := fX11) tb_X11 (nn_ _) bk_X11_competition_e_70 bs_X11_competition_e_70 hz (fun K hK => ?_)
              refine And.intro (fun c47 => ?_) (fun c47 => ?_)
              · refine hK 37 [some (vR 111 0), some (vI 0), none] [] U40 ?_
                refine ih_37 _ ?_ 0 (f - 1) t v U40 (Nat.le_refl _) ?_ ?_ ?_ ?_ ?_ ?_
                · have hm_37 := hm_37 (); omega
                · exact fr_t (fr_t (fr_0 _ _) (fr_s hf_37 rfl)) (fr_s fU40 rfl)
                · omega
                · exact Or.inr (Or.inl ⟨by omega, rfl, ir.trans (rdf9_z hka (by omega) (by omega))⟩)
                · exact fun _ => VR9_f (jv hj.1) fU40 (fun _ => rfl)
                · exact fun _ z => absurd z (by decide)
                · omega
              · exact absurd c47 (by decide)
            · have ee : U40 111 0 60 = ea := by omega
              have ek : U40 111 0 58 = ka := by omega
              refine hK 71 _ [vI 1] U40 ?_
              refine j_blx (F := fX11) tb_X11 (nn_ _) bk_X11_competition_e_71 bs_X11_competition_e_71 hz (fun K hK => ?_)
              refine And.intro (fun c48 => ?_) (fun c48 => ?_)
              · exact absurd c48 (by decide)
              · refine hK 77 [some (vR 111 0), some (vI 1), none] [vR 111 0] U40 ?_
                have e49 : U40 111 0 1 = T 111 0 1 := (fU40 111 0 1 rfl).trans (hf_37 111 0 1 rfl)
                have fb50 : fr_ [(111, [57, 58, 59, 60, 61, 62, 63]), (204, []), (269, []), (270, [])] T U40 := fr_t (fr_t (fr_0 _ _) (fr_s hf_37 rfl)) (fr_s fU40 rfl)
                refine j_callV (y := yX11_readStatement) (Yc := zX11_readStatement) (rest := []) [] (ct_X11_readStatement_e (T := U40) (a := T1 111 0 57) (t := t) (v := v) (by omega) (by rw [show (fun j => U40 200 0 j) = fun j => T 200 0 j from funext fun j => fb50 200 0 j rfl, show U40 111 0 1 = T 111 0 1 from fb50 111 0 1 rfl, ee, ek]; exact hka) (by omega) (by omega) (by exact CX_f (ws := [(111, [57, 58, 59, 60, 61, 62, 63]), (204, []), (269, []), (270, [])]) hC (fr_t (fr_t (fr_0 _ _) (fr_s hf_37 rfl)) (fr_s fU40 rfl)) ⟨fun _ => rfl, fun _ => rfl, fun _ => rfl, fun _ => rfl, fun _ => rfl, trivial⟩) (TA9_f jt1.1 fU40 (fun _ => rfl)) (VR9_f (jv hj.1) fU40 (fun _ => rfl))) cl_X11_314 (qd_c (by decide +kernel)) (nn_ _) rfl (rf_of rfl) (Nat.le_of_ble_eq_true rfl) (Nat.le_of_ble_eq_true rfl) (Nat.le_of_ble_eq_true rfl) rfl ?_
                rintro U51 _ ⟨rfl, fU51, qU51⟩
                have fb52 : fr_ [(111, [57, 58, 59, 60, 61, 62, 63]), (204, []), (269, []), (270, [])] T U40 := fr_t (fr_t (fr_0 _ _) (fr_s hf_37 rfl)) (fr_s fU40 rfl)
                rw [show (fun j => U40 200 0 j) = fun j => T 200 0 j from funext fun j => fb52 200 0 j rfl, show U40 111 0 1 = T 111 0 1 from fb52 111 0 1 rfl] at qU51
                show J_ zX11_competition T (po_X11_competition_e T) 0 0 80 _ [] U51
                rcases qU51 with ⟨z1, z2⟩ | ⟨z1, ⟨t9, v9, z2, z3, z4⟩, z5⟩
                · refine j_blx (F := fX11) tb_X11 (nn_ _) bk_X11_competition_e_80 bs_X11_competition_e_80 hz (fun K hK => ?_)
                  refine hK 37 _ [] U51 ?_
                  refine ih_37 _ ?_ 1 (f - 1) t v U51 (Nat.le_refl _) ?_ ?_ ?_ ?_ ?_ ?_
                  · have hm_37 := hm_37 (); omega
                  · exact fr_t (fr_t (fr_t (fr_0 _ _) (fr_s hf_37 rfl)) (fr_s fU40 rfl)) (fr_s fU51 rfl)
                  · omega
                  · exact Or.inl ⟨z1, ir.trans ((rdf9_s hka (by omega) (by omega)).trans (bn9_l z2))⟩
                  · exact fun z => absurd z (by omega)
                  · exact fun z => absurd z (by omega)
                  · exact fun z => absurd z (by omega)
                refine j_blx (F := fX11) tb_X11 (nn_ _) bk_X11_competition_e_80 bs_X11_competition_e_80 hz (fun K hK => ?_)
                refine hK 37 _ [] U51 ?_
                refine ih_37 _ ?_ 1 (f - 1) t9 v9 U51 (Nat.le_refl _) ?_ ?_ ?_ ?_ ?_ ?_
                · have hm_37 := hm_37 (); omega
                · exact fr_t (fr_t (fr_t (fr_0 _ _) (fr_s hf_37 rfl)) (fr_s fU40 rfl)) (fr_s fU51 rfl)
                · omega
                · refine Or.inr (Or.inr ⟨z1, rfl, ?_⟩)
                  rw [show f - 1 + 1 = f by omega]
                  exact ir.trans ((rdf9_s hka (by omega) (by omega)).trans (bn9_r z2))
                · exact fun _ => z4
                · exact fun _ _ => ⟨z3, by omega, by omega⟩
                · omega
  refine j_blx (F := fX11) tb_X11 (nn_ _) bk_X11_competition_e_0 bs_X11_competition_e_0 hz (fun K hK => ?_)
  intro b53 b53b
  refine And.intro (fun c54 => ?_) (fun c54 => ?_)
  · refine hK 16 _ [] T ?_
    refine j_blx (F := fX11) tb_X11 (nn_ _) bk_X11_competition_e_16 bs_X11_competition_e_16 hz (fun K hK => ?_)
    refine bd_i (by omega) ?_
    refine x_nm (fun U55 hU55 => ?_)
    have e56 := up_f hU55
    refine bd_i (by omega) ?_
    refine x_nm (fun U57 hU57 => ?_)
    have e58 := up_f hU57
    refine bd_i (by omega) ?_
    refine x_nm (fun U59 hU59 => ?_)
    have e60 := up_f hU59
    refine hK 32 _ [vR 111 0] U59 ?_
    refine j_callV (y := yX11_layDefaults) (Yc := zX11_layDefaults) (rest := []) [] (ct_X11_layDefaults_e (T := U59)) cl_X11_311 (qd_c (by decide +kernel)) (nn_ _) rfl (rf_of rfl) (Nat.le_of_ble_eq_true rfl) (Nat.le_of_ble_eq_true rfl) (Nat.le_of_ble_eq_true rfl) rfl ?_
    rintro U61 _ ⟨rfl, fU61, qU61, tU61⟩
    show J_ zX11_competition T (po_X11_competition_e T) 0 0 35 _ [] U61
    refine j_blx (F := fX11) tb_X11 (nn_ _) bk_X11_competition_e_35 bs_X11_competition_e_35 hz (fun K hK => ?_)
    refine hK 37 [some (vR 111 0), some (vI 1), none] [] U61 ?_
    have e62 : U61 111 0 62 = 0 := (fU61 111 0 62 rfl).trans ((up_j hU59 (by decide) 111 0).trans (up_f hU57))
    have e63 : U61 111 0 63 = (-1) := (fU61 111 0 63 rfl).trans (up_f hU59)
    have e64 : U61 111 0 57 = 0 := (fU61 111 0 57 rfl).trans ((up_j hU59 (by decide) 111 0).trans ((up_j hU57 (by decide) 111 0).trans (up_f hU55)))
    refine c_37 _ 1 401 (fun _ => 0) dv9_ U61 (Nat.le_refl _) ?_ ?_ ?_ ?_ ?_ ?_
    · exact fr_t (fr_u (fr_u (fr_u (fr_0 _ _) hU55 rfl) hU57 rfl) hU59 rfl) (fr_s fU61 rfl)
    · omega
    · refine Or.inr (Or.inr ⟨by omega, rfl, ?_⟩)
      show _ = rdf9_ 402 (cl9_ (T 111 0 1) (fun j => T 200 0 j)) (T 111 0 1) (U61 111 0 57) (fun _ => 0) dv9_
      rw [show U61 111 0 57 = 0 by omega]
    · exact fun _ => qU61
    · exact fun _ _ => ⟨tU61, by omega, by omega⟩
    · omega
  · refine bd_i (by omega) ?_
    refine x_nm (fun U65 hU65 => ?_)
    have e66 := up_f hU65
    refine (show po_X11_competition_e T U65 (some (vI (-5))) from ?_)
    have e67 : U65 111 0 6 = T 111 0 6 := up_j hU65 (by decide) 111 0
    have e68 : U65 111 0 1 = T 111 0 1 := up_j hU65 (by decide) 111 0
    have e69 : U65 111 0 2 = (-1) := up_f hU65
    have e70 : U65 111 0 6 = T 111 0 6 := up_j hU65 (by decide) 111 0
    exact ⟨_, rfl, fr_u (fr_0 _ _) hU65 rfl, by omega, RI__f (ws := [(111, [2])]) hRI (fr_u (fr_0 _ _) hU65 rfl) ⟨fun _ => rfl, rfl, trivial⟩, RW__f (ws := [(111, [2])]) hRW (fr_u (fr_0 _ _) hU65 rfl) ⟨fun _ => rfl, rfl, trivial⟩, fun j _ => (show fr_ [(111, [2])] T U65 from fr_u (fr_0 _ _) hU65 rfl) 205 0 j rfl, Or.inl ⟨by omega, rfl, by omega, by omega, by omega⟩⟩
-- competition of the house
/-- what a competition's call does to the house -/
def CH9_ (T T' : Zt) (x : Int) : Prop := (4 ≤ T 106 0 2 ∧ x = -5 ∧ T' 105 0 3 = -1 ∧ T' 105 0 1 = T 105 0 1 ∧ T' 106 0 2 = T 106 0 2) ∨ (T 106 0 2 < 4 ∧ T' 105 0 1 = 0 ∧ ((T' 106 0 2 = T 106 0 2 ∧ ∃ k, x = -10 - k ∧ rdf9_ 402 (cl9_ (T 105 0 1) (fun j => T 500 0 j)) (T 105 0 1) 0 (fun _ => 0) dv9_ = Sum.inl (k, T' 105 0 3)) ∨ (x = T 106 0 2 ∧ T' 106 0 2 = T 106 0 2 + 1 ∧ T' 105 0 3 = -1 ∧ (∀ i j, i ≠ T 106 0 2 → T' 402 i j = T 402 i j) ∧ (∀ j, 0 ≤ j → j < 12 → T' 404 (T 106 0 2) j = -1) ∧ ∃ v, rdf9_ 402 (cl9_ (T 105 0 1) (fun j => T 500 0 j)) (T 105 0 1) 0 (fun _ => 0) dv9_ = Sum.inr v ∧ (∀ j, 0 ≤ j → j < 16 → T' 401 (T 106 0 2) j = v j) ∧ ∀ k, 0 ≤ k → k < v 4 → T' 402 (T 106 0 2) k = v (16 + k))))
-- sign, fault, rule of both sides
/-- a sign is put at the text's end -/
def SG9_ (k : Nat) (T T' : Zt) (n c : Int) : Prop := T' k 0 n = c ∧ ∀ j, j ≠ n → T' k 0 j = T k 0 j
/-- a row stays -/
def RS9_ (k : Nat) (T T' : Zt) : Prop := ∀ j, T' k 0 j = T k 0 j
theorem bk_X10_sign_e_0 : ck_ fX10 (some .int) cX10_sign 0 [.iload 1, .iconst 10, .if_icmp .eq 21, .iload 1, .iconst 32, .if_icmp .lt 18, .iload 1, .iconst 126, .if_icmp .le 21, .iconst (-3), .ireturn] 21 = true := qck_r (nn_ _) (by decide +kernel)
theorem bs_X10_sign_e_0 {P : Zt → Option Zv → Prop} (K : Int → Zl → List Zv → Zt → Prop) : sx_ K P [.iload 1, .iconst 10, .if_icmp .eq 21, .iload 1, .iconst 32, .if_icmp .lt 18, .iload 1, .iconst 126, .if_icmp .le 21, .iconst (-3), .ireturn] 21 = x_iload 1 (x_iconst 10 (x_if_icmp .eq 21 K (x_iload 1 (x_iconst 32 (x_if_icmp .lt 18 K (x_iload 1 (x_iconst 126 (x_if_icmp .le 21 K (x_iconst (-3) (x_ireturn P)))))))))) := ((xe_iload 1).trans (congrArg (x_iload 1) ((xe_iconst 10).trans (congrArg (x_iconst 10) ((xe_if_icmp .eq 21).trans (congrArg (x_if_icmp .eq 21 K) ((xe_iload 1).trans (congrArg (x_iload 1) ((xe_iconst 32).trans (congrArg (x_iconst 32) ((xe_if_icmp .lt 18).trans (congrArg (x_if_icmp .lt 18 K) ((xe_iload 1).trans (congrArg (x_iload 1) ((xe_iconst 126).trans (congrArg (x_iconst 126) ((xe_if_icmp .le 21).trans (congrArg (x_if_icmp .le 21 K) ((xe_iconst (-3)).trans (congrArg (x_iconst (-3)) (xe_ireturn)))))))))))))))))))))
theorem bk_X10_sign_e_21 : ck_ fX10 (some .int) cX10_sign 21 [.aload 0, .tableswitch 0 10 0 #[], .tableswitch 0 5 1 #[], .iconst 400, .if_icmp .lt 37, .iconst (-5), .ireturn] 37 = true := qck_r (nn_ _) (by decide +kernel)
theorem bs_X10_sign_e_21 {P : Zt → Option Zv → Prop} (K : Int → Zl → List Zv → Zt → Prop) : sx_ K P [.aload 0, .tableswitch 0 10 0 #[], .tableswitch 0 5 1 #[], .iconst 400, .if_icmp .lt 37, .iconst (-5), .ireturn] 37 = x_aload 0 (x_g1 110 105 (x_g0 105 1 0 400 (x_iconst 400 (x_if_icmp .lt 37 K (x_iconst (-5) (x_ireturn P)))))) := ((xe_aload 0).trans (congrArg (x_aload 0) ((xe_g1 (kk := 110) rfl tl_10_0).trans (congrArg (x_g1 110 105) ((xe_g0 (kk := 105) rfl tl_5_1).trans (congrArg (x_g0 105 1 0 400) ((xe_iconst 400).trans (congrArg (x_iconst 400) ((xe_if_icmp .lt 37).trans (congrArg (x_if_icmp .lt 37 K) ((xe_iconst (-5)).trans (congrArg (x_iconst (-5)) (xe_ireturn)))))))))))))
theorem bk_X10_sign_e_37 : ck_ fX10 (some .int) cX10_sign 37 [.aload 0, .tableswitch 0 10 0 #[], .tableswitch 0 5 0 #[], .aload 0, .tableswitch 0 10 0 #[], .tableswitch 0 5 1 #[], .iload 1, .iastore, .aload 0, .tableswitch 0 10 0 #[], .dup, .tableswitch 0 5 1 #[], .iconst 1, .iadd, .tableswitch 1 5 1 #[], .aload 0, .tableswitch 0 10 0 #[], .tableswitch 0 5 1 #[], .ireturn] 74 = true := qck_r (nn_ _) (by decide +kernel)
theorem bs_X10_sign_e_37 {P : Zt → Option Zv → Prop} (K : Int → Zl → List Zv → Zt → Prop) : sx_ K P [.aload 0, .tableswitch 0 10 0 #[], .tableswitch 0 5 0 #[], .aload 0, .tableswitch 0 10 0 #[], .tableswitch 0 5 1 #[], .iload 1, .iastore, .aload 0, .tableswitch 0 10 0 #[], .dup, .tableswitch 0 5 1 #[], .iconst 1, .iadd, .tableswitch 1 5 1 #[], .aload 0, .tableswitch 0 10 0 #[], .tableswitch 0 5 1 #[], .ireturn] 74 = x_aload 0 (x_g1 110 105 (x_g1 105 500 (x_aload 0 (x_g1 110 105 (x_g0 105 1 0 400 (x_iload 1 (x_iastore (x_aload 0 (x_g1 110 105 (x_dup (x_g0 105 1 0 400 (x_iconst 1 (x_iadd (x_p 105 1 0 400 (x_aload 0 (x_g1 110 105 (x_g0 105 1 0 400 (x_ireturn P)))))))))))))))))) := ((xe_aload 0).trans (congrArg (x_aload 0) ((xe_g1 (kk := 110) rfl tl_10_0).trans (congrArg (x_g1 110 105) ((xe_g1 (kk := 105) rfl tl_5_0).trans (congrArg (x_g1 105 500) ((xe_aload 0).trans (congrArg (x_aload 0) ((xe_g1 (kk := 110) rfl tl_10_0).trans (congrArg (x_g1 110 105) ((xe_g0 (kk := 105) rfl tl_5_1).trans (congrArg (x_g0 105 1 0 400) ((xe_iload 1).trans (congrArg (x_iload 1) ((xe_iastore).trans (congrArg (x_iastore) ((xe_aload 0).trans (congrArg (x_aload 0) ((xe_g1 (kk := 110) rfl tl_10_0).trans (congrArg (x_g1 110 105) ((xe_dup).trans (congrArg (x_dup) ((xe_g0 (kk := 105) rfl tl_5_1).trans (congrArg (x_g0 105 1 0 400) ((xe_iconst 1).trans (congrArg (x_iconst 1) ((xe_iadd).trans (congrArg (x_iadd) ((xe_p (kk := 105) rfl tl_5_1).trans (congrArg (x_p 105 1 0 400) ((xe_aload 0).trans (congrArg (x_aload 0) ((xe_g1 (kk := 110) rfl tl_10_0).trans (congrArg (x_g1 110 105) ((xe_g0 (kk := 105) rfl tl_5_1).trans (congrArg (x_g0 105 1 0 400) (xe_ireturn)))))))))))))))))))))))))))))))))))))
theorem bk_X10_sign_e_18 : ck_ fX10 (some .int) cX10_sign 18 [.iconst (-3), .ireturn] 21 = true := qck_r (nn_ _) (by decide +kernel)
theorem bs_X10_sign_e_18 {P : Zt → Option Zv → Prop} (K : Int → Zl → List Zv → Zt → Prop) : sx_ K P [.iconst (-3), .ireturn] 21 = x_iconst (-3) (x_ireturn P) := ((xe_iconst (-3)).trans (congrArg (x_iconst (-3)) (xe_ireturn)))
abbrev po_X10_sign_e (T : Zt) (c : Int) : Zt → Option Zv → Prop := fun T' r => ∃ x : Int, r = some (vI x) ∧ fr_ [(105, [1]), (500, [])] T T' ∧ ((x = -3 ∧ T' 105 0 1 = T 105 0 1 ∧ ¬ (c = 10 ∨ 32 ≤ c ∧ c ≤ 126) ∧ RS9_ 500 T T') ∨ ((c = 10 ∨ 32 ≤ c ∧ c ≤ 126) ∧ T 105 0 1 = 400 ∧ x = -5 ∧ T' 105 0 1 = 400 ∧ RS9_ 500 T T') ∨ ((c = 10 ∨ 32 ≤ c ∧ c ≤ 126) ∧ T 105 0 1 < 400 ∧ x = T 105 0 1 + 1 ∧ T' 105 0 1 = x ∧ SG9_ 500 T T' (T 105 0 1) c))
set_option maxHeartbeats 4000000 in
theorem ct_X10_sign_e {T : Zt} {c : Int} : Ct_ yX10_sign zX10_sign T [vR 110 0, vI c] (po_X10_sign_e T c) := by
  refine ct_of pn_10 rfl rfl (Nat.le_of_ble_eq_true rfl) (fun hT hav => ?_)
  have hr_c : -2147483648 ≤ c ∧ c ≤ 2147483647 := hav (vI c) (List.mem_cons_of_mem _ List.mem_cons_self)
  have hz : zX10_sign.2.2.2.1 = some .boolean → ∀ (T' : Zt) (x : Int), po_X10_sign_e T c T' (some (vI x)) → 0 ≤ x ∧ x ≤ 1 := fun h => by cases h
  have hb_length : 0 ≤ T 105 0 1 ∧ T 105 0 1 ≤ 400 := bd_f hT 105 1 tl_5_1 0
  show J_ zX10_sign T (po_X10_sign_e T c) 0 0 0 [some (vR 110 0), some (vI c)] [] T
  refine j_blx (F := fX10) tb_X10 (nn_ _) bk_X10_sign_e_0 bs_X10_sign_e_0 hz (fun K hK => ?_)
  refine And.intro (fun c1 => ?_) (fun c1 => ?_)
  · refine hK 21 _ [] T ?_
    refine j_blx (F := fX10) tb_X10 (nn_ _) bk_X10_sign_e_21 bs_X10_sign_e_21 hz (fun K hK => ?_)
    intro b2 b2b
    refine And.intro (fun c3 => ?_) (fun c3 => ?_)
    · refine hK 37 _ [] T ?_
      refine j_blx (F := fX10) tb_X10 (nn_ _) bk_X10_sign_e_37 bs_X10_sign_e_37 hz (fun K hK => ?_)
      intro b4 b4b
      refine iy_i (by omega) (by omega) ?_
      refine x_nm (fun U5 hU5 => ?_)
      have e6 := up_f hU5
      intro b7 b7b
      have e8 : U5 105 0 1 = T 105 0 1 := up_k hU5 (by exact Nat.ne_of_beq_eq_false rfl) 0 1
      rw [e8] at b7 b7b ⊢
      refine rg_i (by omega) ?_
      refine bd_i (by omega) ?_
      refine x_nm (fun U9 hU9 => ?_)
      have e10 := up_f hU9
      intro b11 b11b
      have e12 : U9 105 0 1 = (T 105 0 1) + 1 := up_f hU9
      rw [e12] at b11 b11b ⊢
      refine (show po_X10_sign_e T c U9 (some (vI ((T 105 0 1) + 1))) from ?_)
      have e13 : U9 105 0 1 = (T 105 0 1) + 1 := up_f hU9
      exact ⟨_, rfl, fr_u (fr_u (fr_0 _ _) hU5 rfl) hU9 rfl, Or.inr (Or.inr ⟨by omega, by omega, by omega, by omega, (up_k hU9 (by exact Nat.ne_of_beq_eq_false rfl) 0 _).trans (up_f hU5), fun j hj => (up_k hU9 (by exact Nat.ne_of_beq_eq_false rfl) 0 j).trans (up_g hU5 (fun z => hj z.2.2))⟩)⟩
    · refine (show po_X10_sign_e T c T (some (vI (-5))) from ?_)
      exact ⟨_, rfl, fr_0 _ _, Or.inr (Or.inl ⟨by omega, by omega, rfl, by omega, fun _ => rfl⟩)⟩
  · refine And.intro (fun c14 => ?_) (fun c14 => ?_)
    · refine hK 18 _ [] T ?_
      refine j_blx (F := fX10) tb_X10 (nn_ _) bk_X10_sign_e_18 bs_X10_sign_e_18 hz (fun K hK => ?_)
      refine (show po_X10_sign_e T c T (some (vI (-3))) from ?_)
      exact ⟨_, rfl, fr_0 _ _, Or.inl ⟨rfl, rfl, by omega, fun _ => rfl⟩⟩
    · refine And.intro (fun c15 => ?_) (fun c15 => ?_)
      · refine hK 21 _ [] T ?_
        refine j_blx (F := fX10) tb_X10 (nn_ _) bk_X10_sign_e_21 bs_X10_sign_e_21 hz (fun K hK => ?_)
        intro b16 b16b
        refine And.intro (fun c17 => ?_) (fun c17 => ?_)
        · refine hK 37 _ [] T ?_
          refine j_blx (F := fX10) tb_X10 (nn_ _) bk_X10_sign_e_37 bs_X10_sign_e_37 hz (fun K hK => ?_)
          intro b18 b18b
          refine iy_i (by omega) (by omega) ?_
          refine x_nm (fun U19 hU19 => ?_)
          have e20 := up_f hU19
          intro b21 b21b
          have e22 : U19 105 0 1 = T 105 0 1 := up_k hU19 (by exact Nat.ne_of_beq_eq_false rfl) 0 1
          rw [e22] at b21 b21b ⊢
          refine rg_i (by omega) ?_
          refine bd_i (by omega) ?_
          refine x_nm (fun U23 hU23 => ?_)
          have e24 := up_f hU23
          intro b25 b25b
          have e26 : U23 105 0 1 = (T 105 0 1) + 1 := up_f hU23
          rw [e26] at b25 b25b ⊢
          refine (show po_X10_sign_e T c U23 (some (vI ((T 105 0 1) + 1))) from ?_)
          have e27 : U23 105 0 1 = (T 105 0 1) + 1 := up_f hU23
          exact ⟨_, rfl, fr_u (fr_u (fr_0 _ _) hU19 rfl) hU23 rfl, Or.inr (Or.inr ⟨by omega, by omega, by omega, by omega, (up_k hU23 (by exact Nat.ne_of_beq_eq_false rfl) 0 _).trans (up_f hU19), fun j hj => (up_k hU23 (by exact Nat.ne_of_beq_eq_false rfl) 0 j).trans (up_g hU19 (fun z => hj z.2.2))⟩)⟩
        · refine (show po_X10_sign_e T c T (some (vI (-5))) from ?_)
          exact ⟨_, rfl, fr_0 _ _, Or.inr (Or.inl ⟨by omega, by omega, rfl, by omega, fun _ => rfl⟩)⟩
      · refine (show po_X10_sign_e T c T (some (vI (-3))) from ?_)
        exact ⟨_, rfl, fr_0 _ _, Or.inl ⟨rfl, rfl, by omega, fun _ => rfl⟩⟩
theorem bk_X11_sign_e_0 : ck_ fX11 (some .int) cX11_sign 0 [.iload 1, .iconst 10, .if_icmp .eq 20, .iload 1, .iconst 32, .iconst 126] 11 = true := qck_r (nn_ _) (by decide +kernel)
theorem bs_X11_sign_e_0 {P : Zt → Option Zv → Prop} (K : Int → Zl → List Zv → Zt → Prop) : sx_ K P [.iload 1, .iconst 10, .if_icmp .eq 20, .iload 1, .iconst 32, .iconst 126] 11 = x_iload 1 (x_iconst 10 (x_if_icmp .eq 20 K (x_iload 1 (x_iconst 32 (x_iconst 126 (K 11)))))) := ((xe_iload 1).trans (congrArg (x_iload 1) ((xe_iconst 10).trans (congrArg (x_iconst 10) ((xe_if_icmp .eq 20).trans (congrArg (x_if_icmp .eq 20 K) ((xe_iload 1).trans (congrArg (x_iload 1) ((xe_iconst 32).trans (congrArg (x_iconst 32) ((xe_iconst 126).trans (congrArg (x_iconst 126) xe_nil))))))))))))
theorem bk_X11_sign_e_20 : ck_ fX11 (some .int) cX11_sign 20 [.aload 0, .tableswitch 0 11 1 #[], .iconst 400, .if_icmp .ne 33, .iconst (-5), .ireturn] 33 = true := qck_r (nn_ _) (by decide +kernel)
theorem bs_X11_sign_e_20 {P : Zt → Option Zv → Prop} (K : Int → Zl → List Zv → Zt → Prop) : sx_ K P [.aload 0, .tableswitch 0 11 1 #[], .iconst 400, .if_icmp .ne 33, .iconst (-5), .ireturn] 33 = x_aload 0 (x_g0 111 1 0 400 (x_iconst 400 (x_if_icmp .ne 33 K (x_iconst (-5) (x_ireturn P))))) := ((xe_aload 0).trans (congrArg (x_aload 0) ((xe_g0 (kk := 111) rfl tl_11_1).trans (congrArg (x_g0 111 1 0 400) ((xe_iconst 400).trans (congrArg (x_iconst 400) ((xe_if_icmp .ne 33).trans (congrArg (x_if_icmp .ne 33 K) ((xe_iconst (-5)).trans (congrArg (x_iconst (-5)) (xe_ireturn)))))))))))
theorem bk_X11_sign_e_33 : ck_ fX11 (some .int) cX11_sign 33 [.aload 0, .tableswitch 0 11 0 #[], .aload 0, .tableswitch 0 11 1 #[], .iload 1, .iastore, .aload 0, .dup, .tableswitch 0 11 1 #[], .iconst 1, .iadd, .tableswitch 1 11 1 #[], .aload 0, .tableswitch 0 11 1 #[], .ireturn] 58 = true := qck_r (nn_ _) (by decide +kernel)
theorem bs_X11_sign_e_33 {P : Zt → Option Zv → Prop} (K : Int → Zl → List Zv → Zt → Prop) : sx_ K P [.aload 0, .tableswitch 0 11 0 #[], .aload 0, .tableswitch 0 11 1 #[], .iload 1, .iastore, .aload 0, .dup, .tableswitch 0 11 1 #[], .iconst 1, .iadd, .tableswitch 1 11 1 #[], .aload 0, .tableswitch 0 11 1 #[], .ireturn] 58 = x_aload 0 (x_g1 111 200 (x_aload 0 (x_g0 111 1 0 400 (x_iload 1 (x_iastore (x_aload 0 (x_dup (x_g0 111 1 0 400 (x_iconst 1 (x_iadd (x_p 111 1 0 400 (x_aload 0 (x_g0 111 1 0 400 (x_ireturn P)))))))))))))) := ((xe_aload 0).trans (congrArg (x_aload 0) ((xe_g1 (kk := 111) rfl tl_11_0).trans (congrArg (x_g1 111 200) ((xe_aload 0).trans (congrArg (x_aload 0) ((xe_g0 (kk := 111) rfl tl_11_1).trans (congrArg (x_g0 111 1 0 400) ((xe_iload 1).trans (congrArg (x_iload 1) ((xe_iastore).trans (congrArg (x_iastore) ((xe_aload 0).trans (congrArg (x_aload 0) ((xe_dup).trans (congrArg (x_dup) ((xe_g0 (kk := 111) rfl tl_11_1).trans (congrArg (x_g0 111 1 0 400) ((xe_iconst 1).trans (congrArg (x_iconst 1) ((xe_iadd).trans (congrArg (x_iadd) ((xe_p (kk := 111) rfl tl_11_1).trans (congrArg (x_p 111 1 0 400) ((xe_aload 0).trans (congrArg (x_aload 0) ((xe_g0 (kk := 111) rfl tl_11_1).trans (congrArg (x_g0 111 1 0 400) (xe_ireturn)))))))))))))))))))))))))))))
theorem bk_X11_sign_e_14 : ck_ fX11 (some .int) cX11_sign 14 [.ifCond .ne 20, .iconst (-3), .ireturn] 20 = true := qck_r (nn_ _) (by decide +kernel)
theorem bs_X11_sign_e_14 {P : Zt → Option Zv → Prop} (K : Int → Zl → List Zv → Zt → Prop) : sx_ K P [.ifCond .ne 20, .iconst (-3), .ireturn] 20 = x_ifCond .ne 20 K (x_iconst (-3) (x_ireturn P)) := ((xe_ifCond .ne 20).trans (congrArg (x_ifCond .ne 20 K) ((xe_iconst (-3)).trans (congrArg (x_iconst (-3)) (xe_ireturn)))))
abbrev po_X11_sign_e (T : Zt) (c : Int) : Zt → Option Zv → Prop := fun T' r => ∃ x : Int, r = some (vI x) ∧ fr_ [(111, [1]), (200, [])] T T' ∧ ((x = -3 ∧ T' 111 0 1 = T 111 0 1 ∧ ¬ (c = 10 ∨ 32 ≤ c ∧ c ≤ 126) ∧ RS9_ 200 T T') ∨ ((c = 10 ∨ 32 ≤ c ∧ c ≤ 126) ∧ T 111 0 1 = 400 ∧ x = -5 ∧ T' 111 0 1 = 400 ∧ RS9_ 200 T T') ∨ ((c = 10 ∨ 32 ≤ c ∧ c ≤ 126) ∧ T 111 0 1 < 400 ∧ x = T 111 0 1 + 1 ∧ T' 111 0 1 = x ∧ SG9_ 200 T T' (T 111 0 1) c))
set_option maxHeartbeats 4000000 in
theorem ct_X11_sign_e {T : Zt} {c : Int} : Ct_ yX11_sign zX11_sign T [vR 111 0, vI c] (po_X11_sign_e T c) := by
  refine ct_of pn_11 rfl rfl (Nat.le_of_ble_eq_true rfl) (fun hT hav => ?_)
  have hr_c : -2147483648 ≤ c ∧ c ≤ 2147483647 := hav (vI c) (List.mem_cons_of_mem _ List.mem_cons_self)
  have hz : zX11_sign.2.2.2.1 = some .boolean → ∀ (T' : Zt) (x : Int), po_X11_sign_e T c T' (some (vI x)) → 0 ≤ x ∧ x ≤ 1 := fun h => by cases h
  have hb_1 : 0 ≤ T 111 0 1 ∧ T 111 0 1 ≤ 400 := bd_f hT 111 1 tl_11_1 0
  show J_ zX11_sign T (po_X11_sign_e T c) 0 0 0 [some (vR 111 0), some (vI c)] [] T
  refine j_blx (F := fX11) tb_X11 (nn_ _) bk_X11_sign_e_0 bs_X11_sign_e_0 hz (fun K hK => ?_)
  refine And.intro (fun c1 => ?_) (fun c1 => ?_)
  · refine hK 20 _ [] T ?_
    refine j_blx (F := fX11) tb_X11 (nn_ _) bk_X11_sign_e_20 bs_X11_sign_e_20 hz (fun K hK => ?_)
    intro b2 b2b
    refine And.intro (fun c3 => ?_) (fun c3 => ?_)
    · refine hK 33 _ [] T ?_
      refine j_blx (F := fX11) tb_X11 (nn_ _) bk_X11_sign_e_33 bs_X11_sign_e_33 hz (fun K hK => ?_)
      intro b4 b4b
      refine iy_i (by omega) (by omega) ?_
      refine x_nm (fun U5 hU5 => ?_)
      have e6 := up_f hU5
      intro b7 b7b
      have e8 : U5 111 0 1 = T 111 0 1 := up_k hU5 (by exact Nat.ne_of_beq_eq_false rfl) 0 1
      rw [e8] at b7 b7b ⊢
      refine rg_i (by omega) ?_
      refine bd_i (by omega) ?_
      refine x_nm (fun U9 hU9 => ?_)
      have e10 := up_f hU9
      intro b11 b11b
      have e12 : U9 111 0 1 = (T 111 0 1) + 1 := up_f hU9
      rw [e12] at b11 b11b ⊢
      refine (show po_X11_sign_e T c U9 (some (vI ((T 111 0 1) + 1))) from ?_)
      have e13 : U9 111 0 1 = (T 111 0 1) + 1 := up_f hU9
      exact ⟨_, rfl, fr_u (fr_u (fr_0 _ _) hU5 rfl) hU9 rfl, Or.inr (Or.inr ⟨by omega, by omega, by omega, by omega, (up_k hU9 (by exact Nat.ne_of_beq_eq_false rfl) 0 _).trans (up_f hU5), fun j hj => (up_k hU9 (by exact Nat.ne_of_beq_eq_false rfl) 0 j).trans (up_g hU5 (fun z => hj z.2.2))⟩)⟩
    · refine (show po_X11_sign_e T c T (some (vI (-5))) from ?_)
      exact ⟨_, rfl, fr_0 _ _, Or.inr (Or.inl ⟨by omega, by omega, rfl, by omega, fun _ => rfl⟩)⟩
  · refine hK 11 _ [vI 126, vI 32, vI c] T ?_
    refine j_callS (y := yX11_in) (Yc := zX11_in) (rest := []) [vI c, vI 32, vI 126] (ct_X11_in (T := T)) cl_X11_255 (qd_c (by decide +kernel)) (nn_ _) rfl (rf_of rfl) (Nat.le_of_ble_eq_true rfl) (Nat.le_of_ble_eq_true rfl) (Nat.le_of_ble_eq_true rfl) rfl ?_
    rintro _ _ ⟨rfl, x14, rfl, hx14⟩
    show J_ zX11_sign T (po_X11_sign_e T c) 0 0 14 _ [vI x14] T
    refine j_blx (F := fX11) tb_X11 (nn_ _) bk_X11_sign_e_14 bs_X11_sign_e_14 hz (fun K hK => ?_)
    refine And.intro (fun c15 => ?_) (fun c15 => ?_)
    · replace hx14 := hx14.resolve_right (fun z => c15 z.1)
      clear c15
      refine hK 20 _ [] T ?_
      refine j_blx (F := fX11) tb_X11 (nn_ _) bk_X11_sign_e_20 bs_X11_sign_e_20 hz (fun K hK => ?_)
      intro b16 b16b
      refine And.intro (fun c17 => ?_) (fun c17 => ?_)
      · refine hK 33 _ [] T ?_
        refine j_blx (F := fX11) tb_X11 (nn_ _) bk_X11_sign_e_33 bs_X11_sign_e_33 hz (fun K hK => ?_)
        intro b18 b18b
        refine iy_i (by omega) (by omega) ?_
        refine x_nm (fun U19 hU19 => ?_)
        have e20 := up_f hU19
        intro b21 b21b
        have e22 : U19 111 0 1 = T 111 0 1 := up_k hU19 (by exact Nat.ne_of_beq_eq_false rfl) 0 1
        rw [e22] at b21 b21b ⊢
        refine rg_i (by omega) ?_
        refine bd_i (by omega) ?_
        refine x_nm (fun U23 hU23 => ?_)
        have e24 := up_f hU23
        intro b25 b25b
        have e26 : U23 111 0 1 = (T 111 0 1) + 1 := up_f hU23
        rw [e26] at b25 b25b ⊢
        refine (show po_X11_sign_e T c U23 (some (vI ((T 111 0 1) + 1))) from ?_)
        have e27 : U23 111 0 1 = (T 111 0 1) + 1 := up_f hU23
        exact ⟨_, rfl, fr_u (fr_u (fr_0 _ _) hU19 rfl) hU23 rfl, Or.inr (Or.inr ⟨by omega, by omega, by omega, by omega, (up_k hU23 (by exact Nat.ne_of_beq_eq_false rfl) 0 _).trans (up_f hU19), fun j hj => (up_k hU23 (by exact Nat.ne_of_beq_eq_false rfl) 0 j).trans (up_g hU19 (fun z => hj z.2.2))⟩)⟩
      · refine (show po_X11_sign_e T c T (some (vI (-5))) from ?_)
        exact ⟨_, rfl, fr_0 _ _, Or.inr (Or.inl ⟨by omega, by omega, rfl, by omega, fun _ => rfl⟩)⟩
    · replace hx14 := hx14.resolve_left (fun z => absurd (c15.symm.trans z.1) (by decide))
      clear c15
      refine (show po_X11_sign_e T c T (some (vI (-3))) from ?_)
      exact ⟨_, rfl, fr_0 _ _, Or.inl ⟨rfl, rfl, by omega, fun _ => rfl⟩⟩
theorem bk_X10_fault_e_0 : ck_ fX10 (some .int) cX10_fault 0 [.aload 0, .tableswitch 0 10 0 #[], .tableswitch 0 5 3 #[], .ireturn] 8 = true := qck_r (nn_ _) (by decide +kernel)
theorem bs_X10_fault_e_0 {P : Zt → Option Zv → Prop} (K : Int → Zl → List Zv → Zt → Prop) : sx_ K P [.aload 0, .tableswitch 0 10 0 #[], .tableswitch 0 5 3 #[], .ireturn] 8 = x_aload 0 (x_g1 110 105 (x_g0 105 3 (-1) 400 (x_ireturn P))) := ((xe_aload 0).trans (congrArg (x_aload 0) ((xe_g1 (kk := 110) rfl tl_10_0).trans (congrArg (x_g1 110 105) ((xe_g0 (kk := 105) rfl tl_5_3).trans (congrArg (x_g0 105 3 (-1) 400) (xe_ireturn)))))))
abbrev po_X10_fault_e (T : Zt) : Zt → Option Zv → Prop := fun T' r => T = T' ∧ ∃ x : Int, r = some (vI x) ∧ (x = T 105 0 3)
set_option maxHeartbeats 4000000 in
theorem ct_X10_fault_e {T : Zt} : Ct_ yX10_fault zX10_fault T [vR 110 0] (po_X10_fault_e T) := by
  refine ct_of pn_10 rfl rfl (Nat.le_of_ble_eq_true rfl) (fun hT hav => ?_)
  have hz : zX10_fault.2.2.2.1 = some .boolean → ∀ (T' : Zt) (x : Int), po_X10_fault_e T T' (some (vI x)) → 0 ≤ x ∧ x ≤ 1 := fun h => by cases h
  show J_ zX10_fault T (po_X10_fault_e T) 0 0 0 [some (vR 110 0)] [] T
  refine j_blx (F := fX10) tb_X10 (nn_ _) bk_X10_fault_e_0 bs_X10_fault_e_0 hz (fun K hK => ?_)
  intro b1 b1b
  refine (show po_X10_fault_e T T (some (vI (T 105 0 3))) from ?_)
  exact ⟨rfl, _, rfl, by omega⟩
theorem bk_X11_fault_e_0 : ck_ fX11 (some .int) cX11_fault 0 [.aload 0, .tableswitch 0 11 2 #[], .ireturn] 5 = true := qck_r (nn_ _) (by decide +kernel)
theorem bs_X11_fault_e_0 {P : Zt → Option Zv → Prop} (K : Int → Zl → List Zv → Zt → Prop) : sx_ K P [.aload 0, .tableswitch 0 11 2 #[], .ireturn] 5 = x_aload 0 (x_g0 111 2 (-1) 400 (x_ireturn P)) := ((xe_aload 0).trans (congrArg (x_aload 0) ((xe_g0 (kk := 111) rfl tl_11_2).trans (congrArg (x_g0 111 2 (-1) 400) (xe_ireturn)))))
abbrev po_X11_fault_e (T : Zt) : Zt → Option Zv → Prop := fun T' r => T = T' ∧ ∃ x : Int, r = some (vI x) ∧ (x = T 111 0 2)
set_option maxHeartbeats 4000000 in
theorem ct_X11_fault_e {T : Zt} : Ct_ yX11_fault zX11_fault T [vR 111 0] (po_X11_fault_e T) := by
  refine ct_of pn_11 rfl rfl (Nat.le_of_ble_eq_true rfl) (fun hT hav => ?_)
  have hz : zX11_fault.2.2.2.1 = some .boolean → ∀ (T' : Zt) (x : Int), po_X11_fault_e T T' (some (vI x)) → 0 ≤ x ∧ x ≤ 1 := fun h => by cases h
  show J_ zX11_fault T (po_X11_fault_e T) 0 0 0 [some (vR 111 0)] [] T
  refine j_blx (F := fX11) tb_X11 (nn_ _) bk_X11_fault_e_0 bs_X11_fault_e_0 hz (fun K hK => ?_)
  intro b1 b1b
  refine (show po_X11_fault_e T T (some (vI (T 111 0 2))) from ?_)
  exact ⟨rfl, _, rfl, by omega⟩
theorem bk_X10_rule_e_0 : ck_ fX10 (some .int) cX10_rule 0 [.aload 0, .iload 1] 2 = true := qck_r (nn_ _) (by decide +kernel)
theorem bs_X10_rule_e_0 {P : Zt → Option Zv → Prop} (K : Int → Zl → List Zv → Zt → Prop) : sx_ K P [.aload 0, .iload 1] 2 = x_aload 0 (x_iload 1 (K 2)) := ((xe_aload 0).trans (congrArg (x_aload 0) ((xe_iload 1).trans (congrArg (x_iload 1) xe_nil))))
theorem bk_X10_rule_e_5 : ck_ fX10 (some .int) cX10_rule 5 [.ifCond .ne 11, .iconst (-2), .ireturn] 11 = true := qck_r (nn_ _) (by decide +kernel)
theorem bs_X10_rule_e_5 {P : Zt → Option Zv → Prop} (K : Int → Zl → List Zv → Zt → Prop) : sx_ K P [.ifCond .ne 11, .iconst (-2), .ireturn] 11 = x_ifCond .ne 11 K (x_iconst (-2) (x_ireturn P)) := ((xe_ifCond .ne 11).trans (congrArg (x_ifCond .ne 11 K) ((xe_iconst (-2)).trans (congrArg (x_iconst (-2)) (xe_ireturn)))))
theorem bk_X10_rule_e_11 : ck_ fX10 (some .int) cX10_rule 11 [.iload 2, .ifCond .lt 21, .iload 2, .iconst 23, .if_icmp .lt 24, .iconst (-3), .ireturn] 24 = true := qck_r (nn_ _) (by decide +kernel)
theorem bs_X10_rule_e_11 {P : Zt → Option Zv → Prop} (K : Int → Zl → List Zv → Zt → Prop) : sx_ K P [.iload 2, .ifCond .lt 21, .iload 2, .iconst 23, .if_icmp .lt 24, .iconst (-3), .ireturn] 24 = x_iload 2 (x_ifCond .lt 21 K (x_iload 2 (x_iconst 23 (x_if_icmp .lt 24 K (x_iconst (-3) (x_ireturn P)))))) := ((xe_iload 2).trans (congrArg (x_iload 2) ((xe_ifCond .lt 21).trans (congrArg (x_ifCond .lt 21 K) ((xe_iload 2).trans (congrArg (x_iload 2) ((xe_iconst 23).trans (congrArg (x_iconst 23) ((xe_if_icmp .lt 24).trans (congrArg (x_if_icmp .lt 24 K) ((xe_iconst (-3)).trans (congrArg (x_iconst (-3)) (xe_ireturn)))))))))))))
theorem bk_X10_rule_e_21 : ck_ fX10 (some .int) cX10_rule 21 [.iconst (-3), .ireturn] 24 = true := qck_r (nn_ _) (by decide +kernel)
theorem bs_X10_rule_e_21 {P : Zt → Option Zv → Prop} (K : Int → Zl → List Zv → Zt → Prop) : sx_ K P [.iconst (-3), .ireturn] 24 = x_iconst (-3) (x_ireturn P) := ((xe_iconst (-3)).trans (congrArg (x_iconst (-3)) (xe_ireturn)))
theorem bk_X10_rule_e_24 : ck_ fX10 (some .int) cX10_rule 24 [.aload 0, .tableswitch 0 10 2 #[], .tableswitch 0 6 1 #[], .iload 1, .aaload, .astore 3, .iload 2, .iconst 16, .if_icmp .ge 47, .aload 3, .tableswitch 0 0 1 #[], .iload 2, .iaload, .ireturn] 47 = true := qck_r (nn_ _) (by decide +kernel)
theorem bs_X10_rule_e_24 {P : Zt → Option Zv → Prop} (K : Int → Zl → List Zv → Zt → Prop) : sx_ K P [.aload 0, .tableswitch 0 10 2 #[], .tableswitch 0 6 1 #[], .iload 1, .aaload, .astore 3, .iload 2, .iconst 16, .if_icmp .ge 47, .aload 3, .tableswitch 0 0 1 #[], .iload 2, .iaload, .ireturn] 47 = x_aload 0 (x_g1 110 106 (x_g1 106 521 (x_iload 1 (x_aaload (x_astore 3 (x_iload 2 (x_iconst 16 (x_if_icmp .ge 47 K (x_aload 3 (x_g2 100 401 (x_iload 2 (x_iaload (x_ireturn P))))))))))))) := ((xe_aload 0).trans (congrArg (x_aload 0) ((xe_g1 (kk := 110) rfl tl_10_2).trans (congrArg (x_g1 110 106) ((xe_g1 (kk := 106) rfl tl_6_1).trans (congrArg (x_g1 106 521) ((xe_iload 1).trans (congrArg (x_iload 1) ((xe_aaload).trans (congrArg (x_aaload) ((xe_astore 3).trans (congrArg (x_astore 3) ((xe_iload 2).trans (congrArg (x_iload 2) ((xe_iconst 16).trans (congrArg (x_iconst 16) ((xe_if_icmp .ge 47).trans (congrArg (x_if_icmp .ge 47 K) ((xe_aload 3).trans (congrArg (x_aload 3) ((xe_g2 (kk := 100) rfl tl_0_1).trans (congrArg (x_g2 100 401) ((xe_iload 2).trans (congrArg (x_iload 2) ((xe_iaload).trans (congrArg (x_iaload) (xe_ireturn)))))))))))))))))))))))))))
theorem bk_X10_rule_e_47 : ck_ fX10 (some .int) cX10_rule 47 [.iload 2, .iconst 16, .isub, .istore 4, .iload 4, .aload 3, .tableswitch 0 0 1 #[], .iconst 4, .iaload, .if_icmp .ge 74, .aload 3, .tableswitch 0 0 2 #[], .iload 4, .iaload, .goto 75] 74 = true := qck_r (nn_ _) (by decide +kernel)
theorem bs_X10_rule_e_47 {P : Zt → Option Zv → Prop} (K : Int → Zl → List Zv → Zt → Prop) : sx_ K P [.iload 2, .iconst 16, .isub, .istore 4, .iload 4, .aload 3, .tableswitch 0 0 1 #[], .iconst 4, .iaload, .if_icmp .ge 74, .aload 3, .tableswitch 0 0 2 #[], .iload 4, .iaload, .goto 75] 74 = x_iload 2 (x_iconst 16 (x_isub (x_istore 4 (x_iload 4 (x_aload 3 (x_g2 100 401 (x_iconst 4 (x_iaload (x_if_icmp .ge 74 K (x_aload 3 (x_g2 100 402 (x_iload 4 (x_iaload (x_goto 75 K)))))))))))))) := ((xe_iload 2).trans (congrArg (x_iload 2) ((xe_iconst 16).trans (congrArg (x_iconst 16) ((xe_isub).trans (congrArg (x_isub) ((xe_istore 4).trans (congrArg (x_istore 4) ((xe_iload 4).trans (congrArg (x_iload 4) ((xe_aload 3).trans (congrArg (x_aload 3) ((xe_g2 (kk := 100) rfl tl_0_1).trans (congrArg (x_g2 100 401) ((xe_iconst 4).trans (congrArg (x_iconst 4) ((xe_iaload).trans (congrArg (x_iaload) ((xe_if_icmp .ge 74).trans (congrArg (x_if_icmp .ge 74 K) ((xe_aload 3).trans (congrArg (x_aload 3) ((xe_g2 (kk := 100) rfl tl_0_2).trans (congrArg (x_g2 100 402) ((xe_iload 4).trans (congrArg (x_iload 4) ((xe_iaload).trans (congrArg (x_iaload) (xe_goto 75)))))))))))))))))))))))))))))
theorem bk_X10_rule_e_74 : ck_ fX10 (some .int) cX10_rule 74 [.iconst (-1), .ireturn] 76 = true := qck_r (nn_ _) (by decide +kernel)
theorem bs_X10_rule_e_74 {P : Zt → Option Zv → Prop} (K : Int → Zl → List Zv → Zt → Prop) : sx_ K P [.iconst (-1), .ireturn] 76 = x_iconst (-1) (x_ireturn P) := ((xe_iconst (-1)).trans (congrArg (x_iconst (-1)) (xe_ireturn)))
theorem bk_X10_rule_e_75 : ck_ fX10 (some .int) cX10_rule 75 [.ireturn] 76 = true := qck_r (nn_ _) (by decide +kernel)
theorem bs_X10_rule_e_75 {P : Zt → Option Zv → Prop} (K : Int → Zl → List Zv → Zt → Prop) : sx_ K P [.ireturn] 76 = x_ireturn P := (xe_ireturn)
abbrev po_X10_rule_e (T : Zt) (c w : Int) : Zt → Option Zv → Prop := fun T' r => T = T' ∧ ∃ x : Int, r = some (vI x) ∧ ((x = -2 ∧ ¬ (0 ≤ c ∧ c < T 106 0 2)) ∨ ((0 ≤ c ∧ c < T 106 0 2) ∧ x = -3 ∧ ¬ (0 ≤ w ∧ w < 23)) ∨ ((0 ≤ c ∧ c < T 106 0 2) ∧ (0 ≤ w ∧ w < 16) ∧ x = T 401 c w) ∨ ((0 ≤ c ∧ c < T 106 0 2) ∧ (16 ≤ w ∧ w < 23) ∧ w - 16 < T 401 c 4 ∧ x = T 402 c (w - 16)) ∨ ((0 ≤ c ∧ c < T 106 0 2) ∧ (16 ≤ w ∧ w < 23) ∧ ¬ w - 16 < T 401 c 4 ∧ x = -1))
set_option maxHeartbeats 4000000 in
theorem ct_X10_rule_e {T : Zt} {c w : Int} (hka : KA_ T) : Ct_ yX10_rule zX10_rule T [vR 110 0, vI c, vI w] (po_X10_rule_e T c w) := by
  refine ct_of pn_10 rfl rfl (Nat.le_of_ble_eq_true rfl) (fun hT hav => ?_)
  have hr_c : -2147483648 ≤ c ∧ c ≤ 2147483647 := hav (vI c) (List.mem_cons_of_mem _ List.mem_cons_self)
  have hr_w : -2147483648 ≤ w ∧ w ≤ 2147483647 := hav (vI w) (List.mem_cons_of_mem _ (List.mem_cons_of_mem _ List.mem_cons_self))
  have hz : zX10_rule.2.2.2.1 = some .boolean → ∀ (T' : Zt) (x : Int), po_X10_rule_e T c w T' (some (vI x)) → 0 ≤ x ∧ x ≤ 1 := fun h => by cases h
  have hb_competitionCount : 0 ≤ T 106 0 2 ∧ T 106 0 2 ≤ 4 := bd_f hT 106 2 tl_6_2 0
  show J_ zX10_rule T (po_X10_rule_e T c w) 0 0 0 [some (vR 110 0), some (vI c), some (vI w), none, none] [] T
  refine j_blx (F := fX10) tb_X10 (nn_ _) bk_X10_rule_e_0 bs_X10_rule_e_0 hz (fun K hK => ?_)
  refine hK 2 _ [vI c, vR 110 0] T ?_
  refine j_callV (y := yX10_isCompetition) (Yc := zX10_isCompetition) (rest := []) [vI c] (ct_X10_isCompetition (T := T)) cl_X10_107 (qd_c (by decide +kernel)) (nn_ _) rfl (rf_of rfl) (Nat.le_of_ble_eq_true rfl) (Nat.le_of_ble_eq_true rfl) (Nat.le_of_ble_eq_true rfl) rfl ?_
  rintro _ _ ⟨rfl, x1, rfl, hx1⟩
  show J_ zX10_rule T (po_X10_rule_e T c w) 0 0 5 _ [vI x1] T
  refine j_blx (F := fX10) tb_X10 (nn_ _) bk_X10_rule_e_5 bs_X10_rule_e_5 hz (fun K hK => ?_)
  refine And.intro (fun c2 => ?_) (fun c2 => ?_)
  · replace hx1 := hx1.resolve_right (fun z => c2 z.1)
    clear c2
    refine hK 11 _ [] T ?_
    refine j_blx (F := fX10) tb_X10 (nn_ _) bk_X10_rule_e_11 bs_X10_rule_e_11 hz (fun K hK => ?_)
    refine And.intro (fun c3 => ?_) (fun c3 => ?_)
    · refine hK 21 _ [] T ?_
      refine j_blx (F := fX10) tb_X10 (nn_ _) bk_X10_rule_e_21 bs_X10_rule_e_21 hz (fun K hK => ?_)
      refine (show po_X10_rule_e T c w T (some (vI (-3))) from ?_)
      exact ⟨rfl, _, rfl, by omega⟩
    · refine And.intro (fun c4 => ?_) (fun c4 => ?_)
      · refine hK 24 _ [] T ?_
        refine j_blx (F := fX10) tb_X10 (nn_ _) bk_X10_rule_e_24 bs_X10_rule_e_24 hz (fun K hK => ?_)
        refine ix_i (by omega) ?_
        refine And.intro (fun c5 => ?_) (fun c5 => ?_)
        · exact absurd c5 (hka.1 c (by omega) (by omega))
        · refine And.intro (fun c6 => ?_) (fun c6 => ?_)
          · refine hK 47 [some (vR 110 0), some (vI c), some (vI w), some (vR 100 c), none] [] T ?_
            refine j_blx (F := fX10) tb_X10 (nn_ _) bk_X10_rule_e_47 bs_X10_rule_e_47 hz (fun K hK => ?_)
            refine rg_i (by omega) ?_
            refine ix_i (by omega) ?_
            intro b7 b7b
            refine And.intro (fun c8 => ?_) (fun c8 => ?_)
            · refine hK 74 [some (vR 110 0), some (vI c), some (vI w), some (vR 100 c), some (vI (w - 16))] [] T ?_
              refine j_blx (F := fX10) tb_X10 (nn_ _) bk_X10_rule_e_74 bs_X10_rule_e_74 hz (fun K hK => ?_)
              refine (show po_X10_rule_e T c w T (some (vI (-1))) from ?_)
              exact ⟨rfl, _, rfl, by omega⟩
            · refine ix_i (by omega) ?_
              intro b9 b9b
              refine hK 75 _ [vI (T 402 c (w - 16))] T ?_
              refine j_blx (F := fX10) tb_X10 (nn_ _) bk_X10_rule_e_75 bs_X10_rule_e_75 hz (fun K hK => ?_)
              refine (show po_X10_rule_e T c w T (some (vI (T 402 c (w - 16)))) from ?_)
              exact ⟨rfl, _, rfl, by omega⟩
          · refine ix_i (by omega) ?_
            intro b10 b10b
            refine (show po_X10_rule_e T c w T (some (vI (T 401 c w))) from ?_)
            exact ⟨rfl, _, rfl, by omega⟩
      · refine (show po_X10_rule_e T c w T (some (vI (-3))) from ?_)
        exact ⟨rfl, _, rfl, by omega⟩
  · replace hx1 := hx1.resolve_left (fun z => absurd (c2.symm.trans z.1) (by decide))
    clear c2
    refine (show po_X10_rule_e T c w T (some (vI (-2))) from ?_)
    exact ⟨rfl, _, rfl, by omega⟩
theorem bk_X11_rule_e_0 : ck_ fX11 (some .int) cX11_rule 0 [.iload 1, .aload 0, .tableswitch 0 11 6 #[]] 5 = true := qck_r (nn_ _) (by decide +kernel)
theorem bs_X11_rule_e_0 {P : Zt → Option Zv → Prop} (K : Int → Zl → List Zv → Zt → Prop) : sx_ K P [.iload 1, .aload 0, .tableswitch 0 11 6 #[]] 5 = x_iload 1 (x_aload 0 (x_g0 111 6 0 4 (K 5))) := ((xe_iload 1).trans (congrArg (x_iload 1) ((xe_aload 0).trans (congrArg (x_aload 0) ((xe_g0 (kk := 111) rfl tl_11_6).trans (congrArg (x_g0 111 6 0 4) xe_nil))))))
theorem bk_X11_rule_e_8 : ck_ fX11 (some .int) cX11_rule 8 [.ifCond .ne 14, .iconst (-2), .ireturn] 14 = true := qck_r (nn_ _) (by decide +kernel)
theorem bs_X11_rule_e_8 {P : Zt → Option Zv → Prop} (K : Int → Zl → List Zv → Zt → Prop) : sx_ K P [.ifCond .ne 14, .iconst (-2), .ireturn] 14 = x_ifCond .ne 14 K (x_iconst (-2) (x_ireturn P)) := ((xe_ifCond .ne 14).trans (congrArg (x_ifCond .ne 14 K) ((xe_iconst (-2)).trans (congrArg (x_iconst (-2)) (xe_ireturn)))))
theorem bk_X11_rule_e_14 : ck_ fX11 (some .int) cX11_rule 14 [.iload 2, .iconst 0, .iconst 22] 18 = true := qck_r (nn_ _) (by decide +kernel)
theorem bs_X11_rule_e_14 {P : Zt → Option Zv → Prop} (K : Int → Zl → List Zv → Zt → Prop) : sx_ K P [.iload 2, .iconst 0, .iconst 22] 18 = x_iload 2 (x_iconst 0 (x_iconst 22 (K 18))) := ((xe_iload 2).trans (congrArg (x_iload 2) ((xe_iconst 0).trans (congrArg (x_iconst 0) ((xe_iconst 22).trans (congrArg (x_iconst 22) xe_nil))))))
theorem bk_X11_rule_e_21 : ck_ fX11 (some .int) cX11_rule 21 [.ifCond .eq 33, .aload 0, .iload 1, .iload 2] 27 = true := qck_r (nn_ _) (by decide +kernel)
theorem bs_X11_rule_e_21 {P : Zt → Option Zv → Prop} (K : Int → Zl → List Zv → Zt → Prop) : sx_ K P [.ifCond .eq 33, .aload 0, .iload 1, .iload 2] 27 = x_ifCond .eq 33 K (x_aload 0 (x_iload 1 (x_iload 2 (K 27)))) := ((xe_ifCond .eq 33).trans (congrArg (x_ifCond .eq 33 K) ((xe_aload 0).trans (congrArg (x_aload 0) ((xe_iload 1).trans (congrArg (x_iload 1) ((xe_iload 2).trans (congrArg (x_iload 2) xe_nil))))))))
theorem bk_X11_rule_e_33 : ck_ fX11 (some .int) cX11_rule 33 [.iconst (-3), .ireturn] 36 = true := qck_r (nn_ _) (by decide +kernel)
theorem bs_X11_rule_e_33 {P : Zt → Option Zv → Prop} (K : Int → Zl → List Zv → Zt → Prop) : sx_ K P [.iconst (-3), .ireturn] 36 = x_iconst (-3) (x_ireturn P) := ((xe_iconst (-3)).trans (congrArg (x_iconst (-3)) (xe_ireturn)))
theorem bk_X11_rule_e_30 : ck_ fX11 (some .int) cX11_rule 30 [.goto 35] 33 = true := qck_r (nn_ _) (by decide +kernel)
theorem bs_X11_rule_e_30 {P : Zt → Option Zv → Prop} (K : Int → Zl → List Zv → Zt → Prop) : sx_ K P [.goto 35] 33 = x_goto 35 K := (xe_goto 35)
theorem bk_X11_rule_e_35 : ck_ fX11 (some .int) cX11_rule 35 [.ireturn] 36 = true := qck_r (nn_ _) (by decide +kernel)
theorem bs_X11_rule_e_35 {P : Zt → Option Zv → Prop} (K : Int → Zl → List Zv → Zt → Prop) : sx_ K P [.ireturn] 36 = x_ireturn P := (xe_ireturn)
abbrev po_X11_rule_e (T : Zt) (c w : Int) : Zt → Option Zv → Prop := fun T' r => T = T' ∧ ∃ x : Int, r = some (vI x) ∧ ((x = -2 ∧ ¬ (0 ≤ c ∧ c < T 111 0 6)) ∨ ((0 ≤ c ∧ c < T 111 0 6) ∧ x = -3 ∧ ¬ (0 ≤ w ∧ w < 23)) ∨ ((0 ≤ c ∧ c < T 111 0 6) ∧ (0 ≤ w ∧ w < 23) ∧ x = T 205 0 (23 * c + w)))
set_option maxHeartbeats 4000000 in
theorem ct_X11_rule_e {T : Zt} {c w : Int} : Ct_ yX11_rule zX11_rule T [vR 111 0, vI c, vI w] (po_X11_rule_e T c w) := by
  refine ct_of pn_11 rfl rfl (Nat.le_of_ble_eq_true rfl) (fun hT hav => ?_)
  have hr_c : -2147483648 ≤ c ∧ c ≤ 2147483647 := hav (vI c) (List.mem_cons_of_mem _ List.mem_cons_self)
  have hr_w : -2147483648 ≤ w ∧ w ≤ 2147483647 := hav (vI w) (List.mem_cons_of_mem _ (List.mem_cons_of_mem _ List.mem_cons_self))
  have hz : zX11_rule.2.2.2.1 = some .boolean → ∀ (T' : Zt) (x : Int), po_X11_rule_e T c w T' (some (vI x)) → 0 ≤ x ∧ x ≤ 1 := fun h => by cases h
  have hb_6 : 0 ≤ T 111 0 6 ∧ T 111 0 6 ≤ 4 := bd_f hT 111 6 tl_11_6 0
  show J_ zX11_rule T (po_X11_rule_e T c w) 0 0 0 [some (vR 111 0), some (vI c), some (vI w)] [] T
  refine j_blx (F := fX11) tb_X11 (nn_ _) bk_X11_rule_e_0 bs_X11_rule_e_0 hz (fun K hK => ?_)
  intro b1 b1b
  refine hK 5 _ [vI (T 111 0 6), vI c] T ?_
  refine j_callS (y := yX11_isOf) (Yc := zX11_isOf) (rest := []) [vI c, vI (T 111 0 6)] (ct_X11_isOf (T := T) (by omega)) cl_X11_317 (qd_c (by decide +kernel)) (nn_ _) rfl (rf_of rfl) (Nat.le_of_ble_eq_true rfl) (Nat.le_of_ble_eq_true rfl) (Nat.le_of_ble_eq_true rfl) rfl ?_
  rintro _ _ ⟨rfl, x2, rfl, hx2⟩
  show J_ zX11_rule T (po_X11_rule_e T c w) 0 0 8 _ [vI x2] T
  refine j_blx (F := fX11) tb_X11 (nn_ _) bk_X11_rule_e_8 bs_X11_rule_e_8 hz (fun K hK => ?_)
  refine And.intro (fun c3 => ?_) (fun c3 => ?_)
  · replace hx2 := hx2.resolve_right (fun z => c3 z.1)
    clear c3
    refine hK 14 _ [] T ?_
    refine j_blx (F := fX11) tb_X11 (nn_ _) bk_X11_rule_e_14 bs_X11_rule_e_14 hz (fun K hK => ?_)
    refine hK 18 _ [vI 22, vI 0, vI w] T ?_
    refine j_callS (y := yX11_in) (Yc := zX11_in) (rest := []) [vI w, vI 0, vI 22] (ct_X11_in (T := T)) cl_X11_255 (qd_c (by decide +kernel)) (nn_ _) rfl (rf_of rfl) (Nat.le_of_ble_eq_true rfl) (Nat.le_of_ble_eq_true rfl) (Nat.le_of_ble_eq_true rfl) rfl ?_
    rintro _ _ ⟨rfl, x4, rfl, hx4⟩
    show J_ zX11_rule T (po_X11_rule_e T c w) 0 0 21 _ [vI x4] T
    refine j_blx (F := fX11) tb_X11 (nn_ _) bk_X11_rule_e_21 bs_X11_rule_e_21 hz (fun K hK => ?_)
    refine And.intro (fun c5 => ?_) (fun c5 => ?_)
    · replace hx4 := hx4.resolve_left (fun z => absurd (c5.symm.trans z.1) (by decide))
      clear c5
      refine hK 33 _ [] T ?_
      refine j_blx (F := fX11) tb_X11 (nn_ _) bk_X11_rule_e_33 bs_X11_rule_e_33 hz (fun K hK => ?_)
      refine (show po_X11_rule_e T c w T (some (vI (-3))) from ?_)
      exact ⟨rfl, _, rfl, by omega⟩
    · replace hx4 := hx4.resolve_right (fun z => c5 z.1)
      clear c5
      refine hK 27 _ [vI w, vI c, vR 111 0] T ?_
      refine j_callV (y := yX11_rule0) (Yc := zX11_rule0) (rest := []) [vI c, vI w] (ct_X11_rule0 (T := T) (by omega) (by omega)) cl_X11_321 (qd_c (by decide +kernel)) (nn_ _) rfl (rf_of rfl) (Nat.le_of_ble_eq_true rfl) (Nat.le_of_ble_eq_true rfl) (Nat.le_of_ble_eq_true rfl) rfl ?_
      rintro _ _ ⟨rfl, rfl⟩
      show J_ zX11_rule T (po_X11_rule_e T c w) 0 0 30 _ [vI (T 205 0 (23 * c + w))] T
      refine j_blx (F := fX11) tb_X11 (nn_ _) bk_X11_rule_e_30 bs_X11_rule_e_30 hz (fun K hK => ?_)
      refine hK 35 _ [vI (T 205 0 (23 * c + w))] T ?_
      refine j_blx (F := fX11) tb_X11 (nn_ _) bk_X11_rule_e_35 bs_X11_rule_e_35 hz (fun K hK => ?_)
      refine (show po_X11_rule_e T c w T (some (vI (T 205 0 (23 * c + w)))) from ?_)
      exact ⟨rfl, _, rfl, by omega⟩
  · replace hx2 := hx2.resolve_left (fun z => absurd (c3.symm.trans z.1) (by decide))
    clear c3
    refine (show po_X11_rule_e T c w T (some (vI (-2))) from ?_)
    exact ⟨rfl, _, rfl, by omega⟩
-- texts, competitions, rules: alike on both sides
def TXR_ (T : Zt) : Prop := T 105 0 1 = T 111 0 1 ∧ T 105 0 3 = T 111 0 2 ∧ T 106 0 2 = T 111 0 6 ∧ (∀ j, 0 ≤ j → j < 400 → T 500 0 j = T 200 0 j) ∧ ∀ c, 0 ≤ c → c < T 106 0 2 → (∀ w, 0 ≤ w → w < 16 → T 401 c w = T 205 0 (23 * c + w)) ∧ ∀ k, 0 ≤ k → k < 7 → (k < T 401 c 4 → T 402 c k = T 205 0 (23 * c + (16 + k))) ∧ (¬ k < T 401 c 4 → T 205 0 (23 * c + (16 + k)) = -1)
/-- the house's side of it stays -/
def kth_ (T T' : Zt) : Prop := T' 105 0 1 = T 105 0 1 ∧ T' 105 0 3 = T 105 0 3 ∧ T' 106 0 2 = T 106 0 2 ∧ (∀ j, T' 500 0 j = T 500 0 j) ∧ (∀ c j, T' 401 c j = T 401 c j) ∧ ∀ c j, T' 402 c j = T 402 c j
/-- the reference's side of it stays -/
def ktr_ (T T' : Zt) : Prop := T' 111 0 1 = T 111 0 1 ∧ T' 111 0 2 = T 111 0 2 ∧ T' 111 0 6 = T 111 0 6 ∧ (∀ j, T' 200 0 j = T 200 0 j) ∧ ∀ j, T' 205 0 j = T 205 0 j
theorem txr_k {T T' : Zt} (h : TXR_ T) (k : kth_ T T') (r : ktr_ T T') : TXR_ T' := by
  obtain ⟨h1, h2, h3, h4, h5⟩ := h
  obtain ⟨k1, k2, k3, k4, k5, k6⟩ := k
  obtain ⟨r1, r2, r3, r4, r5⟩ := r
  refine ⟨by omega, by omega, by omega, fun j a b => by rw [k4, r4]; exact h4 j a b, fun c a b => ⟨fun w d e => by rw [k5, r5]; exact (h5 c a (by omega)).1 w d e, fun q d e => ?_⟩⟩
  rw [k5, k6, r5]
  exact (h5 c a (by omega)).2 q d e
/-- a sign on both sides -/
theorem txr_s {T T1 T2 : Zt} {c x1 x2 : Int} (h : TXR_ T) (hl : 0 ≤ T 105 0 1) (ho : T1 105 0 3 = T 105 0 3 ∧ T1 106 0 2 = T 106 0 2 ∧ (∀ c j, T1 401 c j = T 401 c j) ∧ ∀ c j, T1 402 c j = T 402 c j) (d1 : (x1 = -3 ∧ T1 105 0 1 = T 105 0 1 ∧ ¬ (c = 10 ∨ 32 ≤ c ∧ c ≤ 126) ∧ RS9_ 500 T T1) ∨ ((c = 10 ∨ 32 ≤ c ∧ c ≤ 126) ∧ T 105 0 1 = 400 ∧ x1 = -5 ∧ T1 105 0 1 = 400 ∧ RS9_ 500 T T1) ∨ ((c = 10 ∨ 32 ≤ c ∧ c ≤ 126) ∧ T 105 0 1 < 400 ∧ x1 = T 105 0 1 + 1 ∧ T1 105 0 1 = x1 ∧ SG9_ 500 T T1 (T 105 0 1) c)) (r : ktr_ T T1)
  (hp : T2 111 0 2 = T1 111 0 2 ∧ T2 111 0 6 = T1 111 0 6 ∧ ∀ j, T2 205 0 j = T1 205 0 j) (d2 : (x2 = -3 ∧ T2 111 0 1 = T1 111 0 1 ∧ ¬ (c = 10 ∨ 32 ≤ c ∧ c ≤ 126) ∧ RS9_ 200 T1 T2) ∨ ((c = 10 ∨ 32 ≤ c ∧ c ≤ 126) ∧ T1 111 0 1 = 400 ∧ x2 = -5 ∧ T2 111 0 1 = 400 ∧ RS9_ 200 T1 T2) ∨ ((c = 10 ∨ 32 ≤ c ∧ c ≤ 126) ∧ T1 111 0 1 < 400 ∧ x2 = T1 111 0 1 + 1 ∧ T2 111 0 1 = x2 ∧ SG9_ 200 T1 T2 (T1 111 0 1) c)) (k : kth_ T1 T2) : x1 = x2 ∧ TXR_ T2 := by
  obtain ⟨h1, h2, h3, h4, h5⟩ := h
  obtain ⟨o1, o2, o3, o4⟩ := ho
  obtain ⟨r1, r2, r3, r4, r5⟩ := r
  obtain ⟨p1, p2, p3⟩ := hp
  obtain ⟨k1, k2, k3, k4, k5, k6⟩ := k
  have hr : ∀ c, 0 ≤ c → c < T2 106 0 2 → (∀ w, 0 ≤ w → w < 16 → T2 401 c w = T2 205 0 (23 * c + w)) ∧ ∀ k, 0 ≤ k → k < 7 → (k < T2 401 c 4 → T2 402 c k = T2 205 0 (23 * c + (16 + k))) ∧ (¬ k < T2 401 c 4 → T2 205 0 (23 * c + (16 + k)) = -1) := fun c a b => by
    refine ⟨fun w d e => by rw [k5, o3, p3, r5]; exact (h5 c a (by omega)).1 w d e, fun q d e => ?_⟩
    rw [k5, o3, k6, o4, p3, r5]
    exact (h5 c a (by omega)).2 q d e
  have hs : RS9_ 500 T T1 → RS9_ 200 T1 T2 → ∀ j, 0 ≤ j → j < 400 → T2 500 0 j = T2 200 0 j := fun a b j c d => by
    rw [k4, a j, b j, r4]
    exact h4 j c d
  rcases d1 with ⟨a1, a2, a3, a4⟩ | ⟨a0, a1, a2, a3, a4⟩ | ⟨a0, a1, a2, a3, a4⟩
  · rcases d2 with ⟨b1, b2, b3, b4⟩ | ⟨b0, b1, b2, b3, b4⟩ | ⟨b0, b1, b2, b3, b4⟩
    · exact ⟨by omega, by omega, by omega, by omega, hs a4 b4, hr⟩
    · exact absurd b0 a3
    · exact absurd b0 a3
  · rcases d2 with ⟨b1, b2, b3, b4⟩ | ⟨b0, b1, b2, b3, b4⟩ | ⟨b0, b1, b2, b3, b4⟩
    · exact absurd a0 b3
    · exact ⟨by omega, by omega, by omega, by omega, hs a4 b4, hr⟩
    · omega
  · rcases d2 with ⟨b1, b2, b3, b4⟩ | ⟨b0, b1, b2, b3, b4⟩ | ⟨b0, b1, b2, b3, b4⟩
    · exact absurd a0 b3
    · omega
    · refine ⟨by omega, by omega, by omega, by omega, fun j c d => ?_, hr⟩
      have e1 : T1 111 0 1 = T 105 0 1 := by omega
      rw [e1] at b4
      rw [k4]
      by_cases z : j = T 105 0 1
      · rw [z, a4.1, b4.1]
      · rw [a4.2 j z, b4.2 j z, r4]
        exact h4 j c d
/-- a wiped text on both sides -/
theorem txr_w {T T1 T2 : Zt} {x1 x2 : Int} (h : TXR_ T) (ho : T1 105 0 3 = T 105 0 3 ∧ T1 106 0 2 = T 106 0 2 ∧ (∀ j, T1 500 0 j = T 500 0 j) ∧ (∀ c j, T1 401 c j = T 401 c j) ∧ ∀ c j, T1 402 c j = T 402 c j) (d1 : T1 105 0 1 = 0 ∧ x1 = T 105 0 1) (r : ktr_ T T1) (hp : T2 111 0 2 = T1 111 0 2 ∧ T2 111 0 6 = T1 111 0 6 ∧ (∀ j, T2 200 0 j = T1 200 0 j) ∧ ∀ j, T2 205 0 j = T1 205 0 j) (d2 : T2 111 0 1 = 0 ∧ x2 = T1 111 0 1) (k : kth_ T1 T2) : x1 = x2 ∧ TXR_ T2 := by
  obtain ⟨h1, h2, h3, h4, h5⟩ := h
  obtain ⟨o1, o2, o5, o3, o4⟩ := ho
  obtain ⟨r1, r2, r3, r4, r5⟩ := r
  obtain ⟨p1, p2, p4, p3⟩ := hp
  obtain ⟨k1, k2, k3, k4, k5, k6⟩ := k
  refine ⟨by omega, by omega, by omega, by omega, fun j a b => by rw [k4, o5, p4, r4]; exact h4 j a b, fun c a b => ⟨fun w d e => by rw [k5, o3, p3, r5]; exact (h5 c a (by omega)).1 w d e, fun q d e => ?_⟩⟩
  rw [k5, o3, k6, o4, p3, r5]
  exact (h5 c a (by omega)).2 q d e
/-- a rule is told alike -/
theorem txr_r {T : Zt} {c w x1 x2 : Int} (h : TXR_ T) (d1 : (x1 = -2 ∧ ¬ (0 ≤ c ∧ c < T 106 0 2)) ∨ ((0 ≤ c ∧ c < T 106 0 2) ∧ x1 = -3 ∧ ¬ (0 ≤ w ∧ w < 23)) ∨ ((0 ≤ c ∧ c < T 106 0 2) ∧ (0 ≤ w ∧ w < 16) ∧ x1 = T 401 c w) ∨ ((0 ≤ c ∧ c < T 106 0 2) ∧ (16 ≤ w ∧ w < 23) ∧ w - 16 < T 401 c 4 ∧ x1 = T 402 c (w - 16)) ∨ ((0 ≤ c ∧ c < T 106 0 2) ∧ (16 ≤ w ∧ w < 23) ∧ ¬ w - 16 < T 401 c 4 ∧ x1 = -1)) (d2 : (x2 = -2 ∧ ¬ (0 ≤ c ∧ c < T 111 0 6)) ∨ ((0 ≤ c ∧ c < T 111 0 6) ∧ x2 = -3 ∧ ¬ (0 ≤ w ∧ w < 23)) ∨ ((0 ≤ c ∧ c < T 111 0 6) ∧ (0 ≤ w ∧ w < 23) ∧ x2 = T 205 0 (23 * c + w))) : x1 = x2 := by
  obtain ⟨h1, h2, h3, h4, h5⟩ := h
  by_cases hc : 0 ≤ c ∧ c < T 106 0 2
  · obtain ⟨g1, g2⟩ := h5 c hc.1 hc.2
    by_cases hw : 0 ≤ w ∧ w < 16
    · have g := g1 w hw.1 hw.2
      omega
    · by_cases hv : 16 ≤ w ∧ w < 23
      · have g := g2 (w - 16) (by omega) (by omega)
        rw [show 16 + (w - 16) = w by omega] at g
        omega
      · omega
  · omega
/-- a competition on both sides -/
theorem txr_c {T T1 T2 : Zt} {x1 x2 : Int} (h : TXR_ T) (hl : T 105 0 1 ≤ 400) (hn : 0 ≤ T 106 0 2) (ho : (∀ j, T1 500 0 j = T 500 0 j) ∧ (∀ i j, i ≠ T 106 0 2 → T1 401 i j = T 401 i j) ∧ (T1 106 0 2 = T 106 0 2 → ∀ i j, T1 402 i j = T 402 i j)) (d1 : CH9_ T T1 x1) (r : ktr_ T T1) (hp : (∀ j, T2 200 0 j = T1 200 0 j) ∧ ∀ j, j < 23 * T1 111 0 6 → T2 205 0 j = T1 205 0 j) (d2 : CR9_ T1 T2 x2) (k : kth_ T1 T2) : x1 = x2 ∧ TXR_ T2 := by
  obtain ⟨h1, h2, h3, h4, h5⟩ := h
  obtain ⟨o1, o2, o3⟩ := ho
  obtain ⟨r1, r2, r3, r4, r5⟩ := r
  obtain ⟨p1, p2⟩ := hp
  obtain ⟨k1, k2, k3, k4, k5, k6⟩ := k
  have et : ∀ j, 0 ≤ j → j < 400 → T2 500 0 j = T2 200 0 j := fun j a b => by
    rw [k4, o1, p1, r4]
    exact h4 j a b
  have er : rdf9_ 402 (cl9_ (T1 111 0 1) (fun j => T1 200 0 j)) (T1 111 0 1) 0 (fun _ => 0) dv9_ = rdf9_ 402 (cl9_ (T 105 0 1) (fun j => T 500 0 j)) (T 105 0 1) 0 (fun _ => 0) dv9_ := by
    rw [r1, ← h1, show cl9_ (T 105 0 1) (fun j => T1 200 0 j) = cl9_ (T 105 0 1) (fun j => T 500 0 j) from cl9_e (fun j a b => (r4 j).trans (h4 j a (by omega)).symm)]
  -- the competitions that stood before
  have hr : ∀ c, 0 ≤ c → c < T 106 0 2 → (∀ i j, i ≠ T 106 0 2 → T1 402 i j = T 402 i j) → (∀ w, 0 ≤ w → w < 16 → T2 401 c w = T2 205 0 (23 * c + w)) ∧ ∀ k, 0 ≤ k → k < 7 → (k < T2 401 c 4 → T2 402 c k = T2 205 0 (23 * c + (16 + k))) ∧ (¬ k < T2 401 c 4 → T2 205 0 (23 * c + (16 + k)) = -1) := fun c a b g => by
    have zc : c ≠ T 106 0 2 := by omega
    have hc := h5 c a b
    refine ⟨fun w d e => by rw [k5, o2 c w zc, p2 _ (by omega), r5]; exact hc.1 w d e, fun q d e => ?_⟩
    rw [k5, o2 c 4 zc, k6, g c q zc, p2 _ (by omega), r5]
    exact hc.2 q d e
  unfold CR9_ at d2
  rw [er] at d2
  rcases d1 with ⟨a1, a2, a3, a4, a5⟩ | ⟨a1, a2, ⟨a3, kk, a4, a5⟩ | ⟨a3, a4, a5, a6, a10, v, a7, a8, a9⟩⟩
  · rcases d2 with ⟨b1, b2, b3, b4, b5⟩ | ⟨b1, _⟩
    · exact ⟨by omega, by omega, by omega, by omega, et, fun c y z => hr c y (by omega) (fun i j _ => o3 a5 i j)⟩
    · omega
  · rcases d2 with ⟨b1, _⟩ | ⟨b1, b2, ⟨b3, k9, b4, b5, b6⟩ | ⟨b3, b4, b5, v, b6, _⟩⟩
    · omega
    · rw [a5] at b6
      have e := Prod.mk.inj (Sum.inl.inj b6)
      exact ⟨by omega, by omega, by omega, by omega, et, fun c y z => hr c y (by omega) (fun i j _ => o3 a3 i j)⟩
    · rw [a5] at b6
      cases b6
  · rcases d2 with ⟨b1, _⟩ | ⟨b1, b2, ⟨b3, k9, b4, b5, b6⟩ | ⟨b3, b4, b5, v9, b6, b7⟩⟩
    · omega
    · rw [a7] at b6
      cases b6
    · rw [a7] at b6
      have e : v = v9 := Sum.inr.inj b6
      subst e
      have kv := rdf9_v 402 kv9_d a7
      have e6 : T1 111 0 6 = T 106 0 2 := by omega
      rw [e6] at b7
      refine ⟨by omega, by omega, by omega, by omega, et, fun c y z => ?_⟩
      by_cases zc : c = T 106 0 2
      · subst zc
        have gb := rdf9_g 402 gb9_d a7
        have g4 := gb.1 4 (by omega) (by omega)
        rw [rb9_0.2.2.2.2.1] at g4
        have e4 : T2 401 (T 106 0 2) 4 = v 4 := (k5 _ _).trans (a8 4 (by omega) (by omega))
        refine ⟨fun w d e => by rw [k5, a8 w d e, b7 w d (by omega)], fun q d e => ⟨fun f => ?_, fun f => ?_⟩⟩
        · rw [e4] at f
          rw [k6, a9 q d f, b7 (16 + q) (by omega) (by omega)]
        · rw [e4] at f
          rw [b7 (16 + q) (by omega) (by omega)]
          exact kv q d e f
      · exact hr c y (by omega) a6
-- enter and deduct of both sides
def EA9_ (T T' : Zt) (c b : Int) : Prop := T' 100 c 5 = T 100 c 5 + 1 ∧ (∀ d, d ≠ c → T' 100 d 5 = T 100 d 5) ∧ (∀ d z, ¬ (d = c ∧ z = T 100 c 5) → T' 403 d z = T 403 d z) ∧ (∀ d z, ¬ (d = c ∧ z = b) → T' 404 d z = T 404 d z) ∧ T' 403 c (T 100 c 5) = b ∧ T' 404 c b = T 100 c 5
/-- what enter does to the house -/
def EH9_ (T T' : Zt) (c b x : Int) : Prop := (T' = T ∧ ((x = -2 ∧ ¬ ((0 ≤ c ∧ c < T 106 0 2) ∧ 0 ≤ b ∧ b < T 108 0 2)) ∨ (((0 ≤ c ∧ c < T 106 0 2) ∧ 0 ≤ b ∧ b < T 108 0 2) ∧ x = -4 ∧ (T 100 c 6 ≠ 0 ∨ T 404 c b ≠ -1)))) ∨ (((0 ≤ c ∧ c < T 106 0 2) ∧ 0 ≤ b ∧ b < T 108 0 2) ∧ T 100 c 6 = 0 ∧ T 404 c b = -1 ∧ T 100 c 5 ≤ 11 ∧ x = T 100 c 5 + 1 ∧ EA9_ T T' c b)
def EB9_ (T T' : Zt) (c b : Int) : Prop := T' 208 0 c = T 208 0 c + 1 ∧ (∀ z, z ≠ c → T' 208 0 z = T 208 0 z) ∧ (∀ z, z ≠ 12 * c + T 208 0 c → T' 207 0 z = T 207 0 z) ∧ T' 207 0 (12 * c + T 208 0 c) = b
/-- what enter does to the reference -/
def ER9_ (T T' : Zt) (c b x : Int) : Prop := (T' = T ∧ ((x = -2 ∧ ¬ ((0 ≤ c ∧ c < T 111 0 6) ∧ 0 ≤ b ∧ b < T 111 0 12)) ∨ (((0 ≤ c ∧ c < T 111 0 6) ∧ 0 ≤ b ∧ b < T 111 0 12) ∧ x = -4 ∧ (T 209 0 c ≠ 0 ∨ HE_ T c b)))) ∨ (((0 ≤ c ∧ c < T 111 0 6) ∧ 0 ≤ b ∧ b < T 111 0 12) ∧ T 209 0 c = 0 ∧ ¬ HE_ T c b ∧ x = T 208 0 c + 1 ∧ EB9_ T T' c b)
/-- a deduction is put down: in, from, points, day -/
def DP9_ (k1 k2 k3 k4 : Nat) (T T' : Zt) (n c b p d : Int) : Prop := SG9_ k1 T T' n c ∧ SG9_ k2 T T' n b ∧ SG9_ k3 T T' n p ∧ SG9_ k4 T T' n d
def DH9_ (T T' : Zt) (c b p x : Int) : Prop := (T' = T ∧ ((x = -2 ∧ ¬ ((0 ≤ c ∧ c < T 106 0 2) ∧ 0 ≤ b ∧ b < T 108 0 2)) ∨ (((0 ≤ c ∧ c < T 106 0 2) ∧ 0 ≤ b ∧ b < T 108 0 2) ∧ ((x = -3 ∧ ¬ (1 ≤ p ∧ p ≤ 99)) ∨ ((1 ≤ p ∧ p ≤ 99) ∧ ((x = -4 ∧ T 404 c b = -1) ∨ (T 404 c b ≠ -1 ∧ x = -5 ∧ 50 ≤ T 106 0 6))))))) ∨ (((0 ≤ c ∧ c < T 106 0 2) ∧ 0 ≤ b ∧ b < T 108 0 2) ∧ (1 ≤ p ∧ p ≤ 99) ∧ T 404 c b ≠ -1 ∧ T 106 0 6 < 50 ∧ x = T 106 0 6 + 1 ∧ T' 106 0 6 = x ∧ DP9_ 527 528 529 530 T T' (T 106 0 6) c b p (T 108 0 13))
def DR9_ (T T' : Zt) (c b p x : Int) : Prop := (T' = T ∧ ((x = -2 ∧ ¬ ((0 ≤ c ∧ c < T 111 0 6) ∧ 0 ≤ b ∧ b < T 111 0 12)) ∨ (((0 ≤ c ∧ c < T 111 0 6) ∧ 0 ≤ b ∧ b < T 111 0 12) ∧ ((x = -3 ∧ ¬ (1 ≤ p ∧ p ≤ 99)) ∨ ((1 ≤ p ∧ p ≤ 99) ∧ ((x = -4 ∧ ¬ HE_ T c b) ∨ (HE_ T c b ∧ x = -5 ∧ T 111 0 24 = 50))))))) ∨ (((0 ≤ c ∧ c < T 111 0 6) ∧ 0 ≤ b ∧ b < T 111 0 12) ∧ (1 ≤ p ∧ p ≤ 99) ∧ HE_ T c b ∧ T 111 0 24 < 50 ∧ x = T 111 0 24 + 1 ∧ T' 111 0 24 = x ∧ DP9_ 225 226 227 228 T T' (T 111 0 24) c b p (T 111 0 3))
theorem bk_X10_enter_e_0 : ck_ fX10 (some .int) cX10_enter 0 [.aload 0, .iload 1] 2 = true := qck_r (nn_ _) (by decide +kernel)
theorem bs_X10_enter_e_0 {P : Zt → Option Zv → Prop} (K : Int → Zl → List Zv → Zt → Prop) : sx_ K P [.aload 0, .iload 1] 2 = x_aload 0 (x_iload 1 (K 2)) := ((xe_aload 0).trans (congrArg (x_aload 0) ((xe_iload 1).trans (congrArg (x_iload 1) xe_nil))))
theorem bk_X10_enter_e_5 : ck_ fX10 (some .int) cX10_enter 5 [.ifCond .eq 16, .aload 0, .iload 2] 10 = true := qck_r (nn_ _) (by decide +kernel)
theorem bs_X10_enter_e_5 {P : Zt → Option Zv → Prop} (K : Int → Zl → List Zv → Zt → Prop) : sx_ K P [.ifCond .eq 16, .aload 0, .iload 2] 10 = x_ifCond .eq 16 K (x_aload 0 (x_iload 2 (K 10))) := ((xe_ifCond .eq 16).trans (congrArg (x_ifCond .eq 16 K) ((xe_aload 0).trans (congrArg (x_aload 0) ((xe_iload 2).trans (congrArg (x_iload 2) xe_nil))))))
theorem bk_X10_enter_e_16 : ck_ fX10 (some .int) cX10_enter 16 [.iconst (-2), .ireturn] 19 = true := qck_r (nn_ _) (by decide +kernel)
theorem bs_X10_enter_e_16 {P : Zt → Option Zv → Prop} (K : Int → Zl → List Zv → Zt → Prop) : sx_ K P [.iconst (-2), .ireturn] 19 = x_iconst (-2) (x_ireturn P) := ((xe_iconst (-2)).trans (congrArg (x_iconst (-2)) (xe_ireturn)))
theorem bk_X10_enter_e_13 : ck_ fX10 (some .int) cX10_enter 13 [.ifCond .ne 19, .iconst (-2), .ireturn] 19 = true := qck_r (nn_ _) (by decide +kernel)
theorem bs_X10_enter_e_13 {P : Zt → Option Zv → Prop} (K : Int → Zl → List Zv → Zt → Prop) : sx_ K P [.ifCond .ne 19, .iconst (-2), .ireturn] 19 = x_ifCond .ne 19 K (x_iconst (-2) (x_ireturn P)) := ((xe_ifCond .ne 19).trans (congrArg (x_ifCond .ne 19 K) ((xe_iconst (-2)).trans (congrArg (x_iconst (-2)) (xe_ireturn)))))
theorem bk_X10_enter_e_19 : ck_ fX10 (some .int) cX10_enter 19 [.aload 0, .tableswitch 0 10 2 #[], .tableswitch 0 6 1 #[], .iload 1, .aaload, .astore 3, .aload 3, .tableswitch 0 0 6 #[], .ifCond .ne 46, .aload 3, .tableswitch 0 0 4 #[], .iload 2, .iaload, .iconst (-1), .if_icmp .eq 49, .iconst (-4), .ireturn] 49 = true := qck_r (nn_ _) (by decide +kernel)
theorem bs_X10_enter_e_19 {P : Zt → Option Zv → Prop} (K : Int → Zl → List Zv → Zt → Prop) : sx_ K P [.aload 0, .tableswitch 0 10 2 #[], .tableswitch 0 6 1 #[], .iload 1, .aaload, .astore 3, .aload 3, .tableswitch 0 0 6 #[], .ifCond .ne 46, .aload 3, .tableswitch 0 0 4 #[], .iload 2, .iaload, .iconst (-1), .if_icmp .eq 49, .iconst (-4), .ireturn] 49 = x_aload 0 (x_g1 110 106 (x_g1 106 521 (x_iload 1 (x_aaload (x_astore 3 (x_aload 3 (x_g0 100 6 0 1 (x_ifCond .ne 46 K (x_aload 3 (x_g2 100 404 (x_iload 2 (x_iaload (x_iconst (-1) (x_if_icmp .eq 49 K (x_iconst (-4) (x_ireturn P)))))))))))))))) := ((xe_aload 0).trans (congrArg (x_aload 0) ((xe_g1 (kk := 110) rfl tl_10_2).trans (congrArg (x_g1 110 106) ((xe_g1 (kk := 106) rfl tl_6_1).trans (congrArg (x_g1 106 521) ((xe_iload 1).trans (congrArg (x_iload 1) ((xe_aaload).trans (congrArg (x_aaload) ((xe_astore 3).trans (congrArg (x_astore 3) ((xe_aload 3).trans (congrArg (x_aload 3) ((xe_g0 (kk := 100) rfl tl_0_6).trans (congrArg (x_g0 100 6 0 1) ((xe_ifCond .ne 46).trans (congrArg (x_ifCond .ne 46 K) ((xe_aload 3).trans (congrArg (x_aload 3) ((xe_g2 (kk := 100) rfl tl_0_4).trans (congrArg (x_g2 100 404) ((xe_iload 2).trans (congrArg (x_iload 2) ((xe_iaload).trans (congrArg (x_iaload) ((xe_iconst (-1)).trans (congrArg (x_iconst (-1)) ((xe_if_icmp .eq 49).trans (congrArg (x_if_icmp .eq 49 K) ((xe_iconst (-4)).trans (congrArg (x_iconst (-4)) (xe_ireturn)))))))))))))))))))))))))))))))))
theorem bk_X10_enter_e_46 : ck_ fX10 (some .int) cX10_enter 46 [.iconst (-4), .ireturn] 49 = true := qck_r (nn_ _) (by decide +kernel)
theorem bs_X10_enter_e_46 {P : Zt → Option Zv → Prop} (K : Int → Zl → List Zv → Zt → Prop) : sx_ K P [.iconst (-4), .ireturn] 49 = x_iconst (-4) (x_ireturn P) := ((xe_iconst (-4)).trans (congrArg (x_iconst (-4)) (xe_ireturn)))
theorem bk_X10_enter_e_49 : ck_ fX10 (some .int) cX10_enter 49 [.aload 3, .tableswitch 0 0 4 #[], .iload 2, .aload 3, .tableswitch 0 0 5 #[], .iastore, .aload 3, .tableswitch 0 0 3 #[], .aload 3, .tableswitch 0 0 5 #[], .iload 2, .iastore, .aload 3, .dup, .tableswitch 0 0 5 #[], .iconst 1, .iadd, .tableswitch 1 0 5 #[], .aload 3, .tableswitch 0 0 5 #[], .ireturn] 84 = true := qck_r (nn_ _) (by decide +kernel)
theorem bs_X10_enter_e_49 {P : Zt → Option Zv → Prop} (K : Int → Zl → List Zv → Zt → Prop) : sx_ K P [.aload 3, .tableswitch 0 0 4 #[], .iload 2, .aload 3, .tableswitch 0 0 5 #[], .iastore, .aload 3, .tableswitch 0 0 3 #[], .aload 3, .tableswitch 0 0 5 #[], .iload 2, .iastore, .aload 3, .dup, .tableswitch 0 0 5 #[], .iconst 1, .iadd, .tableswitch 1 0 5 #[], .aload 3, .tableswitch 0 0 5 #[], .ireturn] 84 = x_aload 3 (x_g2 100 404 (x_iload 2 (x_aload 3 (x_g0 100 5 0 12 (x_iastore (x_aload 3 (x_g2 100 403 (x_aload 3 (x_g0 100 5 0 12 (x_iload 2 (x_iastore (x_aload 3 (x_dup (x_g0 100 5 0 12 (x_iconst 1 (x_iadd (x_p 100 5 0 12 (x_aload 3 (x_g0 100 5 0 12 (x_ireturn P)))))))))))))))))))) := ((xe_aload 3).trans (congrArg (x_aload 3) ((xe_g2 (kk := 100) rfl tl_0_4).trans (congrArg (x_g2 100 404) ((xe_iload 2).trans (congrArg (x_iload 2) ((xe_aload 3).trans (congrArg (x_aload 3) ((xe_g0 (kk := 100) rfl tl_0_5).trans (congrArg (x_g0 100 5 0 12) ((xe_iastore).trans (congrArg (x_iastore) ((xe_aload 3).trans (congrArg (x_aload 3) ((xe_g2 (kk := 100) rfl tl_0_3).trans (congrArg (x_g2 100 403) ((xe_aload 3).trans (congrArg (x_aload 3) ((xe_g0 (kk := 100) rfl tl_0_5).trans (congrArg (x_g0 100 5 0 12) ((xe_iload 2).trans (congrArg (x_iload 2) ((xe_iastore).trans (congrArg (x_iastore) ((xe_aload 3).trans (congrArg (x_aload 3) ((xe_dup).trans (congrArg (x_dup) ((xe_g0 (kk := 100) rfl tl_0_5).trans (congrArg (x_g0 100 5 0 12) ((xe_iconst 1).trans (congrArg (x_iconst 1) ((xe_iadd).trans (congrArg (x_iadd) ((xe_p (kk := 100) rfl tl_0_5).trans (congrArg (x_p 100 5 0 12) ((xe_aload 3).trans (congrArg (x_aload 3) ((xe_g0 (kk := 100) rfl tl_0_5).trans (congrArg (x_g0 100 5 0 12) (xe_ireturn)))))))))))))))))))))))))))))))))))))))))
abbrev po_X10_enter_e (T : Zt) (c b : Int) : Zt → Option Zv → Prop := fun T' r => ∃ x : Int, r = some (vI x) ∧ fr_ [(404, []), (403, []), (100, [5])] T T' ∧ (KE_ T' ∧ (∀ d z, 0 ≤ T 404 d z → 0 ≤ T' 404 d z) ∧ EH9_ T T' c b x)
set_option maxHeartbeats 4000000 in
theorem ct_X10_enter_e {T : Zt} {c b : Int} (hka : KA_ T) (hke : KE_ T) : Ct_ yX10_enter zX10_enter T [vR 110 0, vI c, vI b] (po_X10_enter_e T c b) := by
  refine ct_of pn_10 rfl rfl (Nat.le_of_ble_eq_true rfl) (fun hT hav => ?_)
  have hr_c : -2147483648 ≤ c ∧ c ≤ 2147483647 := hav (vI c) (List.mem_cons_of_mem _ List.mem_cons_self)
  have hr_b : -2147483648 ≤ b ∧ b ≤ 2147483647 := hav (vI b) (List.mem_cons_of_mem _ (List.mem_cons_of_mem _ List.mem_cons_self))
  have hz : zX10_enter.2.2.2.1 = some .boolean → ∀ (T' : Zt) (x : Int), po_X10_enter_e T c b T' (some (vI x)) → 0 ≤ x ∧ x ≤ 1 := fun h => by cases h
  have hcc : 0 ≤ T 106 0 2 ∧ T 106 0 2 ≤ 4 := bd_f hT 106 2 tl_6_2 0
  have hb_clubs : 0 ≤ T 108 0 2 ∧ T 108 0 2 ≤ 12 := bd_f hT 108 2 tl_8_2 0
  show J_ zX10_enter T (po_X10_enter_e T c b) 0 0 0 [some (vR 110 0), some (vI c), some (vI b), none] [] T
  refine j_blx (F := fX10) tb_X10 (nn_ _) bk_X10_enter_e_0 bs_X10_enter_e_0 hz (fun K hK => ?_)
  refine hK 2 _ [vI c, vR 110 0] T ?_
  refine j_callV (y := yX10_isCompetition) (Yc := zX10_isCompetition) (rest := []) [vI c] (ct_X10_isCompetition (T := T)) cl_X10_107 (qd_c (by decide +kernel)) (nn_ _) rfl (rf_of rfl) (Nat.le_of_ble_eq_true rfl) (Nat.le_of_ble_eq_true rfl) (Nat.le_of_ble_eq_true rfl) rfl ?_
  rintro _ _ ⟨rfl, x1, rfl, hx1⟩
  show J_ zX10_enter T (po_X10_enter_e T c b) 0 0 5 _ [vI x1] T
  refine j_blx (F := fX10) tb_X10 (nn_ _) bk_X10_enter_e_5 bs_X10_enter_e_5 hz (fun K hK => ?_)
  refine And.intro (fun c2 => ?_) (fun c2 => ?_)
  · replace hx1 := hx1.resolve_left (fun z => absurd (c2.symm.trans z.1) (by decide))
    clear c2
    refine hK 16 _ [] T ?_
    refine j_blx (F := fX10) tb_X10 (nn_ _) bk_X10_enter_e_16 bs_X10_enter_e_16 hz (fun K hK => ?_)
    refine (show po_X10_enter_e T c b T (some (vI (-2))) from ?_)
    exact ⟨_, rfl, fr_0 _ _, hke, fun _ _ h => h, Or.inl ⟨rfl, Or.inl ⟨rfl, by omega⟩⟩⟩
  · replace hx1 := hx1.resolve_right (fun z => c2 z.1)
    clear c2
    refine hK 10 _ [vI b, vR 110 0] T ?_
    refine j_callV (y := yX10_isClub) (Yc := zX10_isClub) (rest := []) [vI b] (ct_X10_isClub (T := T)) cl_X10_137 (qd_c (by decide +kernel)) (nn_ _) rfl (rf_of rfl) (Nat.le_of_ble_eq_true rfl) (Nat.le_of_ble_eq_true rfl) (Nat.le_of_ble_eq_true rfl) rfl ?_
    rintro _ _ ⟨rfl, x3, rfl, hx3⟩
    show J_ zX10_enter T (po_X10_enter_e T c b) 0 0 13 _ [vI x3] T
    refine j_blx (F := fX10) tb_X10 (nn_ _) bk_X10_enter_e_13 bs_X10_enter_e_13 hz (fun K hK => ?_)
    refine And.intro (fun c4 => ?_) (fun c4 => ?_)
    · replace hx3 := hx3.resolve_right (fun z => c4 z.1)
      clear c4
      refine hK 19 _ [] T ?_
      refine j_blx (F := fX10) tb_X10 (nn_ _) bk_X10_enter_e_19 bs_X10_enter_e_19 hz (fun K hK => ?_)
      refine ix_i (by omega) ?_
      refine And.intro (fun c5 => ?_) (fun c5 => ?_)
      · exact absurd (show T 521 0 c = 0 by omega) (hka.1 _ (by omega) (by omega))
      · intro b6 b6b
        refine And.intro (fun c7 => ?_) (fun c7 => ?_)
        · refine hK 46 [some (vR 110 0), some (vI c), some (vI b), some (vR 100 c)] [] T ?_
          refine j_blx (F := fX10) tb_X10 (nn_ _) bk_X10_enter_e_46 bs_X10_enter_e_46 hz (fun K hK => ?_)
          refine (show po_X10_enter_e T c b T (some (vI (-4))) from ?_)
          exact ⟨_, rfl, fr_0 _ _, hke, fun _ _ h => h, Or.inl ⟨rfl, Or.inr ⟨by omega, rfl, by omega⟩⟩⟩
        · refine ix_i (by omega) ?_
          intro b8 b8b
          refine And.intro (fun c9 => ?_) (fun c9 => ?_)
          · have hen : 0 ≤ T 100 c 5 ∧ T 100 c 5 ≤ 12 := bd_f hT 100 5 tl_0_5 c
            have hlt : T 100 c 5 + 1 ≤ 12 := by
              refine ph_i (fun i => if i = T 100 c 5 then b else T 403 c i) (by omega) (by omega) (fun i p q => ?_) (fun i j p q d => ?_)
              · show 0 ≤ (if i = T 100 c 5 then b else T 403 c i) ∧ (if i = T 100 c 5 then b else T 403 c i) < 12
                by_cases z : i = T 100 c 5
                · rw [if_pos z]; omega
                · rw [if_neg z]
                  have y := bd_a hT 403 (by decide +kernel : ta_ 403 = some (1, some 12, 0, 11)) c p
                  omega
              · show (if i = T 100 c 5 then b else T 403 c i) ≠ (if j = T 100 c 5 then b else T 403 c j)
                rw [if_neg (by omega : ¬ i = T 100 c 5)]
                have y := hke c (by omega) (by omega) i p (by omega)
                by_cases z : j = T 100 c 5
                · rw [if_pos z]; intro e; rw [e] at y; omega
                · rw [if_neg z]
                  have y2 := hke c (by omega) (by omega) j (by omega) (by omega)
                  intro e; rw [e] at y; omega
            refine hK 49 _ [] T ?_
            refine j_blx (F := fX10) tb_X10 (nn_ _) bk_X10_enter_e_49 bs_X10_enter_e_49 hz (fun K hK => ?_)
            intro b10 b10b
            refine iy_i (by omega) (by omega) ?_
            refine x_nm (fun U11 hU11 => ?_)
            have e12 := up_f hU11
            intro b13 b13b
            have e14 : U11 100 c 5 = T 100 c 5 := up_k hU11 (by exact Nat.ne_of_beq_eq_false rfl) c 5
            rw [e14] at b13 b13b ⊢
            refine iy_i (by omega) (by omega) ?_
            refine x_nm (fun U15 hU15 => ?_)
            have e16 := up_f hU15
            intro b17 b17b
            have e18 : U15 100 c 5 = T 100 c 5 := (up_k hU15 (by exact Nat.ne_of_beq_eq_false rfl) c 5).trans (up_k hU11 (by exact Nat.ne_of_beq_eq_false rfl) c 5)
            rw [e18] at b17 b17b ⊢
            refine rg_i (by omega) ?_
            refine bd_i (by omega) ?_
            refine x_nm (fun U19 hU19 => ?_)
            have e20 := up_f hU19
            intro b21 b21b
            have e22 : U19 100 c 5 = (T 100 c 5) + 1 := up_f hU19
            rw [e22] at b21 b21b ⊢
            refine (show po_X10_enter_e T c b U19 (some (vI ((T 100 c 5) + 1))) from ?_)
            have g6 : U19 106 0 2 = T 106 0 2 := (up_k hU19 (by exact Nat.ne_of_beq_eq_false rfl) 0 _).trans ((up_k hU15 (by exact Nat.ne_of_beq_eq_false rfl) 0 _).trans (up_k hU11 (by exact Nat.ne_of_beq_eq_false rfl) 0 _))
            have g5 : ∀ d, d ≠ c → U19 100 d 5 = T 100 d 5 := fun d y => (up_g hU19 (fun w => y w.2.1)).trans ((up_k hU15 (by exact Nat.ne_of_beq_eq_false rfl) d _).trans (up_k hU11 (by exact Nat.ne_of_beq_eq_false rfl) d _))
            have g5c : U19 100 c 5 = T 100 c 5 + 1 := by omega
            have g3 : ∀ d z, ¬ (d = c ∧ z = T 100 c 5) → U19 403 d z = T 403 d z := fun d z y => (up_k hU19 (by exact Nat.ne_of_beq_eq_false rfl) d z).trans ((up_g hU15 (fun w => y ⟨w.2.1, w.2.2⟩)).trans (up_k hU11 (by exact Nat.ne_of_beq_eq_false rfl) d z))
            have g4 : ∀ d z, ¬ (d = c ∧ z = b) → U19 404 d z = T 404 d z := fun d z y => (up_k hU19 (by exact Nat.ne_of_beq_eq_false rfl) d z).trans ((up_k hU15 (by exact Nat.ne_of_beq_eq_false rfl) d z).trans (up_g hU11 (fun w => y ⟨w.2.1, w.2.2⟩)))
            have f3 : U19 403 c (T 100 c 5) = b := (up_k hU19 (by exact Nat.ne_of_beq_eq_false rfl) c _).trans (up_f hU15)
            have f4 : U19 404 c b = T 100 c 5 := (up_k hU19 (by exact Nat.ne_of_beq_eq_false rfl) c _).trans ((up_k hU15 (by exact Nat.ne_of_beq_eq_false rfl) c _).trans (up_f hU11))
            refine ⟨_, rfl, fr_u (fr_u (fr_u (fr_0 _ _) hU11 rfl) hU15 rfl) hU19 rfl, fun d a9 b9 j p9 q9 => ?_, fun d z hz0 => Classical.byCases (fun y : d = c ∧ z = b => by rw [y.1, y.2, f4]; omega) (fun y => by rw [g4 d z y]; exact hz0), Or.inr ⟨by omega, by omega, by omega, by omega, by omega, g5c, g5, g3, g4, f3, f4⟩⟩
            by_cases z : d = c
            · subst z
              by_cases y : j = T 100 d 5
              · rw [y, f3, f4]
              · have w := hke d a9 (by omega) j p9 (by omega)
                rw [g3 d j (fun t => y t.2), g4 d _ (fun t => by rw [t.2] at w; omega)]
                exact w
            · rw [g3 d j (fun t => z t.1), g4 d _ (fun t => z t.1)]
              exact hke d a9 (by omega) j p9 (by rw [← g5 d z]; exact q9)
          · refine (show po_X10_enter_e T c b T (some (vI (-4))) from ?_)
            exact ⟨_, rfl, fr_0 _ _, hke, fun _ _ h => h, Or.inl ⟨rfl, Or.inr ⟨by omega, rfl, by omega⟩⟩⟩
    · replace hx3 := hx3.resolve_left (fun z => absurd (c4.symm.trans z.1) (by decide))
      clear c4
      refine (show po_X10_enter_e T c b T (some (vI (-2))) from ?_)
      exact ⟨_, rfl, fr_0 _ _, hke, fun _ _ h => h, Or.inl ⟨rfl, Or.inl ⟨rfl, by omega⟩⟩⟩
theorem bk_X11_enter_e_0 : ck_ fX11 (some .int) cX11_enter 0 [.iload 1, .aload 0, .tableswitch 0 11 6 #[]] 5 = true := qck_r (nn_ _) (by decide +kernel)
theorem bs_X11_enter_e_0 {P : Zt → Option Zv → Prop} (K : Int → Zl → List Zv → Zt → Prop) : sx_ K P [.iload 1, .aload 0, .tableswitch 0 11 6 #[]] 5 = x_iload 1 (x_aload 0 (x_g0 111 6 0 4 (K 5))) := ((xe_iload 1).trans (congrArg (x_iload 1) ((xe_aload 0).trans (congrArg (x_aload 0) ((xe_g0 (kk := 111) rfl tl_11_6).trans (congrArg (x_g0 111 6 0 4) xe_nil))))))
theorem bk_X11_enter_e_8 : ck_ fX11 (some .int) cX11_enter 8 [.ifCond .eq 22, .iload 2, .aload 0, .tableswitch 0 11 12 #[]] 16 = true := qck_r (nn_ _) (by decide +kernel)
theorem bs_X11_enter_e_8 {P : Zt → Option Zv → Prop} (K : Int → Zl → List Zv → Zt → Prop) : sx_ K P [.ifCond .eq 22, .iload 2, .aload 0, .tableswitch 0 11 12 #[]] 16 = x_ifCond .eq 22 K (x_iload 2 (x_aload 0 (x_g0 111 12 0 12 (K 16)))) := ((xe_ifCond .eq 22).trans (congrArg (x_ifCond .eq 22 K) ((xe_iload 2).trans (congrArg (x_iload 2) ((xe_aload 0).trans (congrArg (x_aload 0) ((xe_g0 (kk := 111) rfl tl_11_12).trans (congrArg (x_g0 111 12 0 12) xe_nil))))))))
theorem bk_X11_enter_e_22 : ck_ fX11 (some .int) cX11_enter 22 [.iconst (-2), .ireturn] 25 = true := qck_r (nn_ _) (by decide +kernel)
theorem bs_X11_enter_e_22 {P : Zt → Option Zv → Prop} (K : Int → Zl → List Zv → Zt → Prop) : sx_ K P [.iconst (-2), .ireturn] 25 = x_iconst (-2) (x_ireturn P) := ((xe_iconst (-2)).trans (congrArg (x_iconst (-2)) (xe_ireturn)))
theorem bk_X11_enter_e_19 : ck_ fX11 (some .int) cX11_enter 19 [.ifCond .ne 25, .iconst (-2), .ireturn] 25 = true := qck_r (nn_ _) (by decide +kernel)
theorem bs_X11_enter_e_19 {P : Zt → Option Zv → Prop} (K : Int → Zl → List Zv → Zt → Prop) : sx_ K P [.ifCond .ne 25, .iconst (-2), .ireturn] 25 = x_ifCond .ne 25 K (x_iconst (-2) (x_ireturn P)) := ((xe_ifCond .ne 25).trans (congrArg (x_ifCond .ne 25 K) ((xe_iconst (-2)).trans (congrArg (x_iconst (-2)) (xe_ireturn)))))
theorem bk_X11_enter_e_25 : ck_ fX11 (some .int) cX11_enter 25 [.aload 0, .tableswitch 0 11 9 #[], .iload 1, .baload, .ifCond .ne 43, .aload 0, .iload 1, .iload 2] 37 = true := qck_r (nn_ _) (by decide +kernel)
theorem bs_X11_enter_e_25 {P : Zt → Option Zv → Prop} (K : Int → Zl → List Zv → Zt → Prop) : sx_ K P [.aload 0, .tableswitch 0 11 9 #[], .iload 1, .baload, .ifCond .ne 43, .aload 0, .iload 1, .iload 2] 37 = x_aload 0 (x_g1 111 209 (x_iload 1 (x_baload (x_ifCond .ne 43 K (x_aload 0 (x_iload 1 (x_iload 2 (K 37)))))))) := ((xe_aload 0).trans (congrArg (x_aload 0) ((xe_g1 (kk := 111) rfl tl_11_9).trans (congrArg (x_g1 111 209) ((xe_iload 1).trans (congrArg (x_iload 1) ((xe_baload).trans (congrArg (x_baload) ((xe_ifCond .ne 43).trans (congrArg (x_ifCond .ne 43 K) ((xe_aload 0).trans (congrArg (x_aload 0) ((xe_iload 1).trans (congrArg (x_iload 1) ((xe_iload 2).trans (congrArg (x_iload 2) xe_nil))))))))))))))))
theorem bk_X11_enter_e_43 : ck_ fX11 (some .int) cX11_enter 43 [.iconst (-4), .ireturn] 46 = true := qck_r (nn_ _) (by decide +kernel)
theorem bs_X11_enter_e_43 {P : Zt → Option Zv → Prop} (K : Int → Zl → List Zv → Zt → Prop) : sx_ K P [.iconst (-4), .ireturn] 46 = x_iconst (-4) (x_ireturn P) := ((xe_iconst (-4)).trans (congrArg (x_iconst (-4)) (xe_ireturn)))
theorem bk_X11_enter_e_40 : ck_ fX11 (some .int) cX11_enter 40 [.ifCond .eq 46, .iconst (-4), .ireturn] 46 = true := qck_r (nn_ _) (by decide +kernel)
theorem bs_X11_enter_e_40 {P : Zt → Option Zv → Prop} (K : Int → Zl → List Zv → Zt → Prop) : sx_ K P [.ifCond .eq 46, .iconst (-4), .ireturn] 46 = x_ifCond .eq 46 K (x_iconst (-4) (x_ireturn P)) := ((xe_ifCond .eq 46).trans (congrArg (x_ifCond .eq 46 K) ((xe_iconst (-4)).trans (congrArg (x_iconst (-4)) (xe_ireturn)))))
theorem bk_X11_enter_e_46 : ck_ fX11 (some .int) cX11_enter 46 [.aload 0, .tableswitch 0 11 7 #[], .iconst 12, .iload 1, .imul, .aload 0, .tableswitch 0 11 8 #[], .iload 1, .iaload, .iadd, .iload 2, .iastore, .aload 0, .tableswitch 0 11 8 #[], .iload 1, .dup2, .iaload, .iconst 1, .iadd, .iastore, .aload 0, .tableswitch 0 11 8 #[], .iload 1, .iaload, .ireturn] 80 = true := qck_r (nn_ _) (by decide +kernel)
theorem bs_X11_enter_e_46 {P : Zt → Option Zv → Prop} (K : Int → Zl → List Zv → Zt → Prop) : sx_ K P [.aload 0, .tableswitch 0 11 7 #[], .iconst 12, .iload 1, .imul, .aload 0, .tableswitch 0 11 8 #[], .iload 1, .iaload, .iadd, .iload 2, .iastore, .aload 0, .tableswitch 0 11 8 #[], .iload 1, .dup2, .iaload, .iconst 1, .iadd, .iastore, .aload 0, .tableswitch 0 11 8 #[], .iload 1, .iaload, .ireturn] 80 = x_aload 0 (x_g1 111 207 (x_iconst 12 (x_iload 1 (x_imul (x_aload 0 (x_g1 111 208 (x_iload 1 (x_iaload (x_iadd (x_iload 2 (x_iastore (x_aload 0 (x_g1 111 208 (x_iload 1 (x_dup2 (x_iaload (x_iconst 1 (x_iadd (x_iastore (x_aload 0 (x_g1 111 208 (x_iload 1 (x_iaload (x_ireturn P)))))))))))))))))))))))) := ((xe_aload 0).trans (congrArg (x_aload 0) ((xe_g1 (kk := 111) rfl tl_11_7).trans (congrArg (x_g1 111 207) ((xe_iconst 12).trans (congrArg (x_iconst 12) ((xe_iload 1).trans (congrArg (x_iload 1) ((xe_imul).trans (congrArg (x_imul) ((xe_aload 0).trans (congrArg (x_aload 0) ((xe_g1 (kk := 111) rfl tl_11_8).trans (congrArg (x_g1 111 208) ((xe_iload 1).trans (congrArg (x_iload 1) ((xe_iaload).trans (congrArg (x_iaload) ((xe_iadd).trans (congrArg (x_iadd) ((xe_iload 2).trans (congrArg (x_iload 2) ((xe_iastore).trans (congrArg (x_iastore) ((xe_aload 0).trans (congrArg (x_aload 0) ((xe_g1 (kk := 111) rfl tl_11_8).trans (congrArg (x_g1 111 208) ((xe_iload 1).trans (congrArg (x_iload 1) ((xe_dup2).trans (congrArg (x_dup2) ((xe_iaload).trans (congrArg (x_iaload) ((xe_iconst 1).trans (congrArg (x_iconst 1) ((xe_iadd).trans (congrArg (x_iadd) ((xe_iastore).trans (congrArg (x_iastore) ((xe_aload 0).trans (congrArg (x_aload 0) ((xe_g1 (kk := 111) rfl tl_11_8).trans (congrArg (x_g1 111 208) ((xe_iload 1).trans (congrArg (x_iload 1) ((xe_iaload).trans (congrArg (x_iaload) (xe_ireturn)))))))))))))))))))))))))))))))))))))))))))))))))
abbrev po_X11_enter_e (T : Zt) (c cl : Int) : Zt → Option Zv → Prop := fun T' r => ∃ x : Int, r = some (vI x) ∧ fr_ [(207, []), (208, [])] T T' ∧ (EN_ T' ∧ ER9_ T T' c cl x)
set_option maxHeartbeats 4000000 in
theorem ct_X11_enter_e {T : Zt} {c cl : Int} (hEN : EN_ T) : Ct_ yX11_enter zX11_enter T [vR 111 0, vI c, vI cl] (po_X11_enter_e T c cl) := by
  refine ct_of pn_11 rfl rfl (Nat.le_of_ble_eq_true rfl) (fun hT hav => ?_)
  have hr_c : -2147483648 ≤ c ∧ c ≤ 2147483647 := hav (vI c) (List.mem_cons_of_mem _ List.mem_cons_self)
  have hr_cl : -2147483648 ≤ cl ∧ cl ≤ 2147483647 := hav (vI cl) (List.mem_cons_of_mem _ (List.mem_cons_of_mem _ List.mem_cons_self))
  have hz : zX11_enter.2.2.2.1 = some .boolean → ∀ (T' : Zt) (x : Int), po_X11_enter_e T c cl T' (some (vI x)) → 0 ≤ x ∧ x ≤ 1 := fun h => by cases h
  show J_ zX11_enter T (po_X11_enter_e T c cl) 0 0 0 [some (vR 111 0), some (vI c), some (vI cl)] [] T
  refine j_blx (F := fX11) tb_X11 (nn_ _) bk_X11_enter_e_0 bs_X11_enter_e_0 hz (fun K hK => ?_)
  intro b1 b1b
  refine hK 5 _ [vI (T 111 0 6), vI c] T ?_
  refine j_callS (y := yX11_isOf) (Yc := zX11_isOf) (rest := []) [vI c, vI (T 111 0 6)] (ct_X11_isOf (T := T) (by omega)) cl_X11_317 (qd_c (by decide +kernel)) (nn_ _) rfl (rf_of rfl) (Nat.le_of_ble_eq_true rfl) (Nat.le_of_ble_eq_true rfl) (Nat.le_of_ble_eq_true rfl) rfl ?_
  rintro _ _ ⟨rfl, x2, rfl, hx2⟩
  show J_ zX11_enter T (po_X11_enter_e T c cl) 0 0 8 _ [vI x2] T
  refine j_blx (F := fX11) tb_X11 (nn_ _) bk_X11_enter_e_8 bs_X11_enter_e_8 hz (fun K hK => ?_)
  refine And.intro (fun c3 => ?_) (fun c3 => ?_)
  · replace hx2 := hx2.resolve_left (fun z => absurd (c3.symm.trans z.1) (by decide))
    clear c3
    refine hK 22 _ [] T ?_
    refine j_blx (F := fX11) tb_X11 (nn_ _) bk_X11_enter_e_22 bs_X11_enter_e_22 hz (fun K hK => ?_)
    refine (show po_X11_enter_e T c cl T (some (vI (-2))) from ?_)
    exact ⟨_, rfl, fr_0 _ _, hEN, Or.inl ⟨rfl, Or.inl ⟨rfl, by omega⟩⟩⟩
  · replace hx2 := hx2.resolve_right (fun z => c3 z.1)
    clear c3
    intro b4 b4b
    refine hK 16 _ [vI (T 111 0 12), vI cl] T ?_
    refine j_callS (y := yX11_isOf) (Yc := zX11_isOf) (rest := []) [vI cl, vI (T 111 0 12)] (ct_X11_isOf (T := T) (by omega)) cl_X11_317 (qd_c (by decide +kernel)) (nn_ _) rfl (rf_of rfl) (Nat.le_of_ble_eq_true rfl) (Nat.le_of_ble_eq_true rfl) (Nat.le_of_ble_eq_true rfl) rfl ?_
    rintro _ _ ⟨rfl, x5, rfl, hx5⟩
    show J_ zX11_enter T (po_X11_enter_e T c cl) 0 0 19 _ [vI x5] T
    refine j_blx (F := fX11) tb_X11 (nn_ _) bk_X11_enter_e_19 bs_X11_enter_e_19 hz (fun K hK => ?_)
    refine And.intro (fun c6 => ?_) (fun c6 => ?_)
    · refine hK 25 _ [] T ?_
      refine j_blx (F := fX11) tb_X11 (nn_ _) bk_X11_enter_e_25 bs_X11_enter_e_25 hz (fun K hK => ?_)
      refine ix_i (by omega) ?_
      intro b7 b7b
      refine And.intro (fun c8 => ?_) (fun c8 => ?_)
      · refine hK 43 _ [] T ?_
        refine j_blx (F := fX11) tb_X11 (nn_ _) bk_X11_enter_e_43 bs_X11_enter_e_43 hz (fun K hK => ?_)
        refine (show po_X11_enter_e T c cl T (some (vI (-4))) from ?_)
        refine ⟨_, rfl, fr_0 _ _, hEN, Or.inl ⟨rfl, Or.inr ⟨by omega, rfl, ?_⟩⟩⟩
        first | exact Or.inl (by omega) | exact Or.inr (hx5.resolve_right (fun z => by omega)).2
      · refine hK 37 _ [vI cl, vI c, vR 111 0] T ?_
        refine j_callV (y := yX11_hasEntered) (Yc := zX11_hasEntered) (rest := []) [vI c, vI cl] (ct_X11_hasEntered (T := T) (by omega)) cl_X11_340 (qd_c (by decide +kernel)) (nn_ _) rfl (rf_of rfl) (Nat.le_of_ble_eq_true rfl) (Nat.le_of_ble_eq_true rfl) (Nat.le_of_ble_eq_true rfl) rfl ?_
        rintro _ _ ⟨rfl, x9, rfl, hx9⟩
        show J_ zX11_enter T (po_X11_enter_e T c cl) 0 0 40 _ [vI x9] T
        refine j_blx (F := fX11) tb_X11 (nn_ _) bk_X11_enter_e_40 bs_X11_enter_e_40 hz (fun K hK => ?_)
        refine And.intro (fun c10 => ?_) (fun c10 => ?_)
        · have hno : ∀ j, 0 ≤ j → j < T 208 0 c → T 207 0 (12 * c + j) ≠ cl := by rcases hx9 with z | z; omega; exact fun j a b e9 => z.2 ⟨j, a, b, e9⟩
          have hbe : 0 ≤ T 208 0 c ∧ T 208 0 c ≤ 12 := bd_a hT 208 (by decide +kernel : ta_ 208 = some (1, some 4, 0, 12)) 0 (by omega)
          have hb_12 : 0 ≤ T 111 0 12 ∧ T 111 0 12 ≤ 12 := bd_f hT 111 12 tl_11_12 0
          have hlt : T 208 0 c + 1 ≤ T 111 0 12 := by
            refine ph_i (fun i => if i = T 208 0 c then cl else T 207 0 (12 * c + i)) (by omega) (by omega) (fun i a b => ?_) (fun i j a b d => ?_)
            · show 0 ≤ (if i = T 208 0 c then cl else T 207 0 (12 * c + i)) ∧ (if i = T 208 0 c then cl else T 207 0 (12 * c + i)) < T 111 0 12
              by_cases z : i = T 208 0 c
              · rw [if_pos z]; omega
              · rw [if_neg z]; exact (hEN c (by omega) (by omega)).1 i a (by omega)
            · show (if i = T 208 0 c then cl else T 207 0 (12 * c + i)) ≠ (if j = T 208 0 c then cl else T 207 0 (12 * c + j))
              rw [if_neg (by omega : ¬ i = T 208 0 c)]
              by_cases z : j = T 208 0 c
              · rw [if_pos z]; exact hno i a (by omega)
              · rw [if_neg z]; exact (hEN c (by omega) (by omega)).2 i j a b (by omega)
          refine hK 46 _ [] T ?_
          refine j_blx (F := fX11) tb_X11 (nn_ _) bk_X11_enter_e_46 bs_X11_enter_e_46 hz (fun K hK => ?_)
          refine rg_i (by omega) ?_
          refine ix_i (by omega) ?_
          intro b11 b11b
          refine rg_i (by omega) ?_
          refine iy_i (by omega) (by omega) ?_
          refine x_nm (fun U12 hU12 => ?_)
          have e13 := up_f hU12
          refine ix_i (by omega) ?_
          intro b14 b14b
          have e15 : U12 208 0 c = T 208 0 c := up_k hU12 (by exact Nat.ne_of_beq_eq_false rfl) 0 c
          rw [e15] at b14 b14b ⊢
          refine rg_i (by omega) ?_
          refine iy_i (by omega) (by omega) ?_
          refine x_nm (fun U16 hU16 => ?_)
          have e17 := up_f hU16
          refine ix_i (by omega) ?_
          intro b18 b18b
          have e19 : U16 208 0 c = (T 208 0 c) + 1 := up_f hU16
          rw [e19] at b18 b18b ⊢
          refine (show po_X11_enter_e T c cl U16 (some (vI ((T 208 0 c) + 1))) from ?_)
          have ed : ∀ z, z ≠ c → U16 208 0 z = T 208 0 z := fun z hz => (up_g hU16 (fun q => hz q.2.2)).trans (up_k hU12 (by exact Nat.ne_of_beq_eq_false rfl) 0 z)
          have et : ∀ z, z ≠ 12 * c + T 208 0 c → U16 207 0 z = T 207 0 z := fun z hz => (up_k hU16 (by exact Nat.ne_of_beq_eq_false rfl) 0 z).trans (up_g hU12 (fun q => hz q.2.2))
          have ee : U16 207 0 (12 * c + T 208 0 c) = cl := (up_k hU16 (by exact Nat.ne_of_beq_eq_false rfl) 0 _).trans (up_f hU12)
          have ec : U16 208 0 c = T 208 0 c + 1 := by omega
          have e12 : U16 111 0 12 = T 111 0 12 := (up_k hU16 (by exact Nat.ne_of_beq_eq_false rfl) 0 12).trans (up_k hU12 (by exact Nat.ne_of_beq_eq_false rfl) 0 12)
          refine ⟨_, rfl, fr_u (fr_u (fr_0 _ _) hU12 rfl) hU16 rfl, fun d a b => ?_, Or.inr ⟨by omega, by omega, fun ⟨j, a, b, e9⟩ => hno j a b e9, by omega, ec, ed, et, ee⟩⟩
          have hd := hEN d a b
          have bdd := bd_a hT 208 (by decide +kernel : ta_ 208 = some (1, some 4, 0, 12)) 0 a
          by_cases z : d = c
          · subst z
            rw [ec, e12]
            refine ⟨fun j p q => ?_, fun i j p q r => ?_⟩
            · by_cases y : j = T 208 0 d
              · rw [y, ee]; omega
              · rw [et _ (by omega)]; exact hd.1 j p (by omega)
            · rw [et (12 * d + i) (by omega)]
              by_cases y : j = T 208 0 d
              · rw [y, ee]; exact hno i p (by omega)
              · rw [et _ (by omega)]; exact hd.2 i j p q (by omega)
          · rw [ed d z, e12]
            refine ⟨fun j p q => ?_, fun i j p q r => ?_⟩
            · rw [et _ (by omega)]; exact hd.1 j p q
            · rw [et _ (by omega), et _ (by omega)]; exact hd.2 i j p q r
        · refine (show po_X11_enter_e T c cl T (some (vI (-4))) from ?_)
          refine ⟨_, rfl, fr_0 _ _, hEN, Or.inl ⟨rfl, Or.inr ⟨by omega, rfl, ?_⟩⟩⟩
          first | exact Or.inl (by omega) | exact Or.inr (hx9.resolve_right (fun z => by omega)).2
    · replace hx5 := hx5.resolve_left (fun z => absurd (c6.symm.trans z.1) (by decide))
      clear c6
      refine (show po_X11_enter_e T c cl T (some (vI (-2))) from ?_)
      exact ⟨_, rfl, fr_0 _ _, hEN, Or.inl ⟨rfl, Or.inl ⟨rfl, by omega⟩⟩⟩
theorem bk_X6_addDeduction_e_0 : ck_ fX6 none cX6_addDeduction 0 [.aload 0, .tableswitch 0 6 7 #[], .aload 0, .tableswitch 0 6 6 #[], .iload 1, .iastore, .aload 0, .tableswitch 0 6 8 #[], .aload 0, .tableswitch 0 6 6 #[], .iload 2, .iastore, .aload 0, .tableswitch 0 6 9 #[], .aload 0, .tableswitch 0 6 6 #[], .iload 3, .iastore, .aload 0, .tableswitch 0 6 10 #[], .aload 0, .tableswitch 0 6 6 #[], .aload 0, .tableswitch 0 6 0 #[], .tableswitch 0 8 13 #[], .iastore, .aload 0, .dup, .tableswitch 0 6 6 #[], .iconst 1, .iadd, .tableswitch 1 6 6 #[], .return_] 57 = true := qck_r (nn_ _) (by decide +kernel)
theorem bs_X6_addDeduction_e_0 {P : Zt → Option Zv → Prop} (K : Int → Zl → List Zv → Zt → Prop) : sx_ K P [.aload 0, .tableswitch 0 6 7 #[], .aload 0, .tableswitch 0 6 6 #[], .iload 1, .iastore, .aload 0, .tableswitch 0 6 8 #[], .aload 0, .tableswitch 0 6 6 #[], .iload 2, .iastore, .aload 0, .tableswitch 0 6 9 #[], .aload 0, .tableswitch 0 6 6 #[], .iload 3, .iastore, .aload 0, .tableswitch 0 6 10 #[], .aload 0, .tableswitch 0 6 6 #[], .aload 0, .tableswitch 0 6 0 #[], .tableswitch 0 8 13 #[], .iastore, .aload 0, .dup, .tableswitch 0 6 6 #[], .iconst 1, .iadd, .tableswitch 1 6 6 #[], .return_] 57 = x_aload 0 (x_g1 106 527 (x_aload 0 (x_g0 106 6 0 50 (x_iload 1 (x_iastore (x_aload 0 (x_g1 106 528 (x_aload 0 (x_g0 106 6 0 50 (x_iload 2 (x_iastore (x_aload 0 (x_g1 106 529 (x_aload 0 (x_g0 106 6 0 50 (x_iload 3 (x_iastore (x_aload 0 (x_g1 106 530 (x_aload 0 (x_g0 106 6 0 50 (x_aload 0 (x_g1 106 108 (x_g0 108 13 0 999 (x_iastore (x_aload 0 (x_dup (x_g0 106 6 0 50 (x_iconst 1 (x_iadd (x_p 106 6 0 50 (x_return_ P)))))))))))))))))))))))))))))))) := ((xe_aload 0).trans (congrArg (x_aload 0) ((xe_g1 (kk := 106) rfl tl_6_7).trans (congrArg (x_g1 106 527) ((xe_aload 0).trans (congrArg (x_aload 0) ((xe_g0 (kk := 106) rfl tl_6_6).trans (congrArg (x_g0 106 6 0 50) ((xe_iload 1).trans (congrArg (x_iload 1) ((xe_iastore).trans (congrArg (x_iastore) ((xe_aload 0).trans (congrArg (x_aload 0) ((xe_g1 (kk := 106) rfl tl_6_8).trans (congrArg (x_g1 106 528) ((xe_aload 0).trans (congrArg (x_aload 0) ((xe_g0 (kk := 106) rfl tl_6_6).trans (congrArg (x_g0 106 6 0 50) ((xe_iload 2).trans (congrArg (x_iload 2) ((xe_iastore).trans (congrArg (x_iastore) ((xe_aload 0).trans (congrArg (x_aload 0) ((xe_g1 (kk := 106) rfl tl_6_9).trans (congrArg (x_g1 106 529) ((xe_aload 0).trans (congrArg (x_aload 0) ((xe_g0 (kk := 106) rfl tl_6_6).trans (congrArg (x_g0 106 6 0 50) ((xe_iload 3).trans (congrArg (x_iload 3) ((xe_iastore).trans (congrArg (x_iastore) ((xe_aload 0).trans (congrArg (x_aload 0) ((xe_g1 (kk := 106) rfl tl_6_10).trans (congrArg (x_g1 106 530) ((xe_aload 0).trans (congrArg (x_aload 0) ((xe_g0 (kk := 106) rfl tl_6_6).trans (congrArg (x_g0 106 6 0 50) ((xe_aload 0).trans (congrArg (x_aload 0) ((xe_g1 (kk := 106) rfl tl_6_0).trans (congrArg (x_g1 106 108) ((xe_g0 (kk := 108) rfl tl_8_13).trans (congrArg (x_g0 108 13 0 999) ((xe_iastore).trans (congrArg (x_iastore) ((xe_aload 0).trans (congrArg (x_aload 0) ((xe_dup).trans (congrArg (x_dup) ((xe_g0 (kk := 106) rfl tl_6_6).trans (congrArg (x_g0 106 6 0 50) ((xe_iconst 1).trans (congrArg (x_iconst 1) ((xe_iadd).trans (congrArg (x_iadd) ((xe_p (kk := 106) rfl tl_6_6).trans (congrArg (x_p 106 6 0 50) (xe_return_)))))))))))))))))))))))))))))))))))))))))))))))))))))))))))))))))
abbrev po_X6_addDeduction_e (T : Zt) (c cl p : Int) : Zt → Option Zv → Prop := fun T' r => r = none ∧ fr_ [(106, [6]), (527, []), (528, []), (529, []), (530, [])] T T' ∧ (T' 106 0 6 = T 106 0 6 + 1 ∧ DP9_ 527 528 529 530 T T' (T 106 0 6) c cl p (T 108 0 13))
set_option maxHeartbeats 4000000 in
theorem ct_X6_addDeduction_e {T : Zt} {c cl p : Int} (h1 : 0 ≤ c ∧ c < 4) (h2 : 0 ≤ cl ∧ cl < 12) (h3 : 0 ≤ p ∧ p ≤ 99) (h4 : T 106 0 6 < 50) : Ct_ yX6_addDeduction zX6_addDeduction T [vR 106 0, vI c, vI cl, vI p] (po_X6_addDeduction_e T c cl p) := by
  refine ct_of pn_6 rfl rfl (Nat.le_of_ble_eq_true rfl) (fun hT hav => ?_)
  have hr_c : -2147483648 ≤ c ∧ c ≤ 2147483647 := hav (vI c) (List.mem_cons_of_mem _ List.mem_cons_self)
  have hr_cl : -2147483648 ≤ cl ∧ cl ≤ 2147483647 := hav (vI cl) (List.mem_cons_of_mem _ (List.mem_cons_of_mem _ List.mem_cons_self))
  have hr_p : -2147483648 ≤ p ∧ p ≤ 2147483647 := hav (vI p) (List.mem_cons_of_mem _ (List.mem_cons_of_mem _ (List.mem_cons_of_mem _ List.mem_cons_self)))
  have hz : zX6_addDeduction.2.2.2.1 = some .boolean → ∀ (T' : Zt) (x : Int), po_X6_addDeduction_e T c cl p T' (some (vI x)) → 0 ≤ x ∧ x ≤ 1 := fun h => by cases h
  have hb_deductions : 0 ≤ T 106 0 6 ∧ T 106 0 6 ≤ 50 := bd_f hT 106 6 tl_6_6 0
  show J_ zX6_addDeduction T (po_X6_addDeduction_e T c cl p) 0 0 0 [some (vR 106 0), some (vI c), some (vI cl), some (vI p)] [] T
  refine j_blx (F := fX6) tb_X6 (nn_ _) bk_X6_addDeduction_e_0 bs_X6_addDeduction_e_0 hz (fun K hK => ?_)
  intro b1 b1b
  refine iy_i (by omega) (by omega) ?_
  refine x_nm (fun U2 hU2 => ?_)
  have e3 := up_f hU2
  intro b4 b4b
  have e5 : U2 106 0 6 = T 106 0 6 := up_k hU2 (by exact Nat.ne_of_beq_eq_false rfl) 0 6
  rw [e5] at b4 b4b ⊢
  refine iy_i (by omega) (by omega) ?_
  refine x_nm (fun U6 hU6 => ?_)
  have e7 := up_f hU6
  intro b8 b8b
  have e9 : U6 106 0 6 = T 106 0 6 := (up_k hU6 (by exact Nat.ne_of_beq_eq_false rfl) 0 6).trans (up_k hU2 (by exact Nat.ne_of_beq_eq_false rfl) 0 6)
  rw [e9] at b8 b8b ⊢
  refine iy_i (by omega) (by omega) ?_
  refine x_nm (fun U10 hU10 => ?_)
  have e11 := up_f hU10
  intro b12 b12b
  have e13 : U10 106 0 6 = T 106 0 6 := (up_k hU10 (by exact Nat.ne_of_beq_eq_false rfl) 0 6).trans ((up_k hU6 (by exact Nat.ne_of_beq_eq_false rfl) 0 6).trans (up_k hU2 (by exact Nat.ne_of_beq_eq_false rfl) 0 6))
  rw [e13] at b12 b12b ⊢
  intro b14 b14b
  have e15 : U10 108 0 13 = T 108 0 13 := (up_k hU10 (by exact Nat.ne_of_beq_eq_false rfl) 0 13).trans ((up_k hU6 (by exact Nat.ne_of_beq_eq_false rfl) 0 13).trans (up_k hU2 (by exact Nat.ne_of_beq_eq_false rfl) 0 13))
  rw [e15] at b14 b14b ⊢
  refine iy_i (by omega) (by omega) ?_
  refine x_nm (fun U16 hU16 => ?_)
  have e17 := up_f hU16
  intro b18 b18b
  have e19 : U16 106 0 6 = T 106 0 6 := (up_k hU16 (by exact Nat.ne_of_beq_eq_false rfl) 0 6).trans ((up_k hU10 (by exact Nat.ne_of_beq_eq_false rfl) 0 6).trans ((up_k hU6 (by exact Nat.ne_of_beq_eq_false rfl) 0 6).trans (up_k hU2 (by exact Nat.ne_of_beq_eq_false rfl) 0 6)))
  rw [e19] at b18 b18b ⊢
  refine rg_i (by omega) ?_
  refine bd_i (by omega) ?_
  refine x_nm (fun U20 hU20 => ?_)
  have e21 := up_f hU20
  refine (show po_X6_addDeduction_e T c cl p U20 (none) from ?_)
  have e22 : U20 106 0 6 = (T 106 0 6) + 1 := up_f hU20
  exact ⟨rfl, fr_u (fr_u (fr_u (fr_u (fr_u (fr_0 _ _) hU2 rfl) hU6 rfl) hU10 rfl) hU16 rfl) hU20 rfl, by omega, ⟨(up_k hU20 (by exact Nat.ne_of_beq_eq_false rfl) 0 _).trans ((up_k hU16 (by exact Nat.ne_of_beq_eq_false rfl) 0 _).trans ((up_k hU10 (by exact Nat.ne_of_beq_eq_false rfl) 0 _).trans ((up_k hU6 (by exact Nat.ne_of_beq_eq_false rfl) 0 _).trans (up_f hU2)))), fun j hj => (up_k hU20 (by exact Nat.ne_of_beq_eq_false rfl) 0 j).trans ((up_k hU16 (by exact Nat.ne_of_beq_eq_false rfl) 0 j).trans ((up_k hU10 (by exact Nat.ne_of_beq_eq_false rfl) 0 j).trans ((up_k hU6 (by exact Nat.ne_of_beq_eq_false rfl) 0 j).trans (up_g hU2 (fun z => hj z.2.2)))))⟩, ⟨(up_k hU20 (by exact Nat.ne_of_beq_eq_false rfl) 0 _).trans ((up_k hU16 (by exact Nat.ne_of_beq_eq_false rfl) 0 _).trans ((up_k hU10 (by exact Nat.ne_of_beq_eq_false rfl) 0 _).trans (up_f hU6))), fun j hj => (up_k hU20 (by exact Nat.ne_of_beq_eq_false rfl) 0 j).trans ((up_k hU16 (by exact Nat.ne_of_beq_eq_false rfl) 0 j).trans ((up_k hU10 (by exact Nat.ne_of_beq_eq_false rfl) 0 j).trans ((up_g hU6 (fun z => hj z.2.2)).trans (up_k hU2 (by exact Nat.ne_of_beq_eq_false rfl) 0 j))))⟩, ⟨(up_k hU20 (by exact Nat.ne_of_beq_eq_false rfl) 0 _).trans ((up_k hU16 (by exact Nat.ne_of_beq_eq_false rfl) 0 _).trans (up_f hU10)), fun j hj => (up_k hU20 (by exact Nat.ne_of_beq_eq_false rfl) 0 j).trans ((up_k hU16 (by exact Nat.ne_of_beq_eq_false rfl) 0 j).trans ((up_g hU10 (fun z => hj z.2.2)).trans ((up_k hU6 (by exact Nat.ne_of_beq_eq_false rfl) 0 j).trans (up_k hU2 (by exact Nat.ne_of_beq_eq_false rfl) 0 j))))⟩, ⟨(up_k hU20 (by exact Nat.ne_of_beq_eq_false rfl) 0 _).trans (up_f hU16), fun j hj => (up_k hU20 (by exact Nat.ne_of_beq_eq_false rfl) 0 j).trans ((up_g hU16 (fun z => hj z.2.2)).trans ((up_k hU10 (by exact Nat.ne_of_beq_eq_false rfl) 0 j).trans ((up_k hU6 (by exact Nat.ne_of_beq_eq_false rfl) 0 j).trans (up_k hU2 (by exact Nat.ne_of_beq_eq_false rfl) 0 j))))⟩⟩
theorem bk_X10_deduct_e_0 : ck_ fX10 (some .int) cX10_deduct 0 [.aload 0, .iload 1] 2 = true := qck_r (nn_ _) (by decide +kernel)
theorem bs_X10_deduct_e_0 {P : Zt → Option Zv → Prop} (K : Int → Zl → List Zv → Zt → Prop) : sx_ K P [.aload 0, .iload 1] 2 = x_aload 0 (x_iload 1 (K 2)) := ((xe_aload 0).trans (congrArg (x_aload 0) ((xe_iload 1).trans (congrArg (x_iload 1) xe_nil))))
theorem bk_X10_deduct_e_5 : ck_ fX10 (some .int) cX10_deduct 5 [.ifCond .eq 16, .aload 0, .iload 2] 10 = true := qck_r (nn_ _) (by decide +kernel)
theorem bs_X10_deduct_e_5 {P : Zt → Option Zv → Prop} (K : Int → Zl → List Zv → Zt → Prop) : sx_ K P [.ifCond .eq 16, .aload 0, .iload 2] 10 = x_ifCond .eq 16 K (x_aload 0 (x_iload 2 (K 10))) := ((xe_ifCond .eq 16).trans (congrArg (x_ifCond .eq 16 K) ((xe_aload 0).trans (congrArg (x_aload 0) ((xe_iload 2).trans (congrArg (x_iload 2) xe_nil))))))
theorem bk_X10_deduct_e_16 : ck_ fX10 (some .int) cX10_deduct 16 [.iconst (-2), .ireturn] 19 = true := qck_r (nn_ _) (by decide +kernel)
theorem bs_X10_deduct_e_16 {P : Zt → Option Zv → Prop} (K : Int → Zl → List Zv → Zt → Prop) : sx_ K P [.iconst (-2), .ireturn] 19 = x_iconst (-2) (x_ireturn P) := ((xe_iconst (-2)).trans (congrArg (x_iconst (-2)) (xe_ireturn)))
theorem bk_X10_deduct_e_13 : ck_ fX10 (some .int) cX10_deduct 13 [.ifCond .ne 19, .iconst (-2), .ireturn] 19 = true := qck_r (nn_ _) (by decide +kernel)
theorem bs_X10_deduct_e_13 {P : Zt → Option Zv → Prop} (K : Int → Zl → List Zv → Zt → Prop) : sx_ K P [.ifCond .ne 19, .iconst (-2), .ireturn] 19 = x_ifCond .ne 19 K (x_iconst (-2) (x_ireturn P)) := ((xe_ifCond .ne 19).trans (congrArg (x_ifCond .ne 19 K) ((xe_iconst (-2)).trans (congrArg (x_iconst (-2)) (xe_ireturn)))))
theorem bk_X10_deduct_e_19 : ck_ fX10 (some .int) cX10_deduct 19 [.iload 3, .iconst 1, .if_icmp .lt 30, .iload 3, .iconst 99, .if_icmp .le 33, .iconst (-3), .ireturn] 33 = true := qck_r (nn_ _) (by decide +kernel)
theorem bs_X10_deduct_e_19 {P : Zt → Option Zv → Prop} (K : Int → Zl → List Zv → Zt → Prop) : sx_ K P [.iload 3, .iconst 1, .if_icmp .lt 30, .iload 3, .iconst 99, .if_icmp .le 33, .iconst (-3), .ireturn] 33 = x_iload 3 (x_iconst 1 (x_if_icmp .lt 30 K (x_iload 3 (x_iconst 99 (x_if_icmp .le 33 K (x_iconst (-3) (x_ireturn P))))))) := ((xe_iload 3).trans (congrArg (x_iload 3) ((xe_iconst 1).trans (congrArg (x_iconst 1) ((xe_if_icmp .lt 30).trans (congrArg (x_if_icmp .lt 30 K) ((xe_iload 3).trans (congrArg (x_iload 3) ((xe_iconst 99).trans (congrArg (x_iconst 99) ((xe_if_icmp .le 33).trans (congrArg (x_if_icmp .le 33 K) ((xe_iconst (-3)).trans (congrArg (x_iconst (-3)) (xe_ireturn)))))))))))))))
theorem bk_X10_deduct_e_30 : ck_ fX10 (some .int) cX10_deduct 30 [.iconst (-3), .ireturn] 33 = true := qck_r (nn_ _) (by decide +kernel)
theorem bs_X10_deduct_e_30 {P : Zt → Option Zv → Prop} (K : Int → Zl → List Zv → Zt → Prop) : sx_ K P [.iconst (-3), .ireturn] 33 = x_iconst (-3) (x_ireturn P) := ((xe_iconst (-3)).trans (congrArg (x_iconst (-3)) (xe_ireturn)))
theorem bk_X10_deduct_e_33 : ck_ fX10 (some .int) cX10_deduct 33 [.aload 0, .tableswitch 0 10 2 #[], .tableswitch 0 6 1 #[], .iload 1, .aaload, .tableswitch 0 0 4 #[], .iload 2, .iaload, .iconst (-1), .if_icmp .ne 54, .iconst (-4), .ireturn] 54 = true := qck_r (nn_ _) (by decide +kernel)
theorem bs_X10_deduct_e_33 {P : Zt → Option Zv → Prop} (K : Int → Zl → List Zv → Zt → Prop) : sx_ K P [.aload 0, .tableswitch 0 10 2 #[], .tableswitch 0 6 1 #[], .iload 1, .aaload, .tableswitch 0 0 4 #[], .iload 2, .iaload, .iconst (-1), .if_icmp .ne 54, .iconst (-4), .ireturn] 54 = x_aload 0 (x_g1 110 106 (x_g1 106 521 (x_iload 1 (x_aaload (x_g2 100 404 (x_iload 2 (x_iaload (x_iconst (-1) (x_if_icmp .ne 54 K (x_iconst (-4) (x_ireturn P))))))))))) := ((xe_aload 0).trans (congrArg (x_aload 0) ((xe_g1 (kk := 110) rfl tl_10_2).trans (congrArg (x_g1 110 106) ((xe_g1 (kk := 106) rfl tl_6_1).trans (congrArg (x_g1 106 521) ((xe_iload 1).trans (congrArg (x_iload 1) ((xe_aaload).trans (congrArg (x_aaload) ((xe_g2 (kk := 100) rfl tl_0_4).trans (congrArg (x_g2 100 404) ((xe_iload 2).trans (congrArg (x_iload 2) ((xe_iaload).trans (congrArg (x_iaload) ((xe_iconst (-1)).trans (congrArg (x_iconst (-1)) ((xe_if_icmp .ne 54).trans (congrArg (x_if_icmp .ne 54 K) ((xe_iconst (-4)).trans (congrArg (x_iconst (-4)) (xe_ireturn)))))))))))))))))))))))
theorem bk_X10_deduct_e_54 : ck_ fX10 (some .int) cX10_deduct 54 [.aload 0, .tableswitch 0 10 2 #[], .tableswitch 0 6 6 #[], .iconst 50, .if_icmp .lt 69, .iconst (-5), .ireturn] 69 = true := qck_r (nn_ _) (by decide +kernel)
theorem bs_X10_deduct_e_54 {P : Zt → Option Zv → Prop} (K : Int → Zl → List Zv → Zt → Prop) : sx_ K P [.aload 0, .tableswitch 0 10 2 #[], .tableswitch 0 6 6 #[], .iconst 50, .if_icmp .lt 69, .iconst (-5), .ireturn] 69 = x_aload 0 (x_g1 110 106 (x_g0 106 6 0 50 (x_iconst 50 (x_if_icmp .lt 69 K (x_iconst (-5) (x_ireturn P)))))) := ((xe_aload 0).trans (congrArg (x_aload 0) ((xe_g1 (kk := 110) rfl tl_10_2).trans (congrArg (x_g1 110 106) ((xe_g0 (kk := 106) rfl tl_6_6).trans (congrArg (x_g0 106 6 0 50) ((xe_iconst 50).trans (congrArg (x_iconst 50) ((xe_if_icmp .lt 69).trans (congrArg (x_if_icmp .lt 69 K) ((xe_iconst (-5)).trans (congrArg (x_iconst (-5)) (xe_ireturn)))))))))))))
theorem bk_X10_deduct_e_69 : ck_ fX10 (some .int) cX10_deduct 69 [.aload 0, .tableswitch 0 10 2 #[], .iload 1, .iload 2, .iload 3] 76 = true := qck_r (nn_ _) (by decide +kernel)
theorem bs_X10_deduct_e_69 {P : Zt → Option Zv → Prop} (K : Int → Zl → List Zv → Zt → Prop) : sx_ K P [.aload 0, .tableswitch 0 10 2 #[], .iload 1, .iload 2, .iload 3] 76 = x_aload 0 (x_g1 110 106 (x_iload 1 (x_iload 2 (x_iload 3 (K 76))))) := ((xe_aload 0).trans (congrArg (x_aload 0) ((xe_g1 (kk := 110) rfl tl_10_2).trans (congrArg (x_g1 110 106) ((xe_iload 1).trans (congrArg (x_iload 1) ((xe_iload 2).trans (congrArg (x_iload 2) ((xe_iload 3).trans (congrArg (x_iload 3) xe_nil))))))))))
theorem bk_X10_deduct_e_79 : ck_ fX10 (some .int) cX10_deduct 79 [.aload 0, .tableswitch 0 10 2 #[], .tableswitch 0 6 6 #[], .ireturn] 87 = true := qck_r (nn_ _) (by decide +kernel)
theorem bs_X10_deduct_e_79 {P : Zt → Option Zv → Prop} (K : Int → Zl → List Zv → Zt → Prop) : sx_ K P [.aload 0, .tableswitch 0 10 2 #[], .tableswitch 0 6 6 #[], .ireturn] 87 = x_aload 0 (x_g1 110 106 (x_g0 106 6 0 50 (x_ireturn P))) := ((xe_aload 0).trans (congrArg (x_aload 0) ((xe_g1 (kk := 110) rfl tl_10_2).trans (congrArg (x_g1 110 106) ((xe_g0 (kk := 106) rfl tl_6_6).trans (congrArg (x_g0 106 6 0 50) (xe_ireturn)))))))
abbrev po_X10_deduct_e (T : Zt) (c cl p : Int) : Zt → Option Zv → Prop := fun T' r => ∃ x : Int, r = some (vI x) ∧ fr_ [(106, [6]), (527, []), (528, []), (529, []), (530, [])] T T' ∧ (DH9_ T T' c cl p x)
set_option maxHeartbeats 4000000 in
theorem ct_X10_deduct_e {T : Zt} {c cl p : Int} (hka : KA_ T) : Ct_ yX10_deduct zX10_deduct T [vR 110 0, vI c, vI cl, vI p] (po_X10_deduct_e T c cl p) := by
  refine ct_of pn_10 rfl rfl (Nat.le_of_ble_eq_true rfl) (fun hT hav => ?_)
  have hr_c : -2147483648 ≤ c ∧ c ≤ 2147483647 := hav (vI c) (List.mem_cons_of_mem _ List.mem_cons_self)
  have hr_cl : -2147483648 ≤ cl ∧ cl ≤ 2147483647 := hav (vI cl) (List.mem_cons_of_mem _ (List.mem_cons_of_mem _ List.mem_cons_self))
  have hr_p : -2147483648 ≤ p ∧ p ≤ 2147483647 := hav (vI p) (List.mem_cons_of_mem _ (List.mem_cons_of_mem _ (List.mem_cons_of_mem _ List.mem_cons_self)))
  have hz : zX10_deduct.2.2.2.1 = some .boolean → ∀ (T' : Zt) (x : Int), po_X10_deduct_e T c cl p T' (some (vI x)) → 0 ≤ x ∧ x ≤ 1 := fun h => by cases h
  have hb_competitionCount : 0 ≤ T 106 0 2 ∧ T 106 0 2 ≤ 4 := bd_f hT 106 2 tl_6_2 0
  have hb_clubs : 0 ≤ T 108 0 2 ∧ T 108 0 2 ≤ 12 := bd_f hT 108 2 tl_8_2 0
  have hb_deductions : 0 ≤ T 106 0 6 ∧ T 106 0 6 ≤ 50 := bd_f hT 106 6 tl_6_6 0
  show J_ zX10_deduct T (po_X10_deduct_e T c cl p) 0 0 0 [some (vR 110 0), some (vI c), some (vI cl), some (vI p)] [] T
  refine j_blx (F := fX10) tb_X10 (nn_ _) bk_X10_deduct_e_0 bs_X10_deduct_e_0 hz (fun K hK => ?_)
  refine hK 2 _ [vI c, vR 110 0] T ?_
  refine j_callV (y := yX10_isCompetition) (Yc := zX10_isCompetition) (rest := []) [vI c] (ct_X10_isCompetition (T := T)) cl_X10_107 (qd_c (by decide +kernel)) (nn_ _) rfl (rf_of rfl) (Nat.le_of_ble_eq_true rfl) (Nat.le_of_ble_eq_true rfl) (Nat.le_of_ble_eq_true rfl) rfl ?_
  rintro _ _ ⟨rfl, x1, rfl, hx1⟩
  show J_ zX10_deduct T (po_X10_deduct_e T c cl p) 0 0 5 _ [vI x1] T
  refine j_blx (F := fX10) tb_X10 (nn_ _) bk_X10_deduct_e_5 bs_X10_deduct_e_5 hz (fun K hK => ?_)
  refine And.intro (fun c2 => ?_) (fun c2 => ?_)
  · replace hx1 := hx1.resolve_left (fun z => absurd (c2.symm.trans z.1) (by decide))
    clear c2
    refine hK 16 _ [] T ?_
    refine j_blx (F := fX10) tb_X10 (nn_ _) bk_X10_deduct_e_16 bs_X10_deduct_e_16 hz (fun K hK => ?_)
    refine (show po_X10_deduct_e T c cl p T (some (vI (-2))) from ?_)
    exact ⟨_, rfl, fr_0 _ _, Or.inl ⟨rfl, Or.inl ⟨rfl, by omega⟩⟩⟩
  · replace hx1 := hx1.resolve_right (fun z => c2 z.1)
    clear c2
    refine hK 10 _ [vI cl, vR 110 0] T ?_
    refine j_callV (y := yX10_isClub) (Yc := zX10_isClub) (rest := []) [vI cl] (ct_X10_isClub (T := T)) cl_X10_137 (qd_c (by decide +kernel)) (nn_ _) rfl (rf_of rfl) (Nat.le_of_ble_eq_true rfl) (Nat.le_of_ble_eq_true rfl) (Nat.le_of_ble_eq_true rfl) rfl ?_
    rintro _ _ ⟨rfl, x3, rfl, hx3⟩
    show J_ zX10_deduct T (po_X10_deduct_e T c cl p) 0 0 13 _ [vI x3] T
    refine j_blx (F := fX10) tb_X10 (nn_ _) bk_X10_deduct_e_13 bs_X10_deduct_e_13 hz (fun K hK => ?_)
    refine And.intro (fun c4 => ?_) (fun c4 => ?_)
    · replace hx3 := hx3.resolve_right (fun z => c4 z.1)
      clear c4
      refine hK 19 _ [] T ?_
      refine j_blx (F := fX10) tb_X10 (nn_ _) bk_X10_deduct_e_19 bs_X10_deduct_e_19 hz (fun K hK => ?_)
      refine And.intro (fun c5 => ?_) (fun c5 => ?_)
      · refine hK 30 _ [] T ?_
        refine j_blx (F := fX10) tb_X10 (nn_ _) bk_X10_deduct_e_30 bs_X10_deduct_e_30 hz (fun K hK => ?_)
        refine (show po_X10_deduct_e T c cl p T (some (vI (-3))) from ?_)
        exact ⟨_, rfl, fr_0 _ _, Or.inl ⟨rfl, Or.inr ⟨by omega, Or.inl ⟨rfl, by omega⟩⟩⟩⟩
      · refine And.intro (fun c6 => ?_) (fun c6 => ?_)
        · refine hK 33 _ [] T ?_
          refine j_blx (F := fX10) tb_X10 (nn_ _) bk_X10_deduct_e_33 bs_X10_deduct_e_33 hz (fun K hK => ?_)
          refine ix_i (by omega) ?_
          refine And.intro (fun c7 => ?_) (fun c7 => ?_)
          · exact absurd c7 (hka.1 c (by omega) (by omega))
          · refine ix_i (by omega) ?_
            intro b8 b8b
            refine And.intro (fun c9 => ?_) (fun c9 => ?_)
            · refine hK 54 _ [] T ?_
              refine j_blx (F := fX10) tb_X10 (nn_ _) bk_X10_deduct_e_54 bs_X10_deduct_e_54 hz (fun K hK => ?_)
              intro b10 b10b
              refine And.intro (fun c11 => ?_) (fun c11 => ?_)
              · refine hK 69 _ [] T ?_
                refine j_blx (F := fX10) tb_X10 (nn_ _) bk_X10_deduct_e_69 bs_X10_deduct_e_69 hz (fun K hK => ?_)
                refine hK 76 _ [vI p, vI cl, vI c, vR 106 0] T ?_
                refine j_callV (y := yX6_addDeduction) (Yc := zX6_addDeduction) (rest := []) [vI c, vI cl, vI p] (ct_X6_addDeduction_e (T := T) (by omega) (by omega) (by omega) (by omega)) cl_X10_247 (qd_c (by decide +kernel)) (nn_ _) rfl (rf_of rfl) (Nat.le_of_ble_eq_true rfl) (Nat.le_of_ble_eq_true rfl) (Nat.le_of_ble_eq_true rfl) rfl ?_
                rintro U12 _ ⟨rfl, fU12, ⟨qU12n, qU12d⟩⟩
                show J_ zX10_deduct T (po_X10_deduct_e T c cl p) 0 0 79 _ [] U12
                refine j_blx (F := fX10) tb_X10 (nn_ _) bk_X10_deduct_e_79 bs_X10_deduct_e_79 hz (fun K hK => ?_)
                intro b13 b13b
                refine (show po_X10_deduct_e T c cl p U12 (some (vI (U12 106 0 6))) from ?_)
                exact ⟨_, rfl, fr_t (fr_0 _ _) (fr_s fU12 rfl), Or.inr ⟨by omega, by omega, by omega, by omega, by omega, by omega, qU12d⟩⟩
              · refine (show po_X10_deduct_e T c cl p T (some (vI (-5))) from ?_)
                exact ⟨_, rfl, fr_0 _ _, Or.inl ⟨rfl, Or.inr ⟨by omega, Or.inr ⟨by omega, Or.inr ⟨by omega, rfl, by omega⟩⟩⟩⟩⟩
            · refine (show po_X10_deduct_e T c cl p T (some (vI (-4))) from ?_)
              exact ⟨_, rfl, fr_0 _ _, Or.inl ⟨rfl, Or.inr ⟨by omega, Or.inr ⟨by omega, Or.inl ⟨rfl, by omega⟩⟩⟩⟩⟩
        · refine (show po_X10_deduct_e T c cl p T (some (vI (-3))) from ?_)
          exact ⟨_, rfl, fr_0 _ _, Or.inl ⟨rfl, Or.inr ⟨by omega, Or.inl ⟨rfl, by omega⟩⟩⟩⟩
    · replace hx3 := hx3.resolve_left (fun z => absurd (c4.symm.trans z.1) (by decide))
      clear c4
      refine (show po_X10_deduct_e T c cl p T (some (vI (-2))) from ?_)
      exact ⟨_, rfl, fr_0 _ _, Or.inl ⟨rfl, Or.inl ⟨rfl, by omega⟩⟩⟩
theorem bk_X11_deduct_e_0 : ck_ fX11 (some .int) cX11_deduct 0 [.iload 1, .aload 0, .tableswitch 0 11 6 #[]] 5 = true := qck_r (nn_ _) (by decide +kernel)
theorem bs_X11_deduct_e_0 {P : Zt → Option Zv → Prop} (K : Int → Zl → List Zv → Zt → Prop) : sx_ K P [.iload 1, .aload 0, .tableswitch 0 11 6 #[]] 5 = x_iload 1 (x_aload 0 (x_g0 111 6 0 4 (K 5))) := ((xe_iload 1).trans (congrArg (x_iload 1) ((xe_aload 0).trans (congrArg (x_aload 0) ((xe_g0 (kk := 111) rfl tl_11_6).trans (congrArg (x_g0 111 6 0 4) xe_nil))))))
theorem bk_X11_deduct_e_8 : ck_ fX11 (some .int) cX11_deduct 8 [.ifCond .eq 22, .iload 2, .aload 0, .tableswitch 0 11 12 #[]] 16 = true := qck_r (nn_ _) (by decide +kernel)
theorem bs_X11_deduct_e_8 {P : Zt → Option Zv → Prop} (K : Int → Zl → List Zv → Zt → Prop) : sx_ K P [.ifCond .eq 22, .iload 2, .aload 0, .tableswitch 0 11 12 #[]] 16 = x_ifCond .eq 22 K (x_iload 2 (x_aload 0 (x_g0 111 12 0 12 (K 16)))) := ((xe_ifCond .eq 22).trans (congrArg (x_ifCond .eq 22 K) ((xe_iload 2).trans (congrArg (x_iload 2) ((xe_aload 0).trans (congrArg (x_aload 0) ((xe_g0 (kk := 111) rfl tl_11_12).trans (congrArg (x_g0 111 12 0 12) xe_nil))))))))
theorem bk_X11_deduct_e_22 : ck_ fX11 (some .int) cX11_deduct 22 [.iconst (-2), .ireturn] 25 = true := qck_r (nn_ _) (by decide +kernel)
theorem bs_X11_deduct_e_22 {P : Zt → Option Zv → Prop} (K : Int → Zl → List Zv → Zt → Prop) : sx_ K P [.iconst (-2), .ireturn] 25 = x_iconst (-2) (x_ireturn P) := ((xe_iconst (-2)).trans (congrArg (x_iconst (-2)) (xe_ireturn)))
theorem bk_X11_deduct_e_19 : ck_ fX11 (some .int) cX11_deduct 19 [.ifCond .ne 25, .iconst (-2), .ireturn] 25 = true := qck_r (nn_ _) (by decide +kernel)
theorem bs_X11_deduct_e_19 {P : Zt → Option Zv → Prop} (K : Int → Zl → List Zv → Zt → Prop) : sx_ K P [.ifCond .ne 25, .iconst (-2), .ireturn] 25 = x_ifCond .ne 25 K (x_iconst (-2) (x_ireturn P)) := ((xe_ifCond .ne 25).trans (congrArg (x_ifCond .ne 25 K) ((xe_iconst (-2)).trans (congrArg (x_iconst (-2)) (xe_ireturn)))))
theorem bk_X11_deduct_e_25 : ck_ fX11 (some .int) cX11_deduct 25 [.iload 3, .iconst 1, .iconst 99] 29 = true := qck_r (nn_ _) (by decide +kernel)
theorem bs_X11_deduct_e_25 {P : Zt → Option Zv → Prop} (K : Int → Zl → List Zv → Zt → Prop) : sx_ K P [.iload 3, .iconst 1, .iconst 99] 29 = x_iload 3 (x_iconst 1 (x_iconst 99 (K 29))) := ((xe_iload 3).trans (congrArg (x_iload 3) ((xe_iconst 1).trans (congrArg (x_iconst 1) ((xe_iconst 99).trans (congrArg (x_iconst 99) xe_nil))))))
theorem bk_X11_deduct_e_32 : ck_ fX11 (some .int) cX11_deduct 32 [.ifCond .ne 38, .iconst (-3), .ireturn] 38 = true := qck_r (nn_ _) (by decide +kernel)
theorem bs_X11_deduct_e_32 {P : Zt → Option Zv → Prop} (K : Int → Zl → List Zv → Zt → Prop) : sx_ K P [.ifCond .ne 38, .iconst (-3), .ireturn] 38 = x_ifCond .ne 38 K (x_iconst (-3) (x_ireturn P)) := ((xe_ifCond .ne 38).trans (congrArg (x_ifCond .ne 38 K) ((xe_iconst (-3)).trans (congrArg (x_iconst (-3)) (xe_ireturn)))))
theorem bk_X11_deduct_e_38 : ck_ fX11 (some .int) cX11_deduct 38 [.aload 0, .iload 1, .iload 2] 41 = true := qck_r (nn_ _) (by decide +kernel)
theorem bs_X11_deduct_e_38 {P : Zt → Option Zv → Prop} (K : Int → Zl → List Zv → Zt → Prop) : sx_ K P [.aload 0, .iload 1, .iload 2] 41 = x_aload 0 (x_iload 1 (x_iload 2 (K 41))) := ((xe_aload 0).trans (congrArg (x_aload 0) ((xe_iload 1).trans (congrArg (x_iload 1) ((xe_iload 2).trans (congrArg (x_iload 2) xe_nil))))))
theorem bk_X11_deduct_e_44 : ck_ fX11 (some .int) cX11_deduct 44 [.ifCond .ne 50, .iconst (-4), .ireturn] 50 = true := qck_r (nn_ _) (by decide +kernel)
theorem bs_X11_deduct_e_44 {P : Zt → Option Zv → Prop} (K : Int → Zl → List Zv → Zt → Prop) : sx_ K P [.ifCond .ne 50, .iconst (-4), .ireturn] 50 = x_ifCond .ne 50 K (x_iconst (-4) (x_ireturn P)) := ((xe_ifCond .ne 50).trans (congrArg (x_ifCond .ne 50 K) ((xe_iconst (-4)).trans (congrArg (x_iconst (-4)) (xe_ireturn)))))
theorem bk_X11_deduct_e_50 : ck_ fX11 (some .int) cX11_deduct 50 [.aload 0, .tableswitch 0 11 24 #[], .iconst 50, .if_icmp .ne 62, .iconst (-5), .ireturn] 62 = true := qck_r (nn_ _) (by decide +kernel)
theorem bs_X11_deduct_e_50 {P : Zt → Option Zv → Prop} (K : Int → Zl → List Zv → Zt → Prop) : sx_ K P [.aload 0, .tableswitch 0 11 24 #[], .iconst 50, .if_icmp .ne 62, .iconst (-5), .ireturn] 62 = x_aload 0 (x_g0 111 24 0 50 (x_iconst 50 (x_if_icmp .ne 62 K (x_iconst (-5) (x_ireturn P))))) := ((xe_aload 0).trans (congrArg (x_aload 0) ((xe_g0 (kk := 111) rfl tl_11_24).trans (congrArg (x_g0 111 24 0 50) ((xe_iconst 50).trans (congrArg (x_iconst 50) ((xe_if_icmp .ne 62).trans (congrArg (x_if_icmp .ne 62 K) ((xe_iconst (-5)).trans (congrArg (x_iconst (-5)) (xe_ireturn)))))))))))
theorem bk_X11_deduct_e_62 : ck_ fX11 (some .int) cX11_deduct 62 [.aload 0, .tableswitch 0 11 25 #[], .aload 0, .tableswitch 0 11 24 #[], .iload 1, .iastore, .aload 0, .tableswitch 0 11 26 #[], .aload 0, .tableswitch 0 11 24 #[], .iload 2, .iastore, .aload 0, .tableswitch 0 11 27 #[], .aload 0, .tableswitch 0 11 24 #[], .iload 3, .iastore, .aload 0, .tableswitch 0 11 28 #[], .aload 0, .tableswitch 0 11 24 #[], .aload 0, .tableswitch 0 11 3 #[], .iastore, .aload 0, .dup, .tableswitch 0 11 24 #[], .iconst 1, .iadd, .tableswitch 1 11 24 #[], .aload 0, .tableswitch 0 11 24 #[], .ireturn] 120 = true := qck_r (nn_ _) (by decide +kernel)
theorem bs_X11_deduct_e_62 {P : Zt → Option Zv → Prop} (K : Int → Zl → List Zv → Zt → Prop) : sx_ K P [.aload 0, .tableswitch 0 11 25 #[], .aload 0, .tableswitch 0 11 24 #[], .iload 1, .iastore, .aload 0, .tableswitch 0 11 26 #[], .aload 0, .tableswitch 0 11 24 #[], .iload 2, .iastore, .aload 0, .tableswitch 0 11 27 #[], .aload 0, .tableswitch 0 11 24 #[], .iload 3, .iastore, .aload 0, .tableswitch 0 11 28 #[], .aload 0, .tableswitch 0 11 24 #[], .aload 0, .tableswitch 0 11 3 #[], .iastore, .aload 0, .dup, .tableswitch 0 11 24 #[], .iconst 1, .iadd, .tableswitch 1 11 24 #[], .aload 0, .tableswitch 0 11 24 #[], .ireturn] 120 = x_aload 0 (x_g1 111 225 (x_aload 0 (x_g0 111 24 0 50 (x_iload 1 (x_iastore (x_aload 0 (x_g1 111 226 (x_aload 0 (x_g0 111 24 0 50 (x_iload 2 (x_iastore (x_aload 0 (x_g1 111 227 (x_aload 0 (x_g0 111 24 0 50 (x_iload 3 (x_iastore (x_aload 0 (x_g1 111 228 (x_aload 0 (x_g0 111 24 0 50 (x_aload 0 (x_g0 111 3 0 999 (x_iastore (x_aload 0 (x_dup (x_g0 111 24 0 50 (x_iconst 1 (x_iadd (x_p 111 24 0 50 (x_aload 0 (x_g0 111 24 0 50 (x_ireturn P))))))))))))))))))))))))))))))))) := ((xe_aload 0).trans (congrArg (x_aload 0) ((xe_g1 (kk := 111) rfl tl_11_25).trans (congrArg (x_g1 111 225) ((xe_aload 0).trans (congrArg (x_aload 0) ((xe_g0 (kk := 111) rfl tl_11_24).trans (congrArg (x_g0 111 24 0 50) ((xe_iload 1).trans (congrArg (x_iload 1) ((xe_iastore).trans (congrArg (x_iastore) ((xe_aload 0).trans (congrArg (x_aload 0) ((xe_g1 (kk := 111) rfl tl_11_26).trans (congrArg (x_g1 111 226) ((xe_aload 0).trans (congrArg (x_aload 0) ((xe_g0 (kk := 111) rfl tl_11_24).trans (congrArg (x_g0 111 24 0 50) ((xe_iload 2).trans (congrArg (x_iload 2) ((xe_iastore).trans (congrArg (x_iastore) ((xe_aload 0).trans (congrArg (x_aload 0) ((xe_g1 (kk := 111) rfl tl_11_27).trans (congrArg (x_g1 111 227) ((xe_aload 0).trans (congrArg (x_aload 0) ((xe_g0 (kk := 111) rfl tl_11_24).trans (congrArg (x_g0 111 24 0 50) ((xe_iload 3).trans (congrArg (x_iload 3) ((xe_iastore).trans (congrArg (x_iastore) ((xe_aload 0).trans (congrArg (x_aload 0) ((xe_g1 (kk := 111) rfl tl_11_28).trans (congrArg (x_g1 111 228) ((xe_aload 0).trans (congrArg (x_aload 0) ((xe_g0 (kk := 111) rfl tl_11_24).trans (congrArg (x_g0 111 24 0 50) ((xe_aload 0).trans (congrArg (x_aload 0) ((xe_g0 (kk := 111) rfl tl_11_3).trans (congrArg (x_g0 111 3 0 999) ((xe_iastore).trans (congrArg (x_iastore) ((xe_aload 0).trans (congrArg (x_aload 0) ((xe_dup).trans (congrArg (x_dup) ((xe_g0 (kk := 111) rfl tl_11_24).trans (congrArg (x_g0 111 24 0 50) ((xe_iconst 1).trans (congrArg (x_iconst 1) ((xe_iadd).trans (congrArg (x_iadd) ((xe_p (kk := 111) rfl tl_11_24).trans (congrArg (x_p 111 24 0 50) ((xe_aload 0).trans (congrArg (x_aload 0) ((xe_g0 (kk := 111) rfl tl_11_24).trans (congrArg (x_g0 111 24 0 50) (xe_ireturn)))))))))))))))))))))))))))))))))))))))))))))))))))))))))))))))))))
abbrev po_X11_deduct_e (T : Zt) (c cl p : Int) : Zt → Option Zv → Prop := fun T' r => ∃ x : Int, r = some (vI x) ∧ fr_ [(225, []), (226, []), (227, []), (228, []), (111, [24])] T T' ∧ (DR9_ T T' c cl p x)
set_option maxHeartbeats 4000000 in
theorem ct_X11_deduct_e {T : Zt} {c cl p : Int} : Ct_ yX11_deduct zX11_deduct T [vR 111 0, vI c, vI cl, vI p] (po_X11_deduct_e T c cl p) := by
  refine ct_of pn_11 rfl rfl (Nat.le_of_ble_eq_true rfl) (fun hT hav => ?_)
  have hr_c : -2147483648 ≤ c ∧ c ≤ 2147483647 := hav (vI c) (List.mem_cons_of_mem _ List.mem_cons_self)
  have hr_cl : -2147483648 ≤ cl ∧ cl ≤ 2147483647 := hav (vI cl) (List.mem_cons_of_mem _ (List.mem_cons_of_mem _ List.mem_cons_self))
  have hr_p : -2147483648 ≤ p ∧ p ≤ 2147483647 := hav (vI p) (List.mem_cons_of_mem _ (List.mem_cons_of_mem _ (List.mem_cons_of_mem _ List.mem_cons_self)))
  have hz : zX11_deduct.2.2.2.1 = some .boolean → ∀ (T' : Zt) (x : Int), po_X11_deduct_e T c cl p T' (some (vI x)) → 0 ≤ x ∧ x ≤ 1 := fun h => by cases h
  have hb_6 : 0 ≤ T 111 0 6 ∧ T 111 0 6 ≤ 4 := bd_f hT 111 6 tl_11_6 0
  have hb_12 : 0 ≤ T 111 0 12 ∧ T 111 0 12 ≤ 12 := bd_f hT 111 12 tl_11_12 0
  have hb_24 : 0 ≤ T 111 0 24 ∧ T 111 0 24 ≤ 50 := bd_f hT 111 24 tl_11_24 0
  show J_ zX11_deduct T (po_X11_deduct_e T c cl p) 0 0 0 [some (vR 111 0), some (vI c), some (vI cl), some (vI p)] [] T
  refine j_blx (F := fX11) tb_X11 (nn_ _) bk_X11_deduct_e_0 bs_X11_deduct_e_0 hz (fun K hK => ?_)
  intro b1 b1b
  refine hK 5 _ [vI (T 111 0 6), vI c] T ?_
  refine j_callS (y := yX11_isOf) (Yc := zX11_isOf) (rest := []) [vI c, vI (T 111 0 6)] (ct_X11_isOf (T := T) (by omega)) cl_X11_317 (qd_c (by decide +kernel)) (nn_ _) rfl (rf_of rfl) (Nat.le_of_ble_eq_true rfl) (Nat.le_of_ble_eq_true rfl) (Nat.le_of_ble_eq_true rfl) rfl ?_
  rintro _ _ ⟨rfl, x2, rfl, hx2⟩
  show J_ zX11_deduct T (po_X11_deduct_e T c cl p) 0 0 8 _ [vI x2] T
  refine j_blx (F := fX11) tb_X11 (nn_ _) bk_X11_deduct_e_8 bs_X11_deduct_e_8 hz (fun K hK => ?_)
  refine And.intro (fun c3 => ?_) (fun c3 => ?_)
  · replace hx2 := hx2.resolve_left (fun z => absurd (c3.symm.trans z.1) (by decide))
    clear c3
    refine hK 22 _ [] T ?_
    refine j_blx (F := fX11) tb_X11 (nn_ _) bk_X11_deduct_e_22 bs_X11_deduct_e_22 hz (fun K hK => ?_)
    refine (show po_X11_deduct_e T c cl p T (some (vI (-2))) from ?_)
    exact ⟨_, rfl, fr_0 _ _, Or.inl ⟨rfl, Or.inl ⟨rfl, by omega⟩⟩⟩
  · replace hx2 := hx2.resolve_right (fun z => c3 z.1)
    clear c3
    intro b4 b4b
    refine hK 16 _ [vI (T 111 0 12), vI cl] T ?_
    refine j_callS (y := yX11_isOf) (Yc := zX11_isOf) (rest := []) [vI cl, vI (T 111 0 12)] (ct_X11_isOf (T := T) (by omega)) cl_X11_317 (qd_c (by decide +kernel)) (nn_ _) rfl (rf_of rfl) (Nat.le_of_ble_eq_true rfl) (Nat.le_of_ble_eq_true rfl) (Nat.le_of_ble_eq_true rfl) rfl ?_
    rintro _ _ ⟨rfl, x5, rfl, hx5⟩
    show J_ zX11_deduct T (po_X11_deduct_e T c cl p) 0 0 19 _ [vI x5] T
    refine j_blx (F := fX11) tb_X11 (nn_ _) bk_X11_deduct_e_19 bs_X11_deduct_e_19 hz (fun K hK => ?_)
    refine And.intro (fun c6 => ?_) (fun c6 => ?_)
    · replace hx5 := hx5.resolve_right (fun z => c6 z.1)
      clear c6
      refine hK 25 _ [] T ?_
      refine j_blx (F := fX11) tb_X11 (nn_ _) bk_X11_deduct_e_25 bs_X11_deduct_e_25 hz (fun K hK => ?_)
      refine hK 29 _ [vI 99, vI 1, vI p] T ?_
      refine j_callS (y := yX11_in) (Yc := zX11_in) (rest := []) [vI p, vI 1, vI 99] (ct_X11_in (T := T)) cl_X11_255 (qd_c (by decide +kernel)) (nn_ _) rfl (rf_of rfl) (Nat.le_of_ble_eq_true rfl) (Nat.le_of_ble_eq_true rfl) (Nat.le_of_ble_eq_true rfl) rfl ?_
      rintro _ _ ⟨rfl, x7, rfl, hx7⟩
      show J_ zX11_deduct T (po_X11_deduct_e T c cl p) 0 0 32 _ [vI x7] T
      refine j_blx (F := fX11) tb_X11 (nn_ _) bk_X11_deduct_e_32 bs_X11_deduct_e_32 hz (fun K hK => ?_)
      refine And.intro (fun c8 => ?_) (fun c8 => ?_)
      · replace hx7 := hx7.resolve_right (fun z => c8 z.1)
        clear c8
        refine hK 38 _ [] T ?_
        refine j_blx (F := fX11) tb_X11 (nn_ _) bk_X11_deduct_e_38 bs_X11_deduct_e_38 hz (fun K hK => ?_)
        refine hK 41 _ [vI cl, vI c, vR 111 0] T ?_
        refine j_callV (y := yX11_hasEntered) (Yc := zX11_hasEntered) (rest := []) [vI c, vI cl] (ct_X11_hasEntered (T := T) (by omega)) cl_X11_340 (qd_c (by decide +kernel)) (nn_ _) rfl (rf_of rfl) (Nat.le_of_ble_eq_true rfl) (Nat.le_of_ble_eq_true rfl) (Nat.le_of_ble_eq_true rfl) rfl ?_
        rintro _ _ ⟨rfl, x9, rfl, hx9⟩
        show J_ zX11_deduct T (po_X11_deduct_e T c cl p) 0 0 44 _ [vI x9] T
        refine j_blx (F := fX11) tb_X11 (nn_ _) bk_X11_deduct_e_44 bs_X11_deduct_e_44 hz (fun K hK => ?_)
        refine And.intro (fun c10 => ?_) (fun c10 => ?_)
        · refine hK 50 _ [] T ?_
          refine j_blx (F := fX11) tb_X11 (nn_ _) bk_X11_deduct_e_50 bs_X11_deduct_e_50 hz (fun K hK => ?_)
          intro b11 b11b
          refine And.intro (fun c12 => ?_) (fun c12 => ?_)
          · refine hK 62 _ [] T ?_
            refine j_blx (F := fX11) tb_X11 (nn_ _) bk_X11_deduct_e_62 bs_X11_deduct_e_62 hz (fun K hK => ?_)
            intro b13 b13b
            refine iy_i (by omega) (by omega) ?_
            refine x_nm (fun U14 hU14 => ?_)
            have e15 := up_f hU14
            intro b16 b16b
            have e17 : U14 111 0 24 = T 111 0 24 := up_k hU14 (by exact Nat.ne_of_beq_eq_false rfl) 0 24
            rw [e17] at b16 b16b ⊢
            refine iy_i (by omega) (by omega) ?_
            refine x_nm (fun U18 hU18 => ?_)
            have e19 := up_f hU18
            intro b20 b20b
            have e21 : U18 111 0 24 = T 111 0 24 := (up_k hU18 (by exact Nat.ne_of_beq_eq_false rfl) 0 24).trans (up_k hU14 (by exact Nat.ne_of_beq_eq_false rfl) 0 24)
            rw [e21] at b20 b20b ⊢
            refine iy_i (by omega) (by omega) ?_
            refine x_nm (fun U22 hU22 => ?_)
            have e23 := up_f hU22
            intro b24 b24b
            have e25 : U22 111 0 24 = T 111 0 24 := (up_k hU22 (by exact Nat.ne_of_beq_eq_false rfl) 0 24).trans ((up_k hU18 (by exact Nat.ne_of_beq_eq_false rfl) 0 24).trans (up_k hU14 (by exact Nat.ne_of_beq_eq_false rfl) 0 24))
            rw [e25] at b24 b24b ⊢
            intro b26 b26b
            have e27 : U22 111 0 3 = T 111 0 3 := (up_k hU22 (by exact Nat.ne_of_beq_eq_false rfl) 0 3).trans ((up_k hU18 (by exact Nat.ne_of_beq_eq_false rfl) 0 3).trans (up_k hU14 (by exact Nat.ne_of_beq_eq_false rfl) 0 3))
            rw [e27] at b26 b26b ⊢
            refine iy_i (by omega) (by omega) ?_
            refine x_nm (fun U28 hU28 => ?_)
            have e29 := up_f hU28
            intro b30 b30b
            have e31 : U28 111 0 24 = T 111 0 24 := (up_k hU28 (by exact Nat.ne_of_beq_eq_false rfl) 0 24).trans ((up_k hU22 (by exact Nat.ne_of_beq_eq_false rfl) 0 24).trans ((up_k hU18 (by exact Nat.ne_of_beq_eq_false rfl) 0 24).trans (up_k hU14 (by exact Nat.ne_of_beq_eq_false rfl) 0 24)))
            rw [e31] at b30 b30b ⊢
            refine rg_i (by omega) ?_
            refine bd_i (by omega) ?_
            refine x_nm (fun U32 hU32 => ?_)
            have e33 := up_f hU32
            intro b34 b34b
            have e35 : U32 111 0 24 = (T 111 0 24) + 1 := up_f hU32
            rw [e35] at b34 b34b ⊢
            refine (show po_X11_deduct_e T c cl p U32 (some (vI ((T 111 0 24) + 1))) from ?_)
            exact ⟨_, rfl, fr_u (fr_u (fr_u (fr_u (fr_u (fr_0 _ _) hU14 rfl) hU18 rfl) hU22 rfl) hU28 rfl) hU32 rfl, Or.inr ⟨by omega, by omega, (hx9.resolve_right (fun z => by omega)).2, by omega, by omega, by omega, ⟨(up_k hU32 (by exact Nat.ne_of_beq_eq_false rfl) 0 _).trans ((up_k hU28 (by exact Nat.ne_of_beq_eq_false rfl) 0 _).trans ((up_k hU22 (by exact Nat.ne_of_beq_eq_false rfl) 0 _).trans ((up_k hU18 (by exact Nat.ne_of_beq_eq_false rfl) 0 _).trans (up_f hU14)))), fun j hj => (up_k hU32 (by exact Nat.ne_of_beq_eq_false rfl) 0 j).trans ((up_k hU28 (by exact Nat.ne_of_beq_eq_false rfl) 0 j).trans ((up_k hU22 (by exact Nat.ne_of_beq_eq_false rfl) 0 j).trans ((up_k hU18 (by exact Nat.ne_of_beq_eq_false rfl) 0 j).trans (up_g hU14 (fun z => hj z.2.2)))))⟩, ⟨(up_k hU32 (by exact Nat.ne_of_beq_eq_false rfl) 0 _).trans ((up_k hU28 (by exact Nat.ne_of_beq_eq_false rfl) 0 _).trans ((up_k hU22 (by exact Nat.ne_of_beq_eq_false rfl) 0 _).trans (up_f hU18))), fun j hj => (up_k hU32 (by exact Nat.ne_of_beq_eq_false rfl) 0 j).trans ((up_k hU28 (by exact Nat.ne_of_beq_eq_false rfl) 0 j).trans ((up_k hU22 (by exact Nat.ne_of_beq_eq_false rfl) 0 j).trans ((up_g hU18 (fun z => hj z.2.2)).trans (up_k hU14 (by exact Nat.ne_of_beq_eq_false rfl) 0 j))))⟩, ⟨(up_k hU32 (by exact Nat.ne_of_beq_eq_false rfl) 0 _).trans ((up_k hU28 (by exact Nat.ne_of_beq_eq_false rfl) 0 _).trans (up_f hU22)), fun j hj => (up_k hU32 (by exact Nat.ne_of_beq_eq_false rfl) 0 j).trans ((up_k hU28 (by exact Nat.ne_of_beq_eq_false rfl) 0 j).trans ((up_g hU22 (fun z => hj z.2.2)).trans ((up_k hU18 (by exact Nat.ne_of_beq_eq_false rfl) 0 j).trans (up_k hU14 (by exact Nat.ne_of_beq_eq_false rfl) 0 j))))⟩, ⟨(up_k hU32 (by exact Nat.ne_of_beq_eq_false rfl) 0 _).trans (up_f hU28), fun j hj => (up_k hU32 (by exact Nat.ne_of_beq_eq_false rfl) 0 j).trans ((up_g hU28 (fun z => hj z.2.2)).trans ((up_k hU22 (by exact Nat.ne_of_beq_eq_false rfl) 0 j).trans ((up_k hU18 (by exact Nat.ne_of_beq_eq_false rfl) 0 j).trans (up_k hU14 (by exact Nat.ne_of_beq_eq_false rfl) 0 j))))⟩⟩⟩
          · refine (show po_X11_deduct_e T c cl p T (some (vI (-5))) from ?_)
            exact ⟨_, rfl, fr_0 _ _, Or.inl ⟨rfl, Or.inr ⟨by omega, Or.inr ⟨by omega, Or.inr ⟨(hx9.resolve_right (fun z => by omega)).2, rfl, by omega⟩⟩⟩⟩⟩
        · refine (show po_X11_deduct_e T c cl p T (some (vI (-4))) from ?_)
          exact ⟨_, rfl, fr_0 _ _, Or.inl ⟨rfl, Or.inr ⟨by omega, Or.inr ⟨by omega, Or.inl ⟨rfl, (hx9.resolve_left (fun z => by omega)).2⟩⟩⟩⟩⟩
      · replace hx7 := hx7.resolve_left (fun z => absurd (c8.symm.trans z.1) (by decide))
        clear c8
        refine (show po_X11_deduct_e T c cl p T (some (vI (-3))) from ?_)
        exact ⟨_, rfl, fr_0 _ _, Or.inl ⟨rfl, Or.inr ⟨by omega, Or.inl ⟨rfl, by omega⟩⟩⟩⟩
    · replace hx5 := hx5.resolve_left (fun z => absurd (c6.symm.trans z.1) (by decide))
      clear c6
      refine (show po_X11_deduct_e T c cl p T (some (vI (-2))) from ?_)
      exact ⟨_, rfl, fr_0 _ _, Or.inl ⟨rfl, Or.inl ⟨rfl, by omega⟩⟩⟩
-- the fixtures of a plan, as a list: round, home's seat, away's seat, date
abbrev Fx9_ : Type := Int × Int × Int × Int
def pa9_ (L r i : Int) : Int := if i = 0 then L else (r + i) % L
def pb9_ (L r i : Int) : Int := if i = 0 then r else (r - i + L) % L
def pq9_ (r i : Int) : Int := if i = 0 then r % 2 else i % 2
def hm9_ (L r u i : Int) : Int := if pq9_ r i = u then pb9_ L r i else pa9_ L r i
def aw9_ (L r u i : Int) : Int := if pq9_ r i = u then pa9_ L r i else pb9_ L r i
theorem hm9_b {L r u i : Int} (h : pq9_ r i = u) : hm9_ L r u i = pb9_ L r i ∧ aw9_ L r u i = pa9_ L r i := ⟨if_pos h, if_pos h⟩
theorem hm9_a {L r u i : Int} (h : pq9_ r i ≠ u) : hm9_ L r u i = pa9_ L r i ∧ aw9_ L r u i = pb9_ L r i := ⟨if_neg h, if_neg h⟩
theorem pq9_0 {r : Int} : pq9_ r 0 = r % 2 := if_pos rfl
theorem pq9_i {r i : Int} (h : i ≠ 0) : pq9_ r i = i % 2 := if_neg h
theorem pa9_0 {L r : Int} : pa9_ L r 0 = L := if_pos rfl
theorem pb9_0 {L r : Int} : pb9_ L r 0 = r := if_pos rfl
theorem pa9_i {L r i : Int} (h : i ≠ 0) : pa9_ L r i = (r + i) % L := if_neg h
theorem pb9_i {L r i : Int} (h : i ≠ 0) : pb9_ L r i = (r - i + L) % L := if_neg h
noncomputable def fa9_ (e rd dt h a : Int) (l : List Fx9_) : List Fx9_ := @ite _ (h < e ∧ a < e) (Classical.propDecidable _) (l ++ [(rd, h, a, dt)]) l
theorem fa9_y {e rd dt h a : Int} {l : List Fx9_} (g : h < e ∧ a < e) : fa9_ e rd dt h a l = l ++ [(rd, h, a, dt)] := if_pos g
theorem fa9_n {e rd dt h a : Int} {l : List Fx9_} (g : ¬ (h < e ∧ a < e)) : fa9_ e rd dt h a l = l := if_neg g
noncomputable def rl9_ (e L r u rd dt : Int) : Nat → List Fx9_ → List Fx9_
  | 0, l => l
  | i + 1, l => fa9_ e rd dt (hm9_ L r u i) (aw9_ L r u i) (rl9_ e L r u rd dt i l)
noncomputable def ll9_ (e L g f E : Int) : Nat → List Fx9_ → List Fx9_
  | 0, l => l
  | r + 1, l => rl9_ e L r (g % 2) (g * L + r) (f + (g * L + r) * E) ((L + 1) / 2).toNat (ll9_ e L g f E r l)
noncomputable def pl9_ (e L f E : Int) : Nat → List Fx9_
  | 0 => []
  | g + 1 => ll9_ e L g f E L.toNat (pl9_ e L f E g)
theorem fa9_a {e rd dt h a : Int} {l m : List Fx9_} : fa9_ e rd dt h a (l ++ m) = l ++ fa9_ e rd dt h a m := by
  by_cases g : h < e ∧ a < e
  · rw [fa9_y g, fa9_y g, List.append_assoc]
  · rw [fa9_n g, fa9_n g]
theorem rl9_a {e L r u rd dt : Int} {l : List Fx9_} : ∀ i : Nat, rl9_ e L r u rd dt i l = l ++ rl9_ e L r u rd dt i []
  | 0 => (List.append_nil l).symm
  | i + 1 => by
      show fa9_ e rd dt (hm9_ L r u i) (aw9_ L r u i) (rl9_ e L r u rd dt i l) = l ++ fa9_ e rd dt (hm9_ L r u i) (aw9_ L r u i) (rl9_ e L r u rd dt i [])
      rw [rl9_a i, fa9_a]
theorem fa9_l {e rd dt h a : Int} {l : List Fx9_} : (fa9_ e rd dt h a l).length ≤ l.length + 1 := by
  by_cases g : h < e ∧ a < e
  · rw [fa9_y g, List.length_append]
    exact Nat.le_refl _
  · rw [fa9_n g]
    omega
/-- what stands in a round at most: q is 1 where a place is none -/
theorem rl9_l {e L r u rd dt : Int} {q : Nat} {l : List Fx9_} (hq : q = 0 ∨ (q = 1 ∧ e ≤ L)) : ∀ i : Nat, (rl9_ e L r u rd dt (i + 1) l).length + q ≤ l.length + (i + 1)
  | 0 => by
      show (fa9_ e rd dt (hm9_ L r u (0 : Nat)) (aw9_ L r u (0 : Nat)) l).length + q ≤ l.length + (0 + 1)
      rcases hq with rfl | ⟨rfl, h⟩
      · exact fa9_l
      · rw [fa9_n]
        · omega
        · intro g
          have e1 : pa9_ L r ((0 : Nat) : Int) = L := pa9_0
          by_cases z : pq9_ r ((0 : Nat) : Int) = u
          · rw [(hm9_b z).2, e1] at g
            omega
          · rw [(hm9_a z).1, e1] at g
            omega
  | i + 1 => by
      have h := rl9_l hq (r := r) (u := u) (rd := rd) (dt := dt) (l := l) i
      have g : (rl9_ e L r u rd dt (i + 1 + 1) l).length ≤ (rl9_ e L r u rd dt (i + 1) l).length + 1 := fa9_l
      omega
theorem ll9_l {e L g f E : Int} {P : Nat} {l : List Fx9_} (h : ∀ (r u rd dt : Int) (l : List Fx9_), (rl9_ e L r u rd dt ((L + 1) / 2).toNat l).length ≤ l.length + P) : ∀ r : Nat, (ll9_ e L g f E r l).length ≤ l.length + r * P
  | 0 => by
      show l.length ≤ _
      omega
  | r + 1 => by
      have a := ll9_l (g := g) (f := f) (E := E) (l := l) h r
      have b := h r (g % 2) (g * L + r) (f + (g * L + r) * E) (ll9_ e L g f E r l)
      show (rl9_ e L r (g % 2) (g * L + r) (f + (g * L + r) * E) ((L + 1) / 2).toNat (ll9_ e L g f E r l)).length ≤ _
      rw [Nat.add_mul, Nat.one_mul]
      omega
theorem pl9_l {e L f E : Int} {P : Nat} (h : ∀ (r u rd dt : Int) (l : List Fx9_), (rl9_ e L r u rd dt ((L + 1) / 2).toNat l).length ≤ l.length + P) : ∀ g : Nat, (pl9_ e L f E g).length ≤ g * (L.toNat * P)
  | 0 => by
      show 0 ≤ _
      omega
  | g + 1 => by
      have a := pl9_l (f := f) (E := E) h g
      have b := ll9_l (g := g) (f := f) (E := E) (l := pl9_ e L f E g) h L.toNat
      show (ll9_ e L g f E L.toNat (pl9_ e L f E g)).length ≤ _
      rw [Nat.add_mul, Nat.one_mul]
      omega
theorem an9_m {x : Int} (h : 0 ≤ x ∧ x ≤ 2147483647) : an_ x 1 = x % 2 := by
  rw [an_n h ⟨by decide, by decide⟩, show Int.toNat 1 = 1 from rfl, Nat.and_one_is_mod]
  omega
/-- the house has laid these matches -/
def AP9_ (T T' : Zt) (c : Int) (l : List Fx9_) : Prop := T' 106 0 4 = T 106 0 4 + l.length ∧ ∀ (k : Nat) (q : Fx9_), l[k]? = some q → T' 102 (T 106 0 4 + k) 0 = c ∧ T' 102 (T 106 0 4 + k) 2 = q.1 ∧ T' 102 (T 106 0 4 + k) 3 = T 403 c q.2.1 ∧ T' 102 (T 106 0 4 + k) 4 = T 403 c q.2.2.1 ∧ T' 102 (T 106 0 4 + k) 5 = q.2.2.2 ∧ T' 102 (T 106 0 4 + k) 6 = -1 ∧ T' 102 (T 106 0 4 + k) 7 = -1 ∧ T' 102 (T 106 0 4 + k) 10 = 0
theorem ap9_0 {T T' : Zt} {c : Int} (h : T' 106 0 4 = T 106 0 4) : AP9_ T T' c [] := ⟨by show _ = T 106 0 4 + ((0 : Nat) : Int); omega, fun k q h => by cases h⟩
theorem ap9_t {T T1 T2 : Zt} {c : Int} {l m : List Fx9_} (h : AP9_ T T1 c l) (g : AP9_ T1 T2 c m) (h0 : 0 ≤ T 106 0 4) (ho : ∀ i j, i < T1 106 0 4 → T2 102 i j = T1 102 i j) (h4 : ∀ j, T1 403 c j = T 403 c j) : AP9_ T T2 c (l ++ m) := by
  obtain ⟨h1, h2⟩ := h
  obtain ⟨g1, g2⟩ := g
  refine ⟨by rw [List.length_append]; omega, fun k q hq => ?_⟩
  by_cases z : k < l.length
  · rw [List.getElem?_append_left z] at hq
    have a := h2 k q hq
    have o : ∀ j, T2 102 (T 106 0 4 + k) j = T1 102 (T 106 0 4 + k) j := fun j => ho _ j (by omega)
    rw [o 0, o 2, o 3, o 4, o 5, o 6, o 7, o 10]
    exact a
  · rw [List.getElem?_append_right (by omega)] at hq
    have a := g2 (k - l.length) q hq
    rw [show T1 106 0 4 + ((k - l.length : Nat) : Int) = T 106 0 4 + k by omega, h4, h4] at a
    exact a
/-- the reference has laid these matches -/
def AR9_ (T T' : Zt) (c : Int) (l : List Fx9_) : Prop := T' 111 0 29 = T 111 0 29 + l.length ∧ ∀ (k : Nat) (q : Fx9_), l[k]? = some q → T' 230 0 (T 111 0 29 + k) = c ∧ T' 231 0 (T 111 0 29 + k) = q.1 ∧ T' 232 0 (T 111 0 29 + k) = T 207 0 (12 * c + q.2.1) ∧ T' 233 0 (T 111 0 29 + k) = T 207 0 (12 * c + q.2.2.1) ∧ T' 234 0 (T 111 0 29 + k) = q.2.2.2 ∧ T' 235 0 (T 111 0 29 + k) = 0 ∧ T' 238 0 (T 111 0 29 + k) = -1 ∧ T' 253 0 (T 111 0 29 + k) = -1 ∧ T' 255 0 (T 111 0 29 + k) = -1
theorem ar9_0 {T T' : Zt} {c : Int} (h : T' 111 0 29 = T 111 0 29) : AR9_ T T' c [] := ⟨by show _ = T 111 0 29 + ((0 : Nat) : Int); omega, fun k q h => by cases h⟩
/-- one match more -/
theorem ar9_s {T T1 T2 : Zt} {c rd h a d : Int} {l : List Fx9_} (g : AR9_ T T1 c l) (h0 : T2 111 0 29 = T1 111 0 29 + 1) (ho : ∀ j, j ≠ T1 111 0 29 → T2 230 0 j = T1 230 0 j ∧ T2 231 0 j = T1 231 0 j ∧ T2 232 0 j = T1 232 0 j ∧ T2 233 0 j = T1 233 0 j ∧ T2 234 0 j = T1 234 0 j ∧ T2 235 0 j = T1 235 0 j ∧ T2 238 0 j = T1 238 0 j ∧ T2 253 0 j = T1 253 0 j ∧ T2 255 0 j = T1 255 0 j) (hv : T2 230 0 (T1 111 0 29) = c ∧ T2 231 0 (T1 111 0 29) = rd ∧ T2 232 0 (T1 111 0 29) = T 207 0 (12 * c + h) ∧ T2 233 0 (T1 111 0 29) = T 207 0 (12 * c + a) ∧ T2 234 0 (T1 111 0 29) = d ∧ T2 235 0 (T1 111 0 29) = 0 ∧ T2 238 0 (T1 111 0 29) = -1 ∧ T2 253 0 (T1 111 0 29) = -1 ∧ T2 255 0 (T1 111 0 29) = -1) : AR9_ T T2 c (l ++ [(rd, h, a, d)]) := by
  obtain ⟨h1, h2⟩ := g
  refine ⟨by rw [List.length_append]; show _ = _ + ((l.length + 1 : Nat) : Int); omega, fun k q hq => ?_⟩
  by_cases z : k < l.length
  · rw [List.getElem?_append_left z] at hq
    have x := h2 k q hq
    obtain ⟨o1, o2, o3, o4, o5, o6, o7, o8, o9⟩ := ho (T 111 0 29 + k) (by omega)
    rw [o1, o2, o3, o4, o5, o6, o7, o8, o9]
    exact x
  · rw [List.getElem?_append_right (by omega)] at hq
    by_cases y : k = l.length
    · rw [y, Nat.sub_self] at hq
      cases hq
      rw [show T 111 0 29 + (k : Int) = T1 111 0 29 by omega]
      exact hv
    · rw [List.getElem?_eq_none (show [(rd, h, a, d)].length ≤ k - l.length by show 1 ≤ k - l.length; omega)] at hq
      cases hq
/-- a fixture is laid, or its place is none -/
theorem ap9_f {T T1 T2 : Zt} {c e u h a d : Int} {l : List Fx9_} (g : AP9_ T T1 c l) (h0 : 0 ≤ T 106 0 4) (hl : T1 106 0 4 < 400) (he : T1 100 c 5 = e) (h4 : ∀ j, T1 403 c j = T 403 c j) (hx : (T2 = T1 ∧ (T1 100 c 5 ≤ h ∨ T1 100 c 5 ≤ a ∨ 400 ≤ T1 106 0 4)) ∨ (nm_ T1 T2 c h a d ∧ T2 102 (T1 106 0 4) 2 = u ∧ T2 102 (T1 106 0 4) 6 = -1 ∧ T2 102 (T1 106 0 4) 7 = -1)) : AP9_ T T2 c (fa9_ e u d h a l) := by
  rcases hx with ⟨rfl, hx⟩ | ⟨⟨⟨n1, n2, n3, n4⟩, n5, n6, n7, ⟨m0, m1, m3, m4, m5, m10⟩, n8⟩, m2, m6, m7⟩
  · rw [fa9_n (by omega)]
    exact g
  · rw [fa9_y (by omega)]
    refine ap9_t g ⟨by show _ = T1 106 0 4 + ((1 : Nat) : Int); omega, fun k q hq => ?_⟩ h0 (fun i j hi => n5 102 i j (Or.inl rfl) (by omega)) h4
    cases k with
    | zero =>
      cases hq
      rw [show T1 106 0 4 + ((0 : Nat) : Int) = T1 106 0 4 by omega]
      exact ⟨m0, m2, m3, m4, m5, m6, m7, m10⟩
    | succ k => cases hq
theorem fx9_o {T1 T2 : Zt} {c u h a d : Int} (hx : (T2 = T1 ∧ (T1 100 c 5 ≤ h ∨ T1 100 c 5 ≤ a ∨ 400 ≤ T1 106 0 4)) ∨ (nm_ T1 T2 c h a d ∧ T2 102 (T1 106 0 4) 2 = u ∧ T2 102 (T1 106 0 4) 6 = -1 ∧ T2 102 (T1 106 0 4) 7 = -1)) (i j : Int) (hi : i < T1 106 0 4) : T2 102 i j = T1 102 i j := by
  rcases hx with ⟨rfl, -⟩ | ⟨⟨-, n5, -⟩, -⟩
  · rfl
  · exact n5 102 i j (Or.inl rfl) (by omega)
theorem pe9_1 {e L : Int} (he : 2 ≤ e ∧ e ≤ 12) (hL : L = e + e % 2 - 1) : L * (L / 2 + 1 - e % 2) = e * (e - 1) / 2 := by
  subst hL
  rcases (by omega : e = 2 ∨ e = 3 ∨ e = 4 ∨ e = 5 ∨ e = 6 ∨ e = 7 ∨ e = 8 ∨ e = 9 ∨ e = 10 ∨ e = 11 ∨ e = 12) with rfl | rfl | rfl | rfl | rfl | rfl | rfl | rfl | rfl | rfl | rfl <;> rfl
theorem pe9_r {e L : Int} (he : 2 ≤ e ∧ e ≤ 12) (hL : L = e + e % 2 - 1) (r u rd dt : Int) (l : List Fx9_) : (rl9_ e L r u rd dt ((L + 1) / 2).toNat l).length ≤ l.length + (L / 2 + 1 - e % 2).toNat := by
  have h := rl9_l (e := e) (L := L) (r := r) (u := u) (rd := rd) (dt := dt) (q := (e % 2).toNat) (l := l) (by omega) (L / 2).toNat
  rw [show (L / 2).toNat + 1 = ((L + 1) / 2).toNat by omega] at h
  omega
/-- there is room for one round more -/
theorem rm9_b {e L f E M lg l q : Int} (he : 2 ≤ e ∧ e ≤ 12) (hL : L = e + e % 2 - 1) (hfx : M + e * (e - 1) / 2 * lg ≤ 400) (hl : 0 ≤ l ∧ l < lg) (hq : 0 ≤ q ∧ q < L) : M + ((ll9_ e L l f E q.toNat (pl9_ e L f E l.toNat)).length : Int) + (L / 2 + 1 - e % 2) ≤ 400 := by
  have a := ll9_l (g := l) (f := f) (E := E) (l := pl9_ e L f E l.toNat) (pe9_r he hL) q.toNat
  have b := pl9_l (f := f) (E := E) (pe9_r he hL) l.toNat
  obtain ⟨P, hP⟩ : ∃ P : Int, P = L / 2 + 1 - e % 2 := ⟨_, rfl⟩
  have hP0 : 0 ≤ P := by omega
  rw [← hP] at a b ⊢
  have a2 : ((ll9_ e L l f E q.toNat (pl9_ e L f E l.toNat)).length : Int) ≤ ((pl9_ e L f E l.toNat).length : Int) + q * P := by
    have z := Int.ofNat_le.mpr a
    rw [Int.natCast_add, Int.natCast_mul, show ((q.toNat : Nat) : Int) = q by omega, show ((P.toNat : Nat) : Int) = P by omega] at z
    exact z
  have b2 : ((pl9_ e L f E l.toNat).length : Int) ≤ l * (L * P) := by
    have z := Int.ofNat_le.mpr b
    rw [Int.natCast_mul, Int.natCast_mul, show ((l.toNat : Nat) : Int) = l by omega, show ((L.toNat : Nat) : Int) = L by omega, show ((P.toNat : Nat) : Int) = P by omega] at z
    exact z
  have e1 : L * P = e * (e - 1) / 2 := by rw [hP]; exact pe9_1 he hL
  have c1 : (q + 1) * P ≤ L * P := Int.mul_le_mul_of_nonneg_right (by omega) hP0
  rw [Int.add_mul, Int.one_mul] at c1
  have c2 : 0 ≤ L * P := Int.mul_nonneg (by omega) hP0
  have c3 : (l + 1) * (L * P) ≤ lg * (L * P) := Int.mul_le_mul_of_nonneg_right (by omega) c2
  rw [Int.add_mul, Int.one_mul] at c3
  rw [← e1, Int.mul_comm (L * P) lg] at hfx
  omega
theorem ar9_k {T T1 T2 : Zt} {c : Int} {l : List Fx9_} (h : AR9_ T T1 c l) (e : ∀ (k : Nat) (j : Int), k ≠ 211 → T2 k 0 j = T1 k 0 j) : AR9_ T T2 c l := ⟨(e 111 29 (by decide)).trans h.1, fun k q hq => by
  have z := h.2 k q hq
  rw [e 230 _ (by decide), e 231 _ (by decide), e 232 _ (by decide), e 233 _ (by decide), e 234 _ (by decide), e 235 _ (by decide), e 238 _ (by decide), e 253 _ (by decide), e 255 _ (by decide)]
  exact z⟩
-- schedule and plan of the house
/-- what plan does to the house -/
def PH9_ (T T' : Zt) (c b x : Int) : Prop := (T' = T ∧ ((x = -2 ∧ ¬ (0 ≤ c ∧ c < T 106 0 2)) ∨ ((0 ≤ c ∧ c < T 106 0 2) ∧ x = -3 ∧ ¬ ((0 ≤ b ∧ b ≤ 999) ∧ T 108 0 13 ≤ b)) ∨ ((0 ≤ c ∧ c < T 106 0 2) ∧ ((0 ≤ b ∧ b ≤ 999) ∧ T 108 0 13 ≤ b) ∧ x = -4 ∧ (T 100 c 6 ≠ 0 ∨ T 100 c 5 < 2 ∨ 999 < b + (((T 100 c 5 + an_ (T 100 c 5) 1 - 1) * T 401 c 6 - 1) * T 401 c 7))) ∨ ((0 ≤ c ∧ c < T 106 0 2) ∧ ((0 ≤ b ∧ b ≤ 999) ∧ T 108 0 13 ≤ b) ∧ T 100 c 6 = 0 ∧ 2 ≤ T 100 c 5 ∧ b + (((T 100 c 5 + an_ (T 100 c 5) 1 - 1) * T 401 c 6 - 1) * T 401 c 7) ≤ 999 ∧ x = -5 ∧ 400 < T 106 0 4 + T 100 c 5 * (T 100 c 5 - 1) / 2 * T 401 c 6))) ∨ ((0 ≤ c ∧ c < T 106 0 2) ∧ ((0 ≤ b ∧ b ≤ 999) ∧ T 108 0 13 ≤ b) ∧ T 100 c 6 = 0 ∧ 2 ≤ T 100 c 5 ∧ b + (((T 100 c 5 + an_ (T 100 c 5) 1 - 1) * T 401 c 6 - 1) * T 401 c 7) ≤ 999 ∧ T 106 0 4 + T 100 c 5 * (T 100 c 5 - 1) / 2 * T 401 c 6 ≤ 400 ∧ x = T 106 0 4 ∧ SJ_ T T' c ∧ AP9_ T T' c (pl9_ (T 100 c 5) (T 100 c 5 + an_ (T 100 c 5) 1 - 1) b (T 401 c 7) (T 401 c 6).toNat))
theorem bk_X0_fixtureCount_e_0 : ck_ fX0 (some .int) cX0_fixtureCount 0 [.aload 0, .tableswitch 0 0 5 #[], .aload 0, .tableswitch 0 0 5 #[], .iconst 1, .isub, .imul, .iconst 2, .idiv, .aload 0, .tableswitch 0 0 1 #[], .iconst 6, .iaload, .imul, .ireturn] 22 = true := qck_r (nn_ _) (by decide +kernel)
theorem bs_X0_fixtureCount_e_0 {P : Zt → Option Zv → Prop} (K : Int → Zl → List Zv → Zt → Prop) : sx_ K P [.aload 0, .tableswitch 0 0 5 #[], .aload 0, .tableswitch 0 0 5 #[], .iconst 1, .isub, .imul, .iconst 2, .idiv, .aload 0, .tableswitch 0 0 1 #[], .iconst 6, .iaload, .imul, .ireturn] 22 = x_aload 0 (x_g0 100 5 0 12 (x_aload 0 (x_g0 100 5 0 12 (x_iconst 1 (x_isub (x_imul (x_iconst 2 (x_idiv (x_aload 0 (x_g2 100 401 (x_iconst 6 (x_iaload (x_imul (x_ireturn P)))))))))))))) := ((xe_aload 0).trans (congrArg (x_aload 0) ((xe_g0 (kk := 100) rfl tl_0_5).trans (congrArg (x_g0 100 5 0 12) ((xe_aload 0).trans (congrArg (x_aload 0) ((xe_g0 (kk := 100) rfl tl_0_5).trans (congrArg (x_g0 100 5 0 12) ((xe_iconst 1).trans (congrArg (x_iconst 1) ((xe_isub).trans (congrArg (x_isub) ((xe_imul).trans (congrArg (x_imul) ((xe_iconst 2).trans (congrArg (x_iconst 2) ((xe_idiv).trans (congrArg (x_idiv) ((xe_aload 0).trans (congrArg (x_aload 0) ((xe_g2 (kk := 100) rfl tl_0_1).trans (congrArg (x_g2 100 401) ((xe_iconst 6).trans (congrArg (x_iconst 6) ((xe_iaload).trans (congrArg (x_iaload) ((xe_imul).trans (congrArg (x_imul) (xe_ireturn)))))))))))))))))))))))))))))
abbrev po_X0_fixtureCount_e (T : Zt) (c : Int) : Zt → Option Zv → Prop := fun T' r => T = T' ∧ ∃ x : Int, r = some (vI x) ∧ (x = T 100 c 5 * (T 100 c 5 - 1) / 2 * T 401 c 6 ∧ 0 ≤ x ∧ x ≤ 264)
set_option maxHeartbeats 4000000 in
theorem ct_X0_fixtureCount_e {T : Zt} {c : Int} (hl : 0 ≤ T 401 c 6 ∧ T 401 c 6 ≤ 4) (he : 2 ≤ T 100 c 5) : Ct_ yX0_fixtureCount zX0_fixtureCount T [vR 100 c] (po_X0_fixtureCount_e T c) := by
  refine ct_of pn_0 rfl rfl (Nat.le_of_ble_eq_true rfl) (fun hT hav => ?_)
  have hz : zX0_fixtureCount.2.2.2.1 = some .boolean → ∀ (T' : Zt) (x : Int), po_X0_fixtureCount_e T c T' (some (vI x)) → 0 ≤ x ∧ x ≤ 1 := fun h => by cases h
  have hb5 : 0 ≤ T 100 c 5 ∧ T 100 c 5 ≤ 12 := bd_f hT 100 5 tl_0_5 c
  have hm1 := mlb (a := T 100 c 5) (b := T 100 c 5 - 1) (A := 12) (B := 11) (by omega) (by omega)
  have hm2 := mlb (a := T 100 c 5 * (T 100 c 5 - 1) / 2) (b := T 401 c 6) (A := 66) (B := 4) (by omega) (by omega)
  show J_ zX0_fixtureCount T (po_X0_fixtureCount_e T c) 0 0 0 [some (vR 100 c)] [] T
  refine j_blx (F := fX0) tb_X0 (nn_ _) bk_X0_fixtureCount_e_0 bs_X0_fixtureCount_e_0 hz (fun K hK => ?_)
  intro b1 b1b
  intro b2 b2b
  refine rg_i (by omega) ?_
  refine rg_i (by omega) ?_
  refine dv_i (by omega) ?_
  refine ix_i (by omega) ?_
  intro b3 b3b
  refine rg_i (by omega) ?_
  refine (show po_X0_fixtureCount_e T c T (some (vI ((((T 100 c 5) * ((T 100 c 5) - 1)) / 2) * (T 401 c 6)))) from ?_)
  exact ⟨rfl, _, rfl, by omega⟩
