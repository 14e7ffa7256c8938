-- firsts: views with supposed results
/-- one match more counts -/
def von_ (v : Mv_) (k0 hm aw a b : Int) : Mv_ := fun k i => if k = k0 then (if i = 0 then 1 else if i = 1 then hm else if i = 2 then aw else if i = 3 then a else if i = 4 then b else 0) else v k i
theorem von_s {v : Mv_} {k0 hm aw a b : Int} : von_ v k0 hm aw a b k0 0 = 1 ∧ von_ v k0 hm aw a b k0 1 = hm ∧ von_ v k0 hm aw a b k0 2 = aw ∧ von_ v k0 hm aw a b k0 3 = a ∧ von_ v k0 hm aw a b k0 4 = b ∧ von_ v k0 hm aw a b k0 5 = 0 ∧ von_ v k0 hm aw a b k0 6 = 0 := by
  simp [von_]
theorem von_n {v : Mv_} {k0 hm aw a b k i : Int} (h : k ≠ k0) : von_ v k0 hm aw a b k i = v k i := if_neg h
theorem td_on {ru : Int → Int} {v : Mv_} {k0 hm aw a b x w k : Int} (h : k ≠ k0) : td9_ ru (von_ v k0 hm aw a b) x w k = td9_ ru v x w k := td_e ⟨von_n h, fun _ => ⟨von_n h, von_n h, von_n h, von_n h, von_n h, von_n h⟩⟩
theorem hq_on {ru : Int → Int} {v : Mv_} {k0 hm aw a b x y k : Int} (h : k ≠ k0) : hq9_ ru (von_ v k0 hm aw a b) x y k = hq9_ ru v x y k := by
  simp only [hq9_, von_n h]
theorem hg_on {v : Mv_} {k0 hm aw a b x y k : Int} (h : k ≠ k0) : hg9_ (von_ v k0 hm aw a b) x y k = hg9_ v x y k := by
  simp only [hg9_, von_n h]
theorem tn_on {ru : Int → Int} {v : Mv_} {k0 hm aw a b x w : Int} (h0 : 0 ≤ k0) (h : v k0 0 ≠ 1) : ∀ n : Nat, tn9_ ru (von_ v k0 hm aw a b) x w n = tn9_ ru v x w n + (if k0 < (n : Int) then td9_ ru (von_ v k0 hm aw a b) x w k0 else 0)
  | 0 => by
    rw [if_neg (by omega)]
    rfl
  | n + 1 => by
    have ih := tn_on (ru := ru) (v := v) (k0 := k0) (hm := hm) (aw := aw) (a := a) (b := b) (x := x) (w := w) h0 h n
    have e1 : tn9_ ru (von_ v k0 hm aw a b) x w (n + 1) = tn9_ ru (von_ v k0 hm aw a b) x w n + td9_ ru (von_ v k0 hm aw a b) x w (n : Int) := rfl
    have e2 : tn9_ ru v x w (n + 1) = tn9_ ru v x w n + td9_ ru v x w (n : Int) := rfl
    rw [e1, e2, ih]
    by_cases z : (n : Int) = k0
    · have q : td9_ ru v x w (n : Int) = 0 := by
        rw [z]
        exact td_0 h
      have q2 : td9_ ru (von_ v k0 hm aw a b) x w (n : Int) = td9_ ru (von_ v k0 hm aw a b) x w k0 := by rw [z]
      rw [if_neg (by omega), if_pos (by omega), q, q2]
    · rw [td_on z]
      by_cases y : k0 < (n : Int)
      · rw [if_pos y, if_pos (by omega)]
        omega
      · rw [if_neg y, if_neg (by omega)]
        omega
theorem hp_on {ru : Int → Int} {v : Mv_} {k0 hm aw a b x y : Int} (h0 : 0 ≤ k0) (h : v k0 0 ≠ 1) : ∀ n : Nat, hp9_ ru (von_ v k0 hm aw a b) x y n = hp9_ ru v x y n + (if k0 < (n : Int) then hq9_ ru (von_ v k0 hm aw a b) x y k0 else 0)
  | 0 => by
    rw [if_neg (by omega)]
    rfl
  | n + 1 => by
    have ih := hp_on (ru := ru) (v := v) (k0 := k0) (hm := hm) (aw := aw) (a := a) (b := b) (x := x) (y := y) h0 h n
    have e1 : hp9_ ru (von_ v k0 hm aw a b) x y (n + 1) = hp9_ ru (von_ v k0 hm aw a b) x y n + hq9_ ru (von_ v k0 hm aw a b) x y (n : Int) := rfl
    have e2 : hp9_ ru v x y (n + 1) = hp9_ ru v x y n + hq9_ ru v x y (n : Int) := rfl
    rw [e1, e2, ih]
    by_cases z : (n : Int) = k0
    · have q : hq9_ ru v x y (n : Int) = 0 := by
        rw [z]
        exact cz_f h
      have q2 : hq9_ ru (von_ v k0 hm aw a b) x y (n : Int) = hq9_ ru (von_ v k0 hm aw a b) x y k0 := by rw [z]
      rw [if_neg (by omega), if_pos (by omega), q, q2]
    · rw [hq_on z]
      by_cases w : k0 < (n : Int)
      · rw [if_pos w, if_pos (by omega)]
        omega
      · rw [if_neg w, if_neg (by omega)]
        omega
theorem hs_on {v : Mv_} {k0 hm aw a b x y : Int} (h0 : 0 ≤ k0) (h : v k0 0 ≠ 1) : ∀ n : Nat, hs9_ (von_ v k0 hm aw a b) x y n = hs9_ v x y n + (if k0 < (n : Int) then hg9_ (von_ v k0 hm aw a b) x y k0 else 0)
  | 0 => by
    rw [if_neg (by omega)]
    rfl
  | n + 1 => by
    have ih := hs_on (v := v) (k0 := k0) (hm := hm) (aw := aw) (a := a) (b := b) (x := x) (y := y) h0 h n
    have e1 : hs9_ (von_ v k0 hm aw a b) x y (n + 1) = hs9_ (von_ v k0 hm aw a b) x y n + hg9_ (von_ v k0 hm aw a b) x y (n : Int) := rfl
    have e2 : hs9_ v x y (n + 1) = hs9_ v x y n + hg9_ v x y (n : Int) := rfl
    rw [e1, e2, ih]
    by_cases z : (n : Int) = k0
    · have q : hg9_ v x y (n : Int) = 0 := by
        rw [z]
        exact cz_f h
      have q2 : hg9_ (von_ v k0 hm aw a b) x y (n : Int) = hg9_ (von_ v k0 hm aw a b) x y k0 := by rw [z]
      rw [if_neg (by omega), if_pos (by omega), q, q2]
    · rw [hg_on z]
      by_cases w : k0 < (n : Int)
      · rw [if_pos w, if_pos (by omega)]
        omega
      · rw [if_neg w, if_neg (by omega)]
        omega
/-- a supposed result is added -/
theorem hfv_on {T U U2 : Zt} {c d hm aw a b k0 : Int} {v : Mv_} (h : HFv_ T U c d v) (sk : SK_ T c) (he : T 100 c 5 ≤ 12) (hk : 0 ≤ k0 ∧ k0 < T 100 c 8) (h0 : v k0 0 ≠ 1) (h1 : 0 ≤ hm ∧ hm < 12) (h2 : 0 ≤ aw ∧ aw < 12) (s1 : 0 ≤ T 404 c hm ∧ T 404 c hm < 12) (s2 : 0 ≤ T 404 c aw ∧ T 404 c aw < 12)
    (l : LV_ U U2 (fun x w => cz_ (x = T 404 c hm) (cv9_ (fun w => T 401 c w) w a b) 0 + cz_ (x = T 404 c aw) (cv9_ (fun w => T 401 c w) w b a) 0)) (r3 : RV_ 543 U U2 (fun j => cz_ (j = T 404 c aw) b 0)) (r4 : ∀ j, U2 544 0 j = U 544 0 j)
    (r5 : RV_ 545 U U2 (fun j => cz_ (j = T 404 c hm * 12 + T 404 c aw) (ptm9_ (fun w => T 401 c w) a b) 0 + cz_ (j = T 404 c aw * 12 + T 404 c hm) (ptm9_ (fun w => T 401 c w) b a) 0)) (r6 : RV_ 546 U U2 (fun j => cz_ (j = T 404 c hm * 12 + T 404 c aw) a 0 + cz_ (j = T 404 c aw * 12 + T 404 c hm) b 0)) : HFv_ T U2 c d (von_ v k0 hm aw a b) := by
  obtain ⟨k1, k2, k3, k4, k5⟩ := h
  have n0 : k0 < (((T 100 c 8).toNat : Nat) : Int) := by omega
  have vs := von_s (v := v) (k0 := k0) (hm := hm) (aw := aw) (a := a) (b := b)
  have i1 : ∀ x, 0 ≤ x → x < T 100 c 5 → (x = T 404 c hm ↔ von_ v k0 hm aw a b k0 1 = T 403 c x) := fun x p q => by
    rw [vs.2.1]
    exact sk_i sk ⟨p, q⟩ h1 s1.1
  have i2 : ∀ x, 0 ≤ x → x < T 100 c 5 → (x = T 404 c aw ↔ von_ v k0 hm aw a b k0 2 = T 403 c x) := fun x p q => by
    rw [vs.2.2.1]
    exact sk_i sk ⟨p, q⟩ h2 s2.1
  have tt : ∀ x w, tn9_ (fun w => T 401 c w) (von_ v k0 hm aw a b) x w (T 100 c 8).toNat = tn9_ (fun w => T 401 c w) v x w (T 100 c 8).toNat + td9_ (fun w => T 401 c w) (von_ v k0 hm aw a b) x w k0 := fun x w => by
    rw [tn_on hk.1 h0, if_pos n0]
  have hh : ∀ x y, hp9_ (fun w => T 401 c w) (von_ v k0 hm aw a b) x y (T 100 c 8).toNat = hp9_ (fun w => T 401 c w) v x y (T 100 c 8).toNat + hq9_ (fun w => T 401 c w) (von_ v k0 hm aw a b) x y k0 := fun x y => by
    rw [hp_on hk.1 h0, if_pos n0]
  have hs : ∀ x y, hs9_ (von_ v k0 hm aw a b) x y (T 100 c 8).toNat = hs9_ v x y (T 100 c 8).toNat + hg9_ (von_ v k0 hm aw a b) x y k0 := fun x y => by
    rw [hs_on hk.1 h0, if_pos n0]
  refine ⟨fun x w p q w0 w1 => ?_, fun x p q => ?_, fun x p q => ?_, fun x y p q p' q' => ?_, fun x y p q p' q' => ?_⟩
  · have g : wr_ (U2 542 0 (x * 8 + w)) = wr_ (U 542 0 (x * 8 + w) + (cz_ (x = T 404 c hm) (cv9_ (fun w => T 401 c w) w a b) 0 + cz_ (x = T 404 c aw) (cv9_ (fun w => T 401 c w) w b a) 0)) := l x w p (by omega) w0 w1
    have e : td9_ (fun w => T 401 c w) (von_ v k0 hm aw a b) (T 403 c x) w k0 = cz_ (x = T 404 c hm) (cv9_ (fun w => T 401 c w) w a b) 0 + cz_ (x = T 404 c aw) (cv9_ (fun w => T 401 c w) w b a) 0 := by
      rw [td_1 vs.1, if_neg (by omega), if_neg (by omega), vs.2.2.2.1, vs.2.2.2.2.1, cz_q (i1 x p q), cz_q (i2 x p q)]
    rw [g, wr_c (k1 x w p q w0 w1), tt, e]
    exact congrArg wr_ (by omega)
  · have g : wr_ (U2 543 0 x) = wr_ (U 543 0 x + cz_ (x = T 404 c aw) b 0) := r3 x
    have e : td9_ (fun w => T 401 c w) (von_ v k0 hm aw a b) (T 403 c x) 7 k0 = cz_ (x = T 404 c aw) b 0 := by
      rw [td_1 vs.1, if_pos rfl, vs.2.2.2.2.1, cz_q (i2 x p q)]
    rw [g, wr_c (k2 x p q), tt, e]
  · have e : td9_ (fun w => T 401 c w) (von_ v k0 hm aw a b) (T 403 c x) 8 k0 = 0 := by
      rw [td_1 vs.1, if_neg (by decide), if_pos rfl, vs.2.2.2.2.2.1, vs.2.2.2.2.2.2, ite_self, ite_self] <;> rfl
    rw [r4 x, tt, e, Int.add_zero]
    exact k3 x p q
  · have g : wr_ (U2 545 0 (x * 12 + y)) = wr_ (U 545 0 (x * 12 + y) + (cz_ (x * 12 + y = T 404 c hm * 12 + T 404 c aw) (ptm9_ (fun w => T 401 c w) a b) 0 + cz_ (x * 12 + y = T 404 c aw * 12 + T 404 c hm) (ptm9_ (fun w => T 401 c w) b a) 0)) := r5 (x * 12 + y)
    have e1 : x * 12 + y = T 404 c hm * 12 + T 404 c aw ↔ von_ v k0 hm aw a b k0 1 = T 403 c x ∧ von_ v k0 hm aw a b k0 2 = T 403 c y := by
      rw [← i1 x p q, ← i2 y p' q']
      omega
    have e2 : x * 12 + y = T 404 c aw * 12 + T 404 c hm ↔ von_ v k0 hm aw a b k0 2 = T 403 c x ∧ von_ v k0 hm aw a b k0 1 = T 403 c y := by
      rw [← i2 x p q, ← i1 y p' q']
      omega
    have e3 : hq9_ (fun w => T 401 c w) (von_ v k0 hm aw a b) (T 403 c x) (T 403 c y) k0 = cz_ (von_ v k0 hm aw a b k0 1 = T 403 c x ∧ von_ v k0 hm aw a b k0 2 = T 403 c y) (ptm9_ (fun w => T 401 c w) (von_ v k0 hm aw a b k0 3) (von_ v k0 hm aw a b k0 4)) 0 + cz_ (von_ v k0 hm aw a b k0 2 = T 403 c x ∧ von_ v k0 hm aw a b k0 1 = T 403 c y) (ptm9_ (fun w => T 401 c w) (von_ v k0 hm aw a b k0 4) (von_ v k0 hm aw a b k0 3)) 0 := cz_t vs.1
    rw [g, wr_c (k4 x y p q p' q'), hh, e3, vs.2.2.2.1, vs.2.2.2.2.1, cz_g e1, cz_g e2]
  · have g : wr_ (U2 546 0 (x * 12 + y)) = wr_ (U 546 0 (x * 12 + y) + (cz_ (x * 12 + y = T 404 c hm * 12 + T 404 c aw) a 0 + cz_ (x * 12 + y = T 404 c aw * 12 + T 404 c hm) b 0)) := r6 (x * 12 + y)
    have e1 : x * 12 + y = T 404 c hm * 12 + T 404 c aw ↔ von_ v k0 hm aw a b k0 1 = T 403 c x ∧ von_ v k0 hm aw a b k0 2 = T 403 c y := by
      rw [← i1 x p q, ← i2 y p' q']
      omega
    have e2 : x * 12 + y = T 404 c aw * 12 + T 404 c hm ↔ von_ v k0 hm aw a b k0 2 = T 403 c x ∧ von_ v k0 hm aw a b k0 1 = T 403 c y := by
      rw [← i2 x p q, ← i1 y p' q']
      omega
    have e3 : hg9_ (von_ v k0 hm aw a b) (T 403 c x) (T 403 c y) k0 = cz_ (von_ v k0 hm aw a b k0 1 = T 403 c x ∧ von_ v k0 hm aw a b k0 2 = T 403 c y) (von_ v k0 hm aw a b k0 3) 0 + cz_ (von_ v k0 hm aw a b k0 2 = T 403 c x ∧ von_ v k0 hm aw a b k0 1 = T 403 c y) (von_ v k0 hm aw a b k0 4) 0 := cz_t vs.1
    rw [g, wr_c (k5 x y p q p' q'), hs, e3, vs.2.2.2.1, vs.2.2.2.2.1, cz_g e1, cz_g e2]
-- a row of supposed results, three for each match that is left
def rs3_ (a : Int) : Nat → Int
  | 0 => a
  | n + 1 => rs3_ a n / 3
def sa3_ (r : Int) : Int := if r % 3 = 0 then 1 else 0
def sb3_ (r : Int) : Int := if r % 3 = 2 then 1 else 0
/-- the first n of the list are played as row a says -/
def vsj_ (T : Zt) (f : Int) (v : Mv_) (O : Int → Int) (a : Int) : Nat → Mv_
  | 0 => v
  | n + 1 => von_ (vsj_ T f v O a n) (O (n : Int) - f) (T 102 (O (n : Int)) 3) (T 102 (O (n : Int)) 4) (sa3_ (rs3_ a n)) (sb3_ (rs3_ a n))
theorem vsj_o {T : Zt} {f a k i : Int} {v : Mv_} {O : Int → Int} : ∀ n : Nat, (∀ j : Int, 0 ≤ j → j < (n : Int) → O j - f ≠ k) → vsj_ T f v O a n k i = v k i
  | 0, _ => rfl
  | n + 1, h => (von_n (fun z => h (n : Int) (by omega) (by omega) z.symm)).trans (vsj_o n (fun j p q => h j p (by omega)))
theorem vsj_l {T : Zt} {f a : Int} {v : Mv_} {O O' : Int → Int} : ∀ n : Nat, (∀ j : Int, 0 ≤ j → j < (n : Int) → O j = O' j) → vsj_ T f v O a n = vsj_ T f v O' a n
  | 0, _ => rfl
  | n + 1, h => by
    show von_ (vsj_ T f v O a n) (O (n : Int) - f) (T 102 (O (n : Int)) 3) (T 102 (O (n : Int)) 4) _ _ = von_ (vsj_ T f v O' a n) (O' (n : Int) - f) (T 102 (O' (n : Int)) 3) (T 102 (O' (n : Int)) 4) _ _
    rw [vsj_l n (fun j p q => h j p (by omega)), h (n : Int) (by omega) (by omega)]
/-- one of the list, as row a says -/
theorem vsj_i {T : Zt} {f a : Int} {v : Mv_} {O : Int → Int} {j : Int} : ∀ n : Nat, (∀ i k : Int, 0 ≤ i → i < k → k < (n : Int) → O i < O k) → 0 ≤ j → j < (n : Int) →
    vsj_ T f v O a n (O j - f) 0 = 1 ∧ vsj_ T f v O a n (O j - f) 1 = T 102 (O j) 3 ∧ vsj_ T f v O a n (O j - f) 2 = T 102 (O j) 4 ∧ vsj_ T f v O a n (O j - f) 3 = sa3_ (rs3_ a j.toNat) ∧ vsj_ T f v O a n (O j - f) 4 = sb3_ (rs3_ a j.toNat) ∧ vsj_ T f v O a n (O j - f) 5 = 0 ∧ vsj_ T f v O a n (O j - f) 6 = 0
  | 0, _, p, q => by omega
  | n + 1, h, p, q => by
    by_cases z : j = (n : Int)
    · rw [z, show ((n : Int)).toNat = n by omega]
      exact von_s
    · have y : O j < O (n : Int) := h j (n : Int) p (by omega) (by omega)
      have ne : O j - f ≠ O (n : Int) - f := by omega
      have g := vsj_i (T := T) (f := f) (a := a) (v := v) (O := O) (j := j) n (fun i k i0 ik k1 => h i k i0 ik (by omega)) p (by omega)
      have e : ∀ i, vsj_ T f v O a (n + 1) (O j - f) i = vsj_ T f v O a n (O j - f) i := fun i => von_n ne
      rw [e, e, e, e, e, e, e]
      exact g
/-- what the house has when a row is ordered -/
def OVq_ (T T' : Zt) (c : Int) (WW : Int → Int → Int → Int) : Prop := (mk9_ (T 100 c 5) (fun x => T 403 c (T' 547 0 x)), mk9_ (T 100 c 5) (fun x => T' 548 0 x)) = RKh_ T c WW ∧ LL_ T' (T 100 c 5) ∧ ∀ x, 0 ≤ x → x < T 100 c 5 → T' 547 0 x < T 100 c 5
theorem ovq_i {T U V : Zt} {c : Int} {WW : Int → Int → Int → Int} (e5 : U 100 c 5 = T 100 c 5) (e3 : ∀ j, U 403 c j = T 403 c j) (e1 : ∀ j, U 401 c j = T 401 c j) (r : (∀ x, 0 ≤ x → x < U 100 c 5 → V 547 0 x < U 100 c 5) ∧ (mk9_ (U 100 c 5) (fun x => U 403 c (V 547 0 x)), mk9_ (U 100 c 5) (fun x => V 548 0 x)) = RKh_ U c WW ∧ LL_ V (U 100 c 5) ∧ ∀ x w, 0 ≤ w → w ≤ 6 → V 542 0 (x * 8 + w) = U 542 0 (x * 8 + w)) : OVq_ T V c WW := by
  obtain ⟨r1, r2, r3, -⟩ := r
  rw [e5] at r1 r2 r3
  have er : RKh_ U c WW = RKh_ T c WW := by
    unfold RKh_
    rw [e1, e1, e5, show (fun x => U 403 c x) = (fun x => T 403 c x) from funext e3]
  rw [er, show (fun x => U 403 c (V 547 0 x)) = (fun x => T 403 c (V 547 0 x)) from funext (fun x => e3 _)] at r2
  exact ⟨r2, r3, r1⟩
/-- the worth of the first n rows' places: counted -/
noncomputable def cnt3_ (P : Int → Prop) : Nat → Int
  | 0 => 0
  | n + 1 => cnt3_ P n + cz_ (P (n : Int)) 1 0
theorem cnt3_e {P Q : Int → Prop} : ∀ n : Nat, (∀ r : Int, 0 ≤ r → r < (n : Int) → (P r ↔ Q r)) → cnt3_ P n = cnt3_ Q n
  | 0, _ => rfl
  | n + 1, h => by
    show cnt3_ P n + cz_ (P (n : Int)) 1 0 = cnt3_ Q n + cz_ (Q (n : Int)) 1 0
    rw [cnt3_e n (fun r a b => h r a (by omega)), cz_g (h (n : Int) (by omega) (by omega))]
-- whether a club is first
/-- whether the club of a seat is first, told by the order -/
def BPh_ (T : Zt) (c s : Int) (WW : Int → Int → Int → Int) (b : Prop) : Prop := ∀ j, 0 ≤ j → j < T 100 c 5 → (RKh_ T c WW).1 j = T 403 c s → (∀ i, j < i → i < T 100 c 5 → (RKh_ T c WW).1 i ≠ (RKh_ T c WW).1 j) → (b ↔ pc9_ (RKh_ T c WW).2 j.toNat = 1)
theorem bph_i {T T' : Zt} {c s x : Int} {WW : Int → Int → Int → Int} (hT' : ok_T T') (he : T 100 c 5 ≤ 12) (sk : SK_ T c) (hs : 0 ≤ s ∧ s < T 100 c 5) (ov : OVq_ T T' c WW) (hx : (x = 1 ∧ T' 542 0 (s * 8 + 7) = 1) ∨ (x = 0 ∧ T' 542 0 (s * 8 + 7) ≠ 1)) : BPh_ T c s WW (x = 1) := by
  obtain ⟨r, ll, ob⟩ := ov
  intro j j0 j1 e l
  rw [← r] at e l ⊢
  have m1 : T 403 c (T' 547 0 j) = T 403 c s := (mk_v (n := T 100 c 5) (o := fun x => T 403 c (T' 547 0 x)) (x := j) ⟨j0, j1⟩).symm.trans e
  have r7 := bd_a hT' 547 (by decide +kernel : ta_ 547 = some (1, some 12, 0, 11)) 0 (x := j) j0
  have ok := ob j j0 j1
  have s9 : T' 547 0 j = s := by
    have y9 := sk.1 (T' 547 0 j) r7.1 ok
    have y8 := sk.1 s hs.1 hs.2
    rw [m1, y8] at y9
    exact y9.symm
  have un : ∀ i, j < i → i < T 100 c 5 → T' 547 0 i ≠ T' 547 0 j := fun i i0 i1 w9 => by
    refine l i i0 i1 ?_
    show mk9_ (T 100 c 5) (fun x => T 403 c (T' 547 0 x)) i = mk9_ (T 100 c 5) (fun x => T 403 c (T' 547 0 x)) j
    rw [mk_v (n := T 100 c 5) (o := fun x => T 403 c (T' 547 0 x)) (x := i) ⟨by omega, i1⟩, mk_v (n := T 100 c 5) (o := fun x => T 403 c (T' 547 0 x)) (x := j) ⟨j0, j1⟩]
    show T 403 c (T' 547 0 i) = T 403 c (T' 547 0 j)
    rw [w9]
  have l9 := ll j j0 j1 un
  rw [s9] at l9
  have e9 : pc9_ (mk9_ (T 100 c 5) (fun x => T' 548 0 x)) j.toNat = pc9_ (fun x => T' 548 0 x) j.toNat := pc_c _ (fun i i0 i1 => mk_v (n := T 100 c 5) (o := fun x => T' 548 0 x) (x := i) ⟨i0, by omega⟩)
  show x = 1 ↔ pc9_ (mk9_ (T 100 c 5) (fun x => T' 548 0 x)) j.toNat = 1
  rw [e9, ← l9]
  rcases hx with z | z
  · exact ⟨fun _ => z.2, fun _ => z.1⟩
  · exact ⟨fun y => by omega, fun y => absurd y z.2⟩
/-- u of the first g rows have the club first -/
def CNq_ (T : Zt) (c s : Int) (WW : Int → Int → Int → Int → Int) (u g : Int) : Prop := ∃ B : Int → Prop, u = cnt3_ B g.toNat ∧ ∀ r, 0 ≤ r → r < g → BPh_ T c s (WW r) (B r)
theorem cnq_0 {T : Zt} {c s : Int} {WW : Int → Int → Int → Int → Int} : CNq_ T c s WW 0 0 := ⟨fun _ => True, rfl, fun r a b => by omega⟩
theorem cnq_s {T : Zt} {c s u v g : Int} {WW : Int → Int → Int → Int → Int} {b : Prop} (h : CNq_ T c s WW u g) (g0 : 0 ≤ g) (hb : BPh_ T c s (WW g) b) (hv : (b ∧ v = u + 1) ∨ (¬ b ∧ v = u)) : CNq_ T c s WW v (g + 1) := by
  obtain ⟨B, e, q⟩ := h
  have eg : ((g.toNat : Nat) : Int) = g := by omega
  refine ⟨fun r => (r = g ∧ b) ∨ (r ≠ g ∧ B r), ?_, fun r a k => ?_⟩
  · rw [show (g + 1).toNat = g.toNat + 1 by omega]
    show v = cnt3_ (fun r => (r = g ∧ b) ∨ (r ≠ g ∧ B r)) g.toNat + cz_ ((((g.toNat : Nat) : Int) = g ∧ b) ∨ (((g.toNat : Nat) : Int) ≠ g ∧ B ((g.toNat : Nat) : Int))) 1 0
    rw [cnt3_e (P := fun r => (r = g ∧ b) ∨ (r ≠ g ∧ B r)) (Q := B) g.toNat (fun r a k => ⟨fun z => z.elim (fun y => absurd y.1 (by omega)) (fun y => y.2), fun z => Or.inr ⟨by omega, z⟩⟩), ← e, eg]
    rcases hv with z | z
    · rw [cz_t (Or.inl ⟨rfl, z.1⟩)]
      exact z.2
    · rw [cz_f (fun y => y.elim (fun w => z.1 w.2) (fun w => w.1 rfl))]
      exact z.2.trans (by omega)
  · by_cases z : r = g
    · intro j j0 j1 e1 e2
      show ((r = g ∧ b) ∨ (r ≠ g ∧ B r)) ↔ _
      subst z
      have y := hb j j0 j1 e1 e2
      exact ⟨fun w => y.mp (w.elim (fun p => p.2) (fun p => absurd rfl p.1)), fun w => Or.inl ⟨rfl, y.mpr w⟩⟩
    · intro j j0 j1 e1 e2
      show ((r = g ∧ b) ∨ (r ≠ g ∧ B r)) ↔ _
      have y := q r a (by omega) j j0 j1 e1 e2
      exact ⟨fun w => y.mp (w.elim (fun p => absurd p.1 z) (fun p => p.2)), fun w => Or.inr ⟨z, y.mpr w⟩⟩
-- the same in another picture
theorem sk_t {T U : Zt} {c : Int} (e5 : U 100 c 5 = T 100 c 5) (e3 : ∀ j, U 403 c j = T 403 c j) (e4 : ∀ j, U 404 c j = T 404 c j) (h : SK_ T c) : SK_ U c := by
  unfold SK_ at h ⊢
  refine ⟨fun j a b => ?_, fun b a d => ?_⟩
  · rw [e5] at b
    rw [e4, e3]
    exact h.1 j a b
  · rw [e4, e5]
    rcases h.2 b a d with z | z
    · exact Or.inl z
    · refine Or.inr ⟨z.1, z.2.1, ?_⟩
      rw [e3]
      exact z.2.2
theorem hfv_t {T V U : Zt} {c d : Int} {v : Mv_} (e5 : V 100 c 5 = T 100 c 5) (e8 : V 100 c 8 = T 100 c 8) (e1 : ∀ j, V 401 c j = T 401 c j) (e3 : ∀ j, V 403 c j = T 403 c j) (ed : ∀ x, dh9_ V c d x (V 106 0 6).toNat = dh9_ T c d x (T 106 0 6).toNat) (h : HFv_ V U c d v) : HFv_ T U c d v := by
  have er : (fun w => V 401 c w) = (fun w => T 401 c w) := funext e1
  obtain ⟨k1, k2, k3, k4, k5⟩ := h
  refine ⟨fun x w p q w0 w1 => ?_, fun x p q => ?_, fun x p q => ?_, fun x y p q p' q' => ?_, fun x y p q p' q' => ?_⟩
  · have g := k1 x w p (by rw [e5]; exact q) w0 w1
    rw [er, e3, e8, ed] at g
    exact g
  · have g := k2 x p (by rw [e5]; exact q)
    rw [er, e3, e8] at g
    exact g
  · have g := k3 x p (by rw [e5]; exact q)
    rw [er, e3, e8] at g
    exact g
  · have g := k4 x y p (by rw [e5]; exact q) p' (by rw [e5]; exact q')
    rw [er, e3, e3, e8] at g
    exact g
  · have g := k5 x y p (by rw [e5]; exact q) p' (by rw [e5]; exact q')
    rw [e3, e3, e8] at g
    exact g
theorem vsj_t {T V : Zt} {f a : Int} {v : Mv_} {O : Int → Int} (e : ∀ m, V 102 m 3 = T 102 m 3 ∧ V 102 m 4 = T 102 m 4) : ∀ n : Nat, vsj_ V f v O a n = vsj_ T f v O a n
  | 0 => rfl
  | n + 1 => by
    show von_ (vsj_ V f v O a n) (O (n : Int) - f) (V 102 (O (n : Int)) 3) (V 102 (O (n : Int)) 4) _ _ = von_ (vsj_ T f v O a n) (O (n : Int) - f) (T 102 (O (n : Int)) 3) (T 102 (O (n : Int)) 4) _ _
    rw [vsj_t e n, (e (O (n : Int))).1, (e (O (n : Int))).2]
theorem ovq_t {T V U : Zt} {c : Int} {WW : Int → Int → Int → Int} (e5 : V 100 c 5 = T 100 c 5) (e3 : ∀ j, V 403 c j = T 403 c j) (e1 : ∀ j, V 401 c j = T 401 c j) (h : OVq_ V U c WW) : OVq_ T U c WW := by
  obtain ⟨r2, r3, r1⟩ := h
  rw [e5] at r1 r2 r3
  have er : RKh_ V c WW = RKh_ T c WW := by
    unfold RKh_
    rw [e1, e1, e5, show (fun x => V 403 c x) = (fun x => T 403 c x) from funext e3]
  rw [er, show (fun x => V 403 c (U 547 0 x)) = (fun x => T 403 c (U 547 0 x)) from funext (fun x => e3 _)] at r2
  exact ⟨r2, r3, r1⟩
def p3_ (l : Int) : Int := if l = 0 then 1 else if l = 1 then 3 else if l = 2 then 9 else 27
/-- u of the first g rows are counted -/
def CNg_ (Q : Int → Prop → Prop) (u g : Int) : Prop := ∃ B : Int → Prop, u = cnt3_ B g.toNat ∧ ∀ r, 0 ≤ r → r < g → Q r (B r)
theorem cng_0 {Q : Int → Prop → Prop} : CNg_ Q 0 0 := ⟨fun _ => True, rfl, fun r a b => by omega⟩
theorem cng_s {Q : Int → Prop → Prop} {u v g : Int} {b : Prop} (h : CNg_ Q u g) (g0 : 0 ≤ g) (hb : Q g b) (hv : (b ∧ v = u + 1) ∨ (¬ b ∧ v = u)) : CNg_ Q v (g + 1) := by
  obtain ⟨B, e, q⟩ := h
  have eg : ((g.toNat : Nat) : Int) = g := by omega
  refine ⟨fun r => (r = g ∧ b) ∨ (r ≠ g ∧ B r), ?_, fun r a k => ?_⟩
  · rw [show (g + 1).toNat = g.toNat + 1 by omega]
    show v = cnt3_ (fun r => (r = g ∧ b) ∨ (r ≠ g ∧ B r)) g.toNat + cz_ ((((g.toNat : Nat) : Int) = g ∧ b) ∨ (((g.toNat : Nat) : Int) ≠ g ∧ B ((g.toNat : Nat) : Int))) 1 0
    rw [cnt3_e (P := fun r => (r = g ∧ b) ∨ (r ≠ g ∧ B r)) (Q := B) g.toNat (fun r a k => ⟨fun z => z.elim (fun y => absurd y.1 (by omega)) (fun y => y.2), fun z => Or.inr ⟨by omega, z⟩⟩), ← e, eg]
    rcases hv with z | z
    · rw [cz_t (Or.inl ⟨rfl, z.1⟩)]
      exact z.2
    · rw [cz_f (fun y => y.elim (fun w => z.1 w.2) (fun w => w.1 rfl))]
      exact z.2.trans (by omega)
  · show Q r ((r = g ∧ b) ∨ (r ≠ g ∧ B r))
    by_cases z : r = g
    · rw [show ((r = g ∧ b) ∨ (r ≠ g ∧ B r)) = b from propext ⟨fun w => w.elim (fun p => p.2) (fun p => absurd z p.1), fun w => Or.inl ⟨z, w⟩⟩, z]
      exact hb
    · rw [show ((r = g ∧ b) ∨ (r ≠ g ∧ B r)) = B r from propext ⟨fun w => w.elim (fun p => absurd p.1 z) (fun p => p.2), fun w => Or.inr ⟨z, w⟩⟩]
      exact q r a (by omega)
/-- whether the reference has the club first when row r is supposed -/
def BPr_ (T : Zt) (c cl n : Int) (O : Int → Int) (r : Int) (b : Prop) : Prop := ∃ (S T' : Zt) (x : Int), fr_ [(276, []), (284, []), (277, []), (286, []), (278, []), (297, []), (281, []), (111, [82, 83, 85, 87, 79, 80])] T S ∧ S 111 0 80 = 1 ∧ (∀ j, 0 ≤ j → j < n → S 281 0 (O j) = rs3_ r j.toNat % 3) ∧ fr_ [(276, []), (284, []), (277, []), (286, []), (278, []), (111, [82, 83, 85, 87, 79])] S T' ∧ (∀ v, HE_ S c v → OC_ T' (S 208 0 c) v) ∧ TD_ S T' (fun w => S 205 0 (23 * c + w)) (fun k => vR_ S 999 (S 210 0 c + k)) (S 211 0 c).toNat c 999 (S 111 0 24).toNat ∧ (mk9_ (S 208 0 c) (fun x => T' 277 0 x), mk9_ (S 208 0 c) (fun x => T' 278 0 x)) = RKm_ T' c 999 (S 208 0 c) ∧ PXm_ T' cl x ∧ (b ↔ x = 1)
theorem bk_X9_isFirstBy_e_20 : ck_ fX9 (some .boolean) cX9_isFirstBy 20 [.iload 5, .iload 2, .if_icmp .ge 87, .iload 4, .iconst 3, .irem, .istore 6, .iload 4, .iconst 3, .idiv, .istore 4, .aload 0, .tableswitch 0 9 1 #[], .aload 0, .tableswitch 0 9 0 #[], .tableswitch 0 6 3 #[], .aload 0, .tableswitch 0 9 8 #[], .iload 5, .iaload, .aaload, .iload 6, .ifCond .ne 66, .iconst 1, .goto 67] 66 = true := qck_r (nn_ _) (by decide +kernel)
theorem bs_X9_isFirstBy_e_20 {P : Zt → Option Zv → Prop} (K : Int → Zl → List Zv → Zt → Prop) : sx_ K P [.iload 5, .iload 2, .if_icmp .ge 87, .iload 4, .iconst 3, .irem, .istore 6, .iload 4, .iconst 3, .idiv, .istore 4, .aload 0, .tableswitch 0 9 1 #[], .aload 0, .tableswitch 0 9 0 #[], .tableswitch 0 6 3 #[], .aload 0, .tableswitch 0 9 8 #[], .iload 5, .iaload, .aaload, .iload 6, .ifCond .ne 66, .iconst 1, .goto 67] 66 = x_iload 5 (x_iload 2 (x_if_icmp .ge 87 K (x_iload 4 (x_iconst 3 (x_irem (x_istore 6 (x_iload 4 (x_iconst 3 (x_idiv (x_istore 4 (x_aload 0 (x_g1 109 107 (x_aload 0 (x_g1 109 106 (x_g1 106 523 (x_aload 0 (x_g1 109 588 (x_iload 5 (x_iaload (x_aaload (x_iload 6 (x_ifCond .ne 66 K (x_iconst 1 (x_goto 67 K)))))))))))))))))))))))) := ((xe_iload 5).trans (congrArg (x_iload 5) ((xe_iload 2).trans (congrArg (x_iload 2) ((xe_if_icmp .ge 87).trans (congrArg (x_if_icmp .ge 87 K) ((xe_iload 4).trans (congrArg (x_iload 4) ((xe_iconst 3).trans (congrArg (x_iconst 3) ((xe_irem).trans (congrArg (x_irem) ((xe_istore 6).trans (congrArg (x_istore 6) ((xe_iload 4).trans (congrArg (x_iload 4) ((xe_iconst 3).trans (congrArg (x_iconst 3) ((xe_idiv).trans (congrArg (x_idiv) ((xe_istore 4).trans (congrArg (x_istore 4) ((xe_aload 0).trans (congrArg (x_aload 0) ((xe_g1 (kk := 109) rfl tl_9_1).trans (congrArg (x_g1 109 107) ((xe_aload 0).trans (congrArg (x_aload 0) ((xe_g1 (kk := 109) rfl tl_9_0).trans (congrArg (x_g1 109 106) ((xe_g1 (kk := 106) rfl tl_6_3).trans (congrArg (x_g1 106 523) ((xe_aload 0).trans (congrArg (x_aload 0) ((xe_g1 (kk := 109) rfl tl_9_8).trans (congrArg (x_g1 109 588) ((xe_iload 5).trans (congrArg (x_iload 5) ((xe_iaload).trans (congrArg (x_iaload) ((xe_aaload).trans (congrArg (x_aaload) ((xe_iload 6).trans (congrArg (x_iload 6) ((xe_ifCond .ne 66).trans (congrArg (x_ifCond .ne 66 K) ((xe_iconst 1).trans (congrArg (x_iconst 1) (xe_goto 67)))))))))))))))))))))))))))))))))))))))))))))))))
theorem bk_X9_isFirstBy_e_87 : ck_ fX9 (some .boolean) cX9_isFirstBy 87 [.aload 0, .tableswitch 0 9 1 #[]] 91 = true := qck_r (nn_ _) (by decide +kernel)
theorem bs_X9_isFirstBy_e_87 {P : Zt → Option Zv → Prop} (K : Int → Zl → List Zv → Zt → Prop) : sx_ K P [.aload 0, .tableswitch 0 9 1 #[]] 91 = x_aload 0 (x_g1 109 107 (K 91)) := ((xe_aload 0).trans (congrArg (x_aload 0) ((xe_g1 (kk := 109) rfl tl_9_1).trans (congrArg (x_g1 109 107) xe_nil))))
theorem bk_X9_isFirstBy_e_94 : ck_ fX9 (some .boolean) cX9_isFirstBy 94 [.aload 0, .tableswitch 0 9 1 #[], .tableswitch 0 7 2 #[], .iload 3, .iconst 8, .imul, .iconst 7, .iadd, .iaload, .iconst 1, .if_icmp .ne 117, .iconst 1, .goto 118] 117 = true := qck_r (nn_ _) (by decide +kernel)
theorem bs_X9_isFirstBy_e_94 {P : Zt → Option Zv → Prop} (K : Int → Zl → List Zv → Zt → Prop) : sx_ K P [.aload 0, .tableswitch 0 9 1 #[], .tableswitch 0 7 2 #[], .iload 3, .iconst 8, .imul, .iconst 7, .iadd, .iaload, .iconst 1, .if_icmp .ne 117, .iconst 1, .goto 118] 117 = x_aload 0 (x_g1 109 107 (x_g1 107 542 (x_iload 3 (x_iconst 8 (x_imul (x_iconst 7 (x_iadd (x_iaload (x_iconst 1 (x_if_icmp .ne 117 K (x_iconst 1 (x_goto 118 K)))))))))))) := ((xe_aload 0).trans (congrArg (x_aload 0) ((xe_g1 (kk := 109) rfl tl_9_1).trans (congrArg (x_g1 109 107) ((xe_g1 (kk := 107) rfl tl_7_2).trans (congrArg (x_g1 107 542) ((xe_iload 3).trans (congrArg (x_iload 3) ((xe_iconst 8).trans (congrArg (x_iconst 8) ((xe_imul).trans (congrArg (x_imul) ((xe_iconst 7).trans (congrArg (x_iconst 7) ((xe_iadd).trans (congrArg (x_iadd) ((xe_iaload).trans (congrArg (x_iaload) ((xe_iconst 1).trans (congrArg (x_iconst 1) ((xe_if_icmp .ne 117).trans (congrArg (x_if_icmp .ne 117 K) ((xe_iconst 1).trans (congrArg (x_iconst 1) (xe_goto 118)))))))))))))))))))))))))
theorem bk_X9_isFirstBy_e_117 : ck_ fX9 (some .boolean) cX9_isFirstBy 117 [.iconst 0, .ireturn] 119 = true := qck_r (nn_ _) (by decide +kernel)
theorem bs_X9_isFirstBy_e_117 {P : Zt → Option Zv → Prop} (K : Int → Zl → List Zv → Zt → Prop) : sx_ K P [.iconst 0, .ireturn] 119 = x_iconst 0 (x_ireturn P) := ((xe_iconst 0).trans (congrArg (x_iconst 0) (xe_ireturn)))
theorem bk_X9_isFirstBy_e_118 : ck_ fX9 (some .boolean) cX9_isFirstBy 118 [.ireturn] 119 = true := qck_r (nn_ _) (by decide +kernel)
theorem bs_X9_isFirstBy_e_118 {P : Zt → Option Zv → Prop} (K : Int → Zl → List Zv → Zt → Prop) : sx_ K P [.ireturn] 119 = x_ireturn P := (xe_ireturn)
theorem bk_X9_isFirstBy_e_66 : ck_ fX9 (some .boolean) cX9_isFirstBy 66 [.iconst 0, .iload 6, .iconst 2, .if_icmp .ne 77, .iconst 1, .goto 78] 77 = true := qck_r (nn_ _) (by decide +kernel)
theorem bs_X9_isFirstBy_e_66 {P : Zt → Option Zv → Prop} (K : Int → Zl → List Zv → Zt → Prop) : sx_ K P [.iconst 0, .iload 6, .iconst 2, .if_icmp .ne 77, .iconst 1, .goto 78] 77 = x_iconst 0 (x_iload 6 (x_iconst 2 (x_if_icmp .ne 77 K (x_iconst 1 (x_goto 78 K))))) := ((xe_iconst 0).trans (congrArg (x_iconst 0) ((xe_iload 6).trans (congrArg (x_iload 6) ((xe_iconst 2).trans (congrArg (x_iconst 2) ((xe_if_icmp .ne 77).trans (congrArg (x_if_icmp .ne 77 K) ((xe_iconst 1).trans (congrArg (x_iconst 1) (xe_goto 78)))))))))))
theorem bk_X9_isFirstBy_e_77 : ck_ fX9 (some .boolean) cX9_isFirstBy 77 [.iconst 0] 78 = true := qck_r (nn_ _) (by decide +kernel)
theorem bs_X9_isFirstBy_e_77 {P : Zt → Option Zv → Prop} (K : Int → Zl → List Zv → Zt → Prop) : sx_ K P [.iconst 0] 78 = x_iconst 0 (K 78) := ((xe_iconst 0).trans (congrArg (x_iconst 0) xe_nil))
theorem bk_X9_isFirstBy_e_81 : ck_ fX9 (some .boolean) cX9_isFirstBy 81 [.iinc 5 1, .goto 20] 87 = true := qck_r (nn_ _) (by decide +kernel)
theorem bs_X9_isFirstBy_e_81 {P : Zt → Option Zv → Prop} (K : Int → Zl → List Zv → Zt → Prop) : sx_ K P [.iinc 5 1, .goto 20] 87 = x_iinc 5 1 (x_goto 20 K) := ((xe_iinc 5 1).trans (congrArg (x_iinc 5 1) (xe_goto 20)))
theorem bk_X9_isFirstBy_e_67 : ck_ fX9 (some .boolean) cX9_isFirstBy 67 [.iload 6, .iconst 2, .if_icmp .ne 77, .iconst 1, .goto 78] 77 = true := qck_r (nn_ _) (by decide +kernel)
theorem bs_X9_isFirstBy_e_67 {P : Zt → Option Zv → Prop} (K : Int → Zl → List Zv → Zt → Prop) : sx_ K P [.iload 6, .iconst 2, .if_icmp .ne 77, .iconst 1, .goto 78] 77 = x_iload 6 (x_iconst 2 (x_if_icmp .ne 77 K (x_iconst 1 (x_goto 78 K)))) := ((xe_iload 6).trans (congrArg (x_iload 6) ((xe_iconst 2).trans (congrArg (x_iconst 2) ((xe_if_icmp .ne 77).trans (congrArg (x_if_icmp .ne 77 K) ((xe_iconst 1).trans (congrArg (x_iconst 1) (xe_goto 78)))))))))
theorem bk_X9_isFirstBy_e_0 : ck_ fX9 (some .boolean) cX9_isFirstBy 0 [.aload 0, .tableswitch 0 9 1 #[], .aload 0, .tableswitch 0 9 5 #[], .iconst 999] 11 = true := qck_r (nn_ _) (by decide +kernel)
theorem bs_X9_isFirstBy_e_0 {P : Zt → Option Zv → Prop} (K : Int → Zl → List Zv → Zt → Prop) : sx_ K P [.aload 0, .tableswitch 0 9 1 #[], .aload 0, .tableswitch 0 9 5 #[], .iconst 999] 11 = x_aload 0 (x_g1 109 107 (x_aload 0 (x_g5 109 100 5 (x_iconst 999 (K 11))))) := ((xe_aload 0).trans (congrArg (x_aload 0) ((xe_g1 (kk := 109) rfl tl_9_1).trans (congrArg (x_g1 109 107) ((xe_aload 0).trans (congrArg (x_aload 0) ((xe_g5 (kk := 109) rfl tl_9_5).trans (congrArg (x_g5 109 100 5) ((xe_iconst 999).trans (congrArg (x_iconst 999) xe_nil))))))))))
theorem bk_X9_isFirstBy_e_14 : ck_ fX9 (some .boolean) cX9_isFirstBy 14 [.iload 1, .istore 4, .iconst 0, .istore 5] 20 = true := qck_r (nn_ _) (by decide +kernel)
theorem bs_X9_isFirstBy_e_14 {P : Zt → Option Zv → Prop} (K : Int → Zl → List Zv → Zt → Prop) : sx_ K P [.iload 1, .istore 4, .iconst 0, .istore 5] 20 = x_iload 1 (x_istore 4 (x_iconst 0 (x_istore 5 (K 20)))) := ((xe_iload 1).trans (congrArg (x_iload 1) ((xe_istore 4).trans (congrArg (x_istore 4) ((xe_iconst 0).trans (congrArg (x_iconst 0) ((xe_istore 5).trans (congrArg (x_istore 5) xe_nil))))))))
abbrev po_X9_isFirstBy_e (T : Zt) (c : Int) (WW : Int → Int → Int → Int) (a n s : Int) : Zt → Option Zv → Prop := fun T' r => ∃ x : Int, r = some (vI x) ∧ fr_ [(107, [1, 13]), (542, []), (543, []), (544, []), (545, []), (546, []), (550, []), (551, []), (552, []), (549, []), (547, []), (548, [])] T T' ∧ ((0 ≤ x ∧ x ≤ 1) ∧ OVq_ T T' c WW ∧ ((x = 1 ∧ T' 542 0 (s * 8 + 7) = 1) ∨ (x = 0 ∧ T' 542 0 (s * 8 + 7) ≠ 1)))
set_option maxHeartbeats 4000000 in
theorem ct_X9_isFirstBy_e {T : Zt} {c : Int} {WW : Int → Int → Int → Int} {a n s : Int} (hka : KA_ T) (hkc : KC_ T) (hc9 : T 109 0 5 = c + 1 ∧ 0 ≤ c ∧ c < T 106 0 2) (hs : 0 ≤ s ∧ s ≤ 11) (hn : 0 ≤ n ∧ n ≤ 40) (ha : 0 ≤ a) (hks : KS_ T) (hsk : SK_ T c) (hno : T 100 c 0 = c) (hop : ∀ j : Int, 0 ≤ j → j < n → T 100 c 7 ≤ T 588 0 j ∧ T 588 0 j < T 100 c 7 + T 100 c 8 ∧ vH_ T 999 (T 100 c 7 + (T 588 0 j - T 100 c 7)) 0 ≠ 1) (hin : ∀ i j : Int, 0 ≤ i → i < j → j < n → T 588 0 i < T 588 0 j) (hk4 : 0 ≤ T 401 c 4 ∧ T 401 c 4 ≤ 7) (hww : ∀ U, fr_ [(107, [1]), (542, []), (543, []), (544, []), (545, []), (546, [])] T U → ok_T U → HFv_ T U c 999 (vsj_ T (T 100 c 7) (fun k => vH_ T 999 (T 100 c 7 + k)) (fun j => T 588 0 j) a n.toNat) → HB9_ U c ∧ HWW_ U c WW) : Ct_ yX9_isFirstBy zX9_isFirstBy T [vR 109 0, vI a, vI n, vI s] (po_X9_isFirstBy_e T c WW a n s) := by
  refine ct_of pn_9 rfl rfl (Nat.le_of_ble_eq_true rfl) (fun hT hav => ?_)
  have hr_a : -2147483648 ≤ a ∧ a ≤ 2147483647 := hav (vI a) (List.mem_cons_of_mem _ List.mem_cons_self)
  have hr_n : -2147483648 ≤ n ∧ n ≤ 2147483647 := hav (vI n) (List.mem_cons_of_mem _ (List.mem_cons_of_mem _ List.mem_cons_self))
  have hr_s : -2147483648 ≤ s ∧ s ≤ 2147483647 := hav (vI s) (List.mem_cons_of_mem _ (List.mem_cons_of_mem _ (List.mem_cons_of_mem _ List.mem_cons_self)))
  have hz : zX9_isFirstBy.2.2.2.1 = some .boolean → ∀ (T' : Zt) (x : Int), po_X9_isFirstBy_e T c WW a n s T' (some (vI x)) → 0 ≤ x ∧ x ≤ 1 := fun _ T' x h => by obtain ⟨y, e, -, hy⟩ := h; cases e; omega
  have hk2 := hkc c hc9.2.1 hc9.2.2
  have hb_matchCount : 0 ≤ T 106 0 4 ∧ T 106 0 4 ≤ 400 := bd_f hT 106 4 tl_6_4 0
  have hcc : 0 ≤ T 106 0 2 ∧ T 106 0 2 ≤ 4 := bd_f hT 106 2 tl_6_2 0
  have hfm : 0 ≤ T 100 c 7 ∧ T 100 c 7 ≤ 400 := bd_f hT 100 7 tl_0_7 c
  have hmc : 0 ≤ T 100 c 8 ∧ T 100 c 8 ≤ 400 := bd_f hT 100 8 tl_0_8 c
  have hen : 0 ≤ T 100 c 5 ∧ T 100 c 5 ≤ 12 := bd_f hT 100 5 tl_0_5 c
  show J_ zX9_isFirstBy T (po_X9_isFirstBy_e T c WW a n s) 0 0 0 [some (vR 109 0), some (vI a), some (vI n), some (vI s), none, none, none] [] T
  have c_20 : ∀ (nn : Nat) (g : Int) (u : Int) (T1 : Zt), ((n - u).toNat) ≤ nn → (fr_ [(107, [1]), (542, []), (543, []), (544, []), (545, []), (546, [])] T T1) → (0 ≤ u ∧ u ≤ n ∧ 0 ≤ g) → (T1 107 0 1 = c + 1) → (g = rs3_ a u.toNat) → (HFv_ T T1 c 999 (vsj_ T (T 100 c 7) (fun k => vH_ T 999 (T 100 c 7 + k)) (fun j => T 588 0 j) a u.toNat)) → J_ zX9_isFirstBy T (po_X9_isFirstBy_e T c WW a n s) 0 0 20 [some (vR 109 0), some (vI a), some (vI n), some (vI s), some (vI g), some (vI u), none] [] T1 := by
    intro nn
    induction nn using Nat.strongRecOn with
    | _ nn ih_20 =>
      intro g u T1 hm_20 hf_20 i1 i0 gr1 hv1
      replace hm_20 := fun (_ : Unit) => hm_20
      refine j_blx (F := fX9) tb_X9 (nn_ _) bk_X9_isFirstBy_e_20 bs_X9_isFirstBy_e_20 hz (fun K hK => ?_)
      refine And.intro (fun c1 => ?_) (fun c1 => ?_)
      · refine hK 87 _ [] T1 ?_
        have en9 : u.toNat = n.toNat := by omega
        rw [en9] at hv1
        refine j_ok (fun hT9 _ => ?_)
        have ww9 := hww T1 hf_20 hT9 hv1
        refine j_blx (F := fX9) tb_X9 (nn_ _) bk_X9_isFirstBy_e_87 bs_X9_isFirstBy_e_87 hz (fun K hK => ?_)
        refine hK 91 _ [vR 107 0] T1 ?_
        have e2 : T1 401 c 4 = T 401 c 4 := hf_20 401 c 4 rfl
        have hb4 : 0 ≤ T 401 c 4 ∧ T 401 c 4 ≤ 999 := bd_a hT 401 (by decide +kernel : ta_ 401 = some (1, some 16, 0, 999)) c (by omega)
        refine j_callV (y := yX7_rank) (Yc := zX7_rank) (rest := []) [] (ct_X7_rank_e (T := T1) (c := c) (WW := WW) (by omega) ww9.1 (by omega) ww9.2) cl_X9_184 (qd_c (by decide +kernel)) (nn_ _) rfl (rf_of rfl) (Nat.le_of_ble_eq_true rfl) (Nat.le_of_ble_eq_true rfl) (Nat.le_of_ble_eq_true rfl) rfl ?_
        rintro U3 _ ⟨rfl, fU3, qU3⟩
        have ov9 : OVq_ T U3 c WW := ovq_i (hf_20 100 c 5 rfl) (fun j => hf_20 403 c j rfl) (fun j => hf_20 401 c j rfl) qU3
        show J_ zX9_isFirstBy T (po_X9_isFirstBy_e T c WW a n s) 0 0 94 _ [] U3
        refine j_blx (F := fX9) tb_X9 (nn_ _) bk_X9_isFirstBy_e_94 bs_X9_isFirstBy_e_94 hz (fun K hK => ?_)
        refine rg_i (by omega) ?_
        refine rg_i (by omega) ?_
        refine ix_i (by omega) ?_
        intro b4 b4b
        refine And.intro (fun c5 => ?_) (fun c5 => ?_)
        · refine hK 117 _ [] U3 ?_
          refine j_blx (F := fX9) tb_X9 (nn_ _) bk_X9_isFirstBy_e_117 bs_X9_isFirstBy_e_117 hz (fun K hK => ?_)
          refine (show po_X9_isFirstBy_e T c WW a n s U3 (some (vI 0)) from ?_)
          exact ⟨_, rfl, fr_t (fr_t (fr_0 _ _) (fr_s hf_20 rfl)) (fr_s fU3 rfl), ⟨by omega, ov9, by omega⟩⟩
        · refine hK 118 _ [vI 1] U3 ?_
          refine j_blx (F := fX9) tb_X9 (nn_ _) bk_X9_isFirstBy_e_118 bs_X9_isFirstBy_e_118 hz (fun K hK => ?_)
          refine (show po_X9_isFirstBy_e T c WW a n s U3 (some (vI 1)) from ?_)
          exact ⟨_, rfl, fr_t (fr_t (fr_0 _ _) (fr_s hf_20 rfl)) (fr_s fU3 rfl), ⟨by omega, ov9, by omega⟩⟩
      · refine dv_i (by omega) ?_
        refine dv_i (by omega) ?_
        refine ix_i (by omega) ?_
        intro b6 b6b
        have e7 : T1 588 0 u = T 588 0 u := hf_20 588 0 u rfl
        rw [e7] at b6 b6b ⊢
        refine ix_i (by omega) ?_
        have e9 : T1 523 0 (T 588 0 u) = T 523 0 (T 588 0 u) := hf_20 523 0 (T 588 0 u) rfl
        refine And.intro (fun c8 => ?_) (fun c8 => ?_)
        · exact absurd (show T 523 0 (T 588 0 u) = 0 by omega) (hka.2 _ (by have z := hop u (by omega) (by omega); omega) (by have z := hop u (by omega) (by omega); omega))
        · refine And.intro (fun c10 => ?_) (fun c10 => ?_)
          · refine hK 66 [some (vR 109 0), some (vI a), some (vI n), some (vI s), some (vI (g / 3)), some (vI u), some (vI (g % 3))] [vR 102 (T 588 0 u), vR 107 0] T1 ?_
            refine j_blx (F := fX9) tb_X9 (nn_ _) bk_X9_isFirstBy_e_66 bs_X9_isFirstBy_e_66 hz (fun K hK => ?_)
            refine And.intro (fun c11 => ?_) (fun c11 => ?_)
            · refine hK 77 _ [vI 0, vR 102 (T 588 0 u), vR 107 0] T1 ?_
              refine j_blx (F := fX9) tb_X9 (nn_ _) bk_X9_isFirstBy_e_77 bs_X9_isFirstBy_e_77 hz (fun K hK => ?_)
              refine hK 78 _ [vI 0, vI 0, vR 102 (T 588 0 u), vR 107 0] T1 ?_
              have hov12 := hop u (by omega) (by omega)
              have hHv12 : T1 404 (T1 107 0 1 - 1) (T1 102 (T 588 0 u) 3) = T 404 c (T 102 (T 588 0 u) 3) := by rw [show T1 107 0 1 - 1 = c by omega, hf_20 102 (T 588 0 u) 3 rfl]; exact hf_20 404 c (T 102 (T 588 0 u) 3) rfl
              have hAv12 : T1 404 (T1 107 0 1 - 1) (T1 102 (T 588 0 u) 4) = T 404 c (T 102 (T 588 0 u) 4) := by rw [show T1 107 0 1 - 1 = c by omega, hf_20 102 (T 588 0 u) 4 rfl]; exact hf_20 404 c (T 102 (T 588 0 u) 4) rfl
              have hRv12 : (fun w => T1 401 (T1 107 0 1 - 1) w) = (fun w => T 401 c w) := by rw [show T1 107 0 1 - 1 = c by omega]; exact funext (fun w => hf_20 401 c w rfl)
              have hkv12 := hks c (by omega) (by omega) (T 588 0 u) (by omega) (by omega)
              refine j_callV (y := yX7_addResult) (Yc := zX7_addResult) (rest := []) [vR 102 (T 588 0 u), vI 0, vI 0] (ct_X7_addResult_e (T := T1) (by omega) (by rw [hHv12, hAv12]; exact ⟨hkv12.2.1, hkv12.2.2⟩)) cl_X9_180 (qd_c (by decide +kernel)) (nn_ _) rfl (rf_of rfl) (Nat.le_of_ble_eq_true rfl) (Nat.le_of_ble_eq_true rfl) (Nat.le_of_ble_eq_true rfl) rfl ?_
              rintro U13 _ ⟨rfl, fU13, qU13l, qU13a, qU13p, qU13s⟩
              rw [hHv12, hAv12, hRv12] at qU13l qU13p
              rw [hHv12, hAv12] at qU13s
              rw [hAv12] at qU13a
              show J_ zX9_isFirstBy T (po_X9_isFirstBy_e T c WW a n s) 0 0 81 _ [] U13
              refine j_blx (F := fX9) tb_X9 (nn_ _) bk_X9_isFirstBy_e_81 bs_X9_isFirstBy_e_81 hz (fun K hK => ?_)
              refine rg_i (by omega) ?_
              refine hK 20 [some (vR 109 0), some (vI a), some (vI n), some (vI s), some (vI (g / 3)), some (vI (u + 1)), some (vI (g % 3))] [] U13 ?_
              refine j_drop [some (vR 109 0), some (vI a), some (vI n), some (vI s), some (vI (g / 3)), some (vI (u + 1)), none] (fun k v hk => ?_) rfl ?_
              · match k, hk with
                | 0, hk => exact hk
                | 1, hk => exact hk
                | 2, hk => exact hk
                | 3, hk => exact hk
                | 4, hk => exact hk
                | 5, hk => exact hk
                | 6, hk => cases hk
                | k + 7, hk => cases hk
              have e14 : U13 107 0 1 = T1 107 0 1 := fU13 107 0 1 rfl
              refine ih_20 _ ?_ (g / 3) (u + 1) U13 (Nat.le_refl _) ?_ ?_ ?_ ?_ ?_
              · have hm_20 := hm_20 (); omega
              · exact fr_t (fr_t (fr_0 _ _) (fr_s hf_20 rfl)) (fr_s fU13 rfl)
              · omega
              · omega
              · rw [show (u + 1).toNat = u.toNat + 1 by omega]
                show g / 3 = rs3_ a u.toNat / 3
                rw [← gr1]
              · rw [show (u + 1).toNat = u.toNat + 1 by omega]
                have ek : ((u.toNat : Nat) : Int) = u := by omega
                have hb3 : 0 ≤ T 102 (T 588 0 u) 3 ∧ T 102 (T 588 0 u) 3 ≤ 11 := bd_f hT 102 3 tl_2_3 (T 588 0 u)
                have hb4 : 0 ≤ T 102 (T 588 0 u) 4 ∧ T 102 (T 588 0 u) 4 ≤ 11 := bd_f hT 102 4 tl_2_4 (T 588 0 u)
                have hs3 : (-1) ≤ T 404 c (T 102 (T 588 0 u) 3) ∧ T 404 c (T 102 (T 588 0 u) 3) ≤ 11 := bd_a hT 404 (by decide +kernel : ta_ 404 = some (1, some 12, (-1), 11)) c (by omega)
                have hs4 : (-1) ≤ T 404 c (T 102 (T 588 0 u) 4) ∧ T 404 c (T 102 (T 588 0 u) 4) ≤ 11 := bd_a hT 404 (by decide +kernel : ta_ 404 = some (1, some 12, (-1), 11)) c (by omega)
                have n0 : (vsj_ T (T 100 c 7) (fun k => vH_ T 999 (T 100 c 7 + k)) (fun j => T 588 0 j) a u.toNat) ((T 588 0 u) - T 100 c 7) 0 ≠ 1 := by
                  rw [vsj_o u.toNat (fun j p9 q9 => by
                    show T 588 0 j - T 100 c 7 ≠ T 588 0 u - T 100 c 7
                    have y9 := hin j u p9 (by omega) (by omega)
                    omega)]
                  exact hov12.2.2
                have ea : sa3_ (rs3_ a u.toNat) = 0 := by
                  rw [← gr1]
                  unfold sa3_
                  first
                  | exact if_pos (by omega)
                  | exact if_neg (by omega)
                have eb : sb3_ (rs3_ a u.toNat) = 0 := by
                  rw [← gr1]
                  unfold sb3_
                  first
                  | exact if_pos (by omega)
                  | exact if_neg (by omega)
                have z9 := hfv_on (hm := T 102 (T 588 0 u) 3) (aw := T 102 (T 588 0 u) 4) (a := 0) (b := 0) (k0 := (T 588 0 u) - T 100 c 7) hv1 hsk (by omega) (by omega) n0 (by omega) (by omega) (by omega) (by omega) (lv_k qU13l (fun j => rfl)) qU13a (fun j => fU13 544 0 j rfl) qU13p qU13s
                show HFv_ T U13 c 999 (von_ (vsj_ T (T 100 c 7) (fun k => vH_ T 999 (T 100 c 7 + k)) (fun j => T 588 0 j) a u.toNat) (T 588 0 ((u.toNat : Nat) : Int) - T 100 c 7) (T 102 (T 588 0 ((u.toNat : Nat) : Int)) 3) (T 102 (T 588 0 ((u.toNat : Nat) : Int)) 4) (sa3_ (rs3_ a u.toNat)) (sb3_ (rs3_ a u.toNat)))
                rw [ek, ea, eb]
                exact z9
            · refine hK 78 [some (vR 109 0), some (vI a), some (vI n), some (vI s), some (vI (g / 3)), some (vI u), some (vI (g % 3))] [vI 1, vI 0, vR 102 (T 588 0 u), vR 107 0] T1 ?_
              have hov15 := hop u (by omega) (by omega)
              have hHv15 : T1 404 (T1 107 0 1 - 1) (T1 102 (T 588 0 u) 3) = T 404 c (T 102 (T 588 0 u) 3) := by rw [show T1 107 0 1 - 1 = c by omega, hf_20 102 (T 588 0 u) 3 rfl]; exact hf_20 404 c (T 102 (T 588 0 u) 3) rfl
              have hAv15 : T1 404 (T1 107 0 1 - 1) (T1 102 (T 588 0 u) 4) = T 404 c (T 102 (T 588 0 u) 4) := by rw [show T1 107 0 1 - 1 = c by omega, hf_20 102 (T 588 0 u) 4 rfl]; exact hf_20 404 c (T 102 (T 588 0 u) 4) rfl
              have hRv15 : (fun w => T1 401 (T1 107 0 1 - 1) w) = (fun w => T 401 c w) := by rw [show T1 107 0 1 - 1 = c by omega]; exact funext (fun w => hf_20 401 c w rfl)
              have hkv15 := hks c (by omega) (by omega) (T 588 0 u) (by omega) (by omega)
              refine j_callV (y := yX7_addResult) (Yc := zX7_addResult) (rest := []) [vR 102 (T 588 0 u), vI 0, vI 1] (ct_X7_addResult_e (T := T1) (by omega) (by rw [hHv15, hAv15]; exact ⟨hkv15.2.1, hkv15.2.2⟩)) cl_X9_180 (qd_c (by decide +kernel)) (nn_ _) rfl (rf_of rfl) (Nat.le_of_ble_eq_true rfl) (Nat.le_of_ble_eq_true rfl) (Nat.le_of_ble_eq_true rfl) rfl ?_
              rintro U16 _ ⟨rfl, fU16, qU16l, qU16a, qU16p, qU16s⟩
              rw [hHv15, hAv15, hRv15] at qU16l qU16p
              rw [hHv15, hAv15] at qU16s
              rw [hAv15] at qU16a
              show J_ zX9_isFirstBy T (po_X9_isFirstBy_e T c WW a n s) 0 0 81 _ [] U16
              refine j_blx (F := fX9) tb_X9 (nn_ _) bk_X9_isFirstBy_e_81 bs_X9_isFirstBy_e_81 hz (fun K hK => ?_)
              refine rg_i (by omega) ?_
              refine hK 20 [some (vR 109 0), some (vI a), some (vI n), some (vI s), some (vI (g / 3)), some (vI (u + 1)), some (vI (g % 3))] [] U16 ?_
              refine j_drop [some (vR 109 0), some (vI a), some (vI n), some (vI s), some (vI (g / 3)), some (vI (u + 1)), none] (fun k v hk => ?_) rfl ?_
              · match k, hk with
                | 0, hk => exact hk
                | 1, hk => exact hk
                | 2, hk => exact hk
                | 3, hk => exact hk
                | 4, hk => exact hk
                | 5, hk => exact hk
                | 6, hk => cases hk
                | k + 7, hk => cases hk
              have e17 : U16 107 0 1 = T1 107 0 1 := fU16 107 0 1 rfl
              refine ih_20 _ ?_ (g / 3) (u + 1) U16 (Nat.le_refl _) ?_ ?_ ?_ ?_ ?_
              · have hm_20 := hm_20 (); omega
              · exact fr_t (fr_t (fr_0 _ _) (fr_s hf_20 rfl)) (fr_s fU16 rfl)
              · omega
              · omega
              · rw [show (u + 1).toNat = u.toNat + 1 by omega]
                show g / 3 = rs3_ a u.toNat / 3
                rw [← gr1]
              · rw [show (u + 1).toNat = u.toNat + 1 by omega]
                have ek : ((u.toNat : Nat) : Int) = u := by omega
                have hb3 : 0 ≤ T 102 (T 588 0 u) 3 ∧ T 102 (T 588 0 u) 3 ≤ 11 := bd_f hT 102 3 tl_2_3 (T 588 0 u)
                have hb4 : 0 ≤ T 102 (T 588 0 u) 4 ∧ T 102 (T 588 0 u) 4 ≤ 11 := bd_f hT 102 4 tl_2_4 (T 588 0 u)
                have hs3 : (-1) ≤ T 404 c (T 102 (T 588 0 u) 3) ∧ T 404 c (T 102 (T 588 0 u) 3) ≤ 11 := bd_a hT 404 (by decide +kernel : ta_ 404 = some (1, some 12, (-1), 11)) c (by omega)
                have hs4 : (-1) ≤ T 404 c (T 102 (T 588 0 u) 4) ∧ T 404 c (T 102 (T 588 0 u) 4) ≤ 11 := bd_a hT 404 (by decide +kernel : ta_ 404 = some (1, some 12, (-1), 11)) c (by omega)
                have n0 : (vsj_ T (T 100 c 7) (fun k => vH_ T 999 (T 100 c 7 + k)) (fun j => T 588 0 j) a u.toNat) ((T 588 0 u) - T 100 c 7) 0 ≠ 1 := by
                  rw [vsj_o u.toNat (fun j p9 q9 => by
                    show T 588 0 j - T 100 c 7 ≠ T 588 0 u - T 100 c 7
                    have y9 := hin j u p9 (by omega) (by omega)
                    omega)]
                  exact hov15.2.2
                have ea : sa3_ (rs3_ a u.toNat) = 0 := by
                  rw [← gr1]
                  unfold sa3_
                  first
                  | exact if_pos (by omega)
                  | exact if_neg (by omega)
                have eb : sb3_ (rs3_ a u.toNat) = 1 := by
                  rw [← gr1]
                  unfold sb3_
                  first
                  | exact if_pos (by omega)
                  | exact if_neg (by omega)
                have z9 := hfv_on (hm := T 102 (T 588 0 u) 3) (aw := T 102 (T 588 0 u) 4) (a := 0) (b := 1) (k0 := (T 588 0 u) - T 100 c 7) hv1 hsk (by omega) (by omega) n0 (by omega) (by omega) (by omega) (by omega) (lv_k qU16l (fun j => rfl)) qU16a (fun j => fU16 544 0 j rfl) qU16p qU16s
                show HFv_ T U16 c 999 (von_ (vsj_ T (T 100 c 7) (fun k => vH_ T 999 (T 100 c 7 + k)) (fun j => T 588 0 j) a u.toNat) (T 588 0 ((u.toNat : Nat) : Int) - T 100 c 7) (T 102 (T 588 0 ((u.toNat : Nat) : Int)) 3) (T 102 (T 588 0 ((u.toNat : Nat) : Int)) 4) (sa3_ (rs3_ a u.toNat)) (sb3_ (rs3_ a u.toNat)))
                rw [ek, ea, eb]
                exact z9
          · refine hK 67 _ [vI 1, vR 102 (T 588 0 u), vR 107 0] T1 ?_
            refine j_blx (F := fX9) tb_X9 (nn_ _) bk_X9_isFirstBy_e_67 bs_X9_isFirstBy_e_67 hz (fun K hK => ?_)
            refine And.intro (fun c18 => ?_) (fun c18 => ?_)
            · refine hK 77 _ [vI 1, vR 102 (T 588 0 u), vR 107 0] T1 ?_
              refine j_blx (F := fX9) tb_X9 (nn_ _) bk_X9_isFirstBy_e_77 bs_X9_isFirstBy_e_77 hz (fun K hK => ?_)
              refine hK 78 _ [vI 0, vI 1, vR 102 (T 588 0 u), vR 107 0] T1 ?_
              have hov19 := hop u (by omega) (by omega)
              have hHv19 : T1 404 (T1 107 0 1 - 1) (T1 102 (T 588 0 u) 3) = T 404 c (T 102 (T 588 0 u) 3) := by rw [show T1 107 0 1 - 1 = c by omega, hf_20 102 (T 588 0 u) 3 rfl]; exact hf_20 404 c (T 102 (T 588 0 u) 3) rfl
              have hAv19 : T1 404 (T1 107 0 1 - 1) (T1 102 (T 588 0 u) 4) = T 404 c (T 102 (T 588 0 u) 4) := by rw [show T1 107 0 1 - 1 = c by omega, hf_20 102 (T 588 0 u) 4 rfl]; exact hf_20 404 c (T 102 (T 588 0 u) 4) rfl
              have hRv19 : (fun w => T1 401 (T1 107 0 1 - 1) w) = (fun w => T 401 c w) := by rw [show T1 107 0 1 - 1 = c by omega]; exact funext (fun w => hf_20 401 c w rfl)
              have hkv19 := hks c (by omega) (by omega) (T 588 0 u) (by omega) (by omega)
              refine j_callV (y := yX7_addResult) (Yc := zX7_addResult) (rest := []) [vR 102 (T 588 0 u), vI 1, vI 0] (ct_X7_addResult_e (T := T1) (by omega) (by rw [hHv19, hAv19]; exact ⟨hkv19.2.1, hkv19.2.2⟩)) cl_X9_180 (qd_c (by decide +kernel)) (nn_ _) rfl (rf_of rfl) (Nat.le_of_ble_eq_true rfl) (Nat.le_of_ble_eq_true rfl) (Nat.le_of_ble_eq_true rfl) rfl ?_
              rintro U20 _ ⟨rfl, fU20, qU20l, qU20a, qU20p, qU20s⟩
              rw [hHv19, hAv19, hRv19] at qU20l qU20p
              rw [hHv19, hAv19] at qU20s
              rw [hAv19] at qU20a
              show J_ zX9_isFirstBy T (po_X9_isFirstBy_e T c WW a n s) 0 0 81 _ [] U20
              refine j_blx (F := fX9) tb_X9 (nn_ _) bk_X9_isFirstBy_e_81 bs_X9_isFirstBy_e_81 hz (fun K hK => ?_)
              refine rg_i (by omega) ?_
              refine hK 20 [some (vR 109 0), some (vI a), some (vI n), some (vI s), some (vI (g / 3)), some (vI (u + 1)), some (vI (g % 3))] [] U20 ?_
              refine j_drop [some (vR 109 0), some (vI a), some (vI n), some (vI s), some (vI (g / 3)), some (vI (u + 1)), none] (fun k v hk => ?_) rfl ?_
              · match k, hk with
                | 0, hk => exact hk
                | 1, hk => exact hk
                | 2, hk => exact hk
                | 3, hk => exact hk
                | 4, hk => exact hk
                | 5, hk => exact hk
                | 6, hk => cases hk
                | k + 7, hk => cases hk
              have e21 : U20 107 0 1 = T1 107 0 1 := fU20 107 0 1 rfl
              refine ih_20 _ ?_ (g / 3) (u + 1) U20 (Nat.le_refl _) ?_ ?_ ?_ ?_ ?_
              · have hm_20 := hm_20 (); omega
              · exact fr_t (fr_t (fr_0 _ _) (fr_s hf_20 rfl)) (fr_s fU20 rfl)
              · omega
              · omega
              · rw [show (u + 1).toNat = u.toNat + 1 by omega]
                show g / 3 = rs3_ a u.toNat / 3
                rw [← gr1]
              · rw [show (u + 1).toNat = u.toNat + 1 by omega]
                have ek : ((u.toNat : Nat) : Int) = u := by omega
                have hb3 : 0 ≤ T 102 (T 588 0 u) 3 ∧ T 102 (T 588 0 u) 3 ≤ 11 := bd_f hT 102 3 tl_2_3 (T 588 0 u)
                have hb4 : 0 ≤ T 102 (T 588 0 u) 4 ∧ T 102 (T 588 0 u) 4 ≤ 11 := bd_f hT 102 4 tl_2_4 (T 588 0 u)
                have hs3 : (-1) ≤ T 404 c (T 102 (T 588 0 u) 3) ∧ T 404 c (T 102 (T 588 0 u) 3) ≤ 11 := bd_a hT 404 (by decide +kernel : ta_ 404 = some (1, some 12, (-1), 11)) c (by omega)
                have hs4 : (-1) ≤ T 404 c (T 102 (T 588 0 u) 4) ∧ T 404 c (T 102 (T 588 0 u) 4) ≤ 11 := bd_a hT 404 (by decide +kernel : ta_ 404 = some (1, some 12, (-1), 11)) c (by omega)
                have n0 : (vsj_ T (T 100 c 7) (fun k => vH_ T 999 (T 100 c 7 + k)) (fun j => T 588 0 j) a u.toNat) ((T 588 0 u) - T 100 c 7) 0 ≠ 1 := by
                  rw [vsj_o u.toNat (fun j p9 q9 => by
                    show T 588 0 j - T 100 c 7 ≠ T 588 0 u - T 100 c 7
                    have y9 := hin j u p9 (by omega) (by omega)
                    omega)]
                  exact hov19.2.2
                have ea : sa3_ (rs3_ a u.toNat) = 1 := by
                  rw [← gr1]
                  unfold sa3_
                  first
                  | exact if_pos (by omega)
                  | exact if_neg (by omega)
                have eb : sb3_ (rs3_ a u.toNat) = 0 := by
                  rw [← gr1]
                  unfold sb3_
                  first
                  | exact if_pos (by omega)
                  | exact if_neg (by omega)
                have z9 := hfv_on (hm := T 102 (T 588 0 u) 3) (aw := T 102 (T 588 0 u) 4) (a := 1) (b := 0) (k0 := (T 588 0 u) - T 100 c 7) hv1 hsk (by omega) (by omega) n0 (by omega) (by omega) (by omega) (by omega) (lv_k qU20l (fun j => rfl)) qU20a (fun j => fU20 544 0 j rfl) qU20p qU20s
                show HFv_ T U20 c 999 (von_ (vsj_ T (T 100 c 7) (fun k => vH_ T 999 (T 100 c 7 + k)) (fun j => T 588 0 j) a u.toNat) (T 588 0 ((u.toNat : Nat) : Int) - T 100 c 7) (T 102 (T 588 0 ((u.toNat : Nat) : Int)) 3) (T 102 (T 588 0 ((u.toNat : Nat) : Int)) 4) (sa3_ (rs3_ a u.toNat)) (sb3_ (rs3_ a u.toNat)))
                rw [ek, ea, eb]
                exact z9
            · refine hK 78 [some (vR 109 0), some (vI a), some (vI n), some (vI s), some (vI (g / 3)), some (vI u), some (vI (g % 3))] [vI 1, vI 1, vR 102 (T 588 0 u), vR 107 0] T1 ?_
              have hov22 := hop u (by omega) (by omega)
              have hHv22 : T1 404 (T1 107 0 1 - 1) (T1 102 (T 588 0 u) 3) = T 404 c (T 102 (T 588 0 u) 3) := by rw [show T1 107 0 1 - 1 = c by omega, hf_20 102 (T 588 0 u) 3 rfl]; exact hf_20 404 c (T 102 (T 588 0 u) 3) rfl
              have hAv22 : T1 404 (T1 107 0 1 - 1) (T1 102 (T 588 0 u) 4) = T 404 c (T 102 (T 588 0 u) 4) := by rw [show T1 107 0 1 - 1 = c by omega, hf_20 102 (T 588 0 u) 4 rfl]; exact hf_20 404 c (T 102 (T 588 0 u) 4) rfl
              have hRv22 : (fun w => T1 401 (T1 107 0 1 - 1) w) = (fun w => T 401 c w) := by rw [show T1 107 0 1 - 1 = c by omega]; exact funext (fun w => hf_20 401 c w rfl)
              have hkv22 := hks c (by omega) (by omega) (T 588 0 u) (by omega) (by omega)
              refine j_callV (y := yX7_addResult) (Yc := zX7_addResult) (rest := []) [vR 102 (T 588 0 u), vI 1, vI 1] (ct_X7_addResult_e (T := T1) (by omega) (by rw [hHv22, hAv22]; exact ⟨hkv22.2.1, hkv22.2.2⟩)) cl_X9_180 (qd_c (by decide +kernel)) (nn_ _) rfl (rf_of rfl) (Nat.le_of_ble_eq_true rfl) (Nat.le_of_ble_eq_true rfl) (Nat.le_of_ble_eq_true rfl) rfl ?_
              rintro U23 _ ⟨rfl, fU23, qU23l, qU23a, qU23p, qU23s⟩
              rw [hHv22, hAv22, hRv22] at qU23l qU23p
              rw [hHv22, hAv22] at qU23s
              rw [hAv22] at qU23a
              show J_ zX9_isFirstBy T (po_X9_isFirstBy_e T c WW a n s) 0 0 81 _ [] U23
              refine j_blx (F := fX9) tb_X9 (nn_ _) bk_X9_isFirstBy_e_81 bs_X9_isFirstBy_e_81 hz (fun K hK => ?_)
              refine rg_i (by omega) ?_
              refine hK 20 [some (vR 109 0), some (vI a), some (vI n), some (vI s), some (vI (g / 3)), some (vI (u + 1)), some (vI (g % 3))] [] U23 ?_
              refine j_drop [some (vR 109 0), some (vI a), some (vI n), some (vI s), some (vI (g / 3)), some (vI (u + 1)), none] (fun k v hk => ?_) rfl ?_
              · match k, hk with
                | 0, hk => exact hk
                | 1, hk => exact hk
                | 2, hk => exact hk
                | 3, hk => exact hk
                | 4, hk => exact hk
                | 5, hk => exact hk
                | 6, hk => cases hk
                | k + 7, hk => cases hk
              have e24 : U23 107 0 1 = T1 107 0 1 := fU23 107 0 1 rfl
              refine ih_20 _ ?_ (g / 3) (u + 1) U23 (Nat.le_refl _) ?_ ?_ ?_ ?_ ?_
              · have hm_20 := hm_20 (); omega
              · exact fr_t (fr_t (fr_0 _ _) (fr_s hf_20 rfl)) (fr_s fU23 rfl)
              · omega
              · omega
              · rw [show (u + 1).toNat = u.toNat + 1 by omega]
                show g / 3 = rs3_ a u.toNat / 3
                rw [← gr1]
              · rw [show (u + 1).toNat = u.toNat + 1 by omega]
                have ek : ((u.toNat : Nat) : Int) = u := by omega
                have hb3 : 0 ≤ T 102 (T 588 0 u) 3 ∧ T 102 (T 588 0 u) 3 ≤ 11 := bd_f hT 102 3 tl_2_3 (T 588 0 u)
                have hb4 : 0 ≤ T 102 (T 588 0 u) 4 ∧ T 102 (T 588 0 u) 4 ≤ 11 := bd_f hT 102 4 tl_2_4 (T 588 0 u)
                have hs3 : (-1) ≤ T 404 c (T 102 (T 588 0 u) 3) ∧ T 404 c (T 102 (T 588 0 u) 3) ≤ 11 := bd_a hT 404 (by decide +kernel : ta_ 404 = some (1, some 12, (-1), 11)) c (by omega)
                have hs4 : (-1) ≤ T 404 c (T 102 (T 588 0 u) 4) ∧ T 404 c (T 102 (T 588 0 u) 4) ≤ 11 := bd_a hT 404 (by decide +kernel : ta_ 404 = some (1, some 12, (-1), 11)) c (by omega)
                have n0 : (vsj_ T (T 100 c 7) (fun k => vH_ T 999 (T 100 c 7 + k)) (fun j => T 588 0 j) a u.toNat) ((T 588 0 u) - T 100 c 7) 0 ≠ 1 := by
                  rw [vsj_o u.toNat (fun j p9 q9 => by
                    show T 588 0 j - T 100 c 7 ≠ T 588 0 u - T 100 c 7
                    have y9 := hin j u p9 (by omega) (by omega)
                    omega)]
                  exact hov22.2.2
                have ea : sa3_ (rs3_ a u.toNat) = 1 := by
                  rw [← gr1]
                  unfold sa3_
                  first
                  | exact if_pos (by omega)
                  | exact if_neg (by omega)
                have eb : sb3_ (rs3_ a u.toNat) = 1 := by
                  rw [← gr1]
                  unfold sb3_
                  first
                  | exact if_pos (by omega)
                  | exact if_neg (by omega)
                have z9 := hfv_on (hm := T 102 (T 588 0 u) 3) (aw := T 102 (T 588 0 u) 4) (a := 1) (b := 1) (k0 := (T 588 0 u) - T 100 c 7) hv1 hsk (by omega) (by omega) n0 (by omega) (by omega) (by omega) (by omega) (lv_k qU23l (fun j => rfl)) qU23a (fun j => fU23 544 0 j rfl) qU23p qU23s
                show HFv_ T U23 c 999 (von_ (vsj_ T (T 100 c 7) (fun k => vH_ T 999 (T 100 c 7 + k)) (fun j => T 588 0 j) a u.toNat) (T 588 0 ((u.toNat : Nat) : Int) - T 100 c 7) (T 102 (T 588 0 ((u.toNat : Nat) : Int)) 3) (T 102 (T 588 0 ((u.toNat : Nat) : Int)) 4) (sa3_ (rs3_ a u.toNat)) (sb3_ (rs3_ a u.toNat)))
                rw [ek, ea, eb]
                exact z9
  refine j_blx (F := fX9) tb_X9 (nn_ _) bk_X9_isFirstBy_e_0 bs_X9_isFirstBy_e_0 hz (fun K hK => ?_)
  refine And.intro (fun c25 => ?_) (fun c25 => ?_)
  · exact absurd c25 (by omega)
  · have z26 : T 109 0 5 - 1 = c := by omega
    rw [z26]
    refine hK 11 _ [vI 999, vR 100 c, vR 107 0] T ?_
    refine j_callV (y := yX7_tally) (Yc := zX7_tally) (rest := []) [vR 100 c, vI 999] (ct_X7_tally_e (T := T) (c := c) hka hkc (by omega) hks hsk hno) cl_X9_124 (qd_c (by decide +kernel)) (nn_ _) rfl (rf_of rfl) (Nat.le_of_ble_eq_true rfl) (Nat.le_of_ble_eq_true rfl) (Nat.le_of_ble_eq_true rfl) rfl ?_
    rintro U27 _ ⟨rfl, fU27, qU27, qU27h⟩
    show J_ zX9_isFirstBy T (po_X9_isFirstBy_e T c WW a n s) 0 0 14 _ [] U27
    refine j_blx (F := fX9) tb_X9 (nn_ _) bk_X9_isFirstBy_e_14 bs_X9_isFirstBy_e_14 hz (fun K hK => ?_)
    refine hK 20 [some (vR 109 0), some (vI a), some (vI n), some (vI s), some (vI a), some (vI 0), none] [] U27 ?_
    refine c_20 _ a 0 U27 (Nat.le_refl _) ?_ ?_ ?_ ?_ ?_
    · exact fr_t (fr_0 _ _) (fr_s fU27 rfl)
    · omega
    · omega
    · exact rfl
    · exact hfv_h qU27h
theorem bk_X9_countFirsts_e_92 : ck_ fX9 (some .int) cX9_countFirsts 92 [.iload 6, .iload 4, .if_icmp .ge 119, .aload 0, .iload 6, .iload 3, .iload 2] 104 = true := qck_r (nn_ _) (by decide +kernel)
theorem bs_X9_countFirsts_e_92 {P : Zt → Option Zv → Prop} (K : Int → Zl → List Zv → Zt → Prop) : sx_ K P [.iload 6, .iload 4, .if_icmp .ge 119, .aload 0, .iload 6, .iload 3, .iload 2] 104 = x_iload 6 (x_iload 4 (x_if_icmp .ge 119 K (x_aload 0 (x_iload 6 (x_iload 3 (x_iload 2 (K 104))))))) := ((xe_iload 6).trans (congrArg (x_iload 6) ((xe_iload 4).trans (congrArg (x_iload 4) ((xe_if_icmp .ge 119).trans (congrArg (x_if_icmp .ge 119 K) ((xe_aload 0).trans (congrArg (x_aload 0) ((xe_iload 6).trans (congrArg (x_iload 6) ((xe_iload 3).trans (congrArg (x_iload 3) ((xe_iload 2).trans (congrArg (x_iload 2) xe_nil))))))))))))))
theorem bk_X9_countFirsts_e_119 : ck_ fX9 (some .int) cX9_countFirsts 119 [.iload 5, .ireturn] 122 = true := qck_r (nn_ _) (by decide +kernel)
theorem bs_X9_countFirsts_e_119 {P : Zt → Option Zv → Prop} (K : Int → Zl → List Zv → Zt → Prop) : sx_ K P [.iload 5, .ireturn] 122 = x_iload 5 (x_ireturn P) := ((xe_iload 5).trans (congrArg (x_iload 5) (xe_ireturn)))
theorem bk_X9_countFirsts_e_107 : ck_ fX9 (some .int) cX9_countFirsts 107 [.ifCond .eq 113, .iinc 5 1, .iinc 6 1, .goto 92] 119 = true := qck_r (nn_ _) (by decide +kernel)
theorem bs_X9_countFirsts_e_107 {P : Zt → Option Zv → Prop} (K : Int → Zl → List Zv → Zt → Prop) : sx_ K P [.ifCond .eq 113, .iinc 5 1, .iinc 6 1, .goto 92] 119 = x_ifCond .eq 113 K (x_iinc 5 1 (x_iinc 6 1 (x_goto 92 K))) := ((xe_ifCond .eq 113).trans (congrArg (x_ifCond .eq 113 K) ((xe_iinc 5 1).trans (congrArg (x_iinc 5 1) ((xe_iinc 6 1).trans (congrArg (x_iinc 6 1) (xe_goto 92)))))))
theorem bk_X9_countFirsts_e_113 : ck_ fX9 (some .int) cX9_countFirsts 113 [.iinc 6 1, .goto 92] 119 = true := qck_r (nn_ _) (by decide +kernel)
theorem bs_X9_countFirsts_e_113 {P : Zt → Option Zv → Prop} (K : Int → Zl → List Zv → Zt → Prop) : sx_ K P [.iinc 6 1, .goto 92] 119 = x_iinc 6 1 (x_goto 92 K) := ((xe_iinc 6 1).trans (congrArg (x_iinc 6 1) (xe_goto 92)))
theorem bk_X9_countFirsts_e_13 : ck_ fX9 (some .int) cX9_countFirsts 13 [.iload 5, .aload 0, .tableswitch 0 9 5 #[], .tableswitch 0 0 8 #[], .if_icmp .ge 86, .aload 0, .tableswitch 0 9 0 #[], .tableswitch 0 6 3 #[], .aload 0, .tableswitch 0 9 5 #[], .tableswitch 0 0 7 #[], .iload 5, .iadd, .aaload, .astore 6, .aload 6] 47 = true := qck_r (nn_ _) (by decide +kernel)
theorem bs_X9_countFirsts_e_13 {P : Zt → Option Zv → Prop} (K : Int → Zl → List Zv → Zt → Prop) : sx_ K P [.iload 5, .aload 0, .tableswitch 0 9 5 #[], .tableswitch 0 0 8 #[], .if_icmp .ge 86, .aload 0, .tableswitch 0 9 0 #[], .tableswitch 0 6 3 #[], .aload 0, .tableswitch 0 9 5 #[], .tableswitch 0 0 7 #[], .iload 5, .iadd, .aaload, .astore 6, .aload 6] 47 = x_iload 5 (x_aload 0 (x_g5 109 100 5 (x_g0 100 8 0 400 (x_if_icmp .ge 86 K (x_aload 0 (x_g1 109 106 (x_g1 106 523 (x_aload 0 (x_g5 109 100 5 (x_g0 100 7 0 400 (x_iload 5 (x_iadd (x_aaload (x_astore 6 (x_aload 6 (K 47)))))))))))))))) := ((xe_iload 5).trans (congrArg (x_iload 5) ((xe_aload 0).trans (congrArg (x_aload 0) ((xe_g5 (kk := 109) rfl tl_9_5).trans (congrArg (x_g5 109 100 5) ((xe_g0 (kk := 100) rfl tl_0_8).trans (congrArg (x_g0 100 8 0 400) ((xe_if_icmp .ge 86).trans (congrArg (x_if_icmp .ge 86 K) ((xe_aload 0).trans (congrArg (x_aload 0) ((xe_g1 (kk := 109) rfl tl_9_0).trans (congrArg (x_g1 109 106) ((xe_g1 (kk := 106) rfl tl_6_3).trans (congrArg (x_g1 106 523) ((xe_aload 0).trans (congrArg (x_aload 0) ((xe_g5 (kk := 109) rfl tl_9_5).trans (congrArg (x_g5 109 100 5) ((xe_g0 (kk := 100) rfl tl_0_7).trans (congrArg (x_g0 100 7 0 400) ((xe_iload 5).trans (congrArg (x_iload 5) ((xe_iadd).trans (congrArg (x_iadd) ((xe_aaload).trans (congrArg (x_aaload) ((xe_astore 6).trans (congrArg (x_astore 6) ((xe_aload 6).trans (congrArg (x_aload 6) xe_nil))))))))))))))))))))))))))))))))
theorem bk_X9_countFirsts_e_86 : ck_ fX9 (some .int) cX9_countFirsts 86 [.iconst 0, .istore 5, .iconst 0, .istore 6] 92 = true := qck_r (nn_ _) (by decide +kernel)
theorem bs_X9_countFirsts_e_86 {P : Zt → Option Zv → Prop} (K : Int → Zl → List Zv → Zt → Prop) : sx_ K P [.iconst 0, .istore 5, .iconst 0, .istore 6] 92 = x_iconst 0 (x_istore 5 (x_iconst 0 (x_istore 6 (K 92)))) := ((xe_iconst 0).trans (congrArg (x_iconst 0) ((xe_istore 5).trans (congrArg (x_istore 5) ((xe_iconst 0).trans (congrArg (x_iconst 0) ((xe_istore 6).trans (congrArg (x_istore 6) xe_nil))))))))
theorem bk_X9_countFirsts_e_50 : ck_ fX9 (some .int) cX9_countFirsts 50 [.ifCond .ne 80, .iload 3, .iconst 3, .if_icmp .lt 60, .iconst (-1), .ireturn] 60 = true := qck_r (nn_ _) (by decide +kernel)
theorem bs_X9_countFirsts_e_50 {P : Zt → Option Zv → Prop} (K : Int → Zl → List Zv → Zt → Prop) : sx_ K P [.ifCond .ne 80, .iload 3, .iconst 3, .if_icmp .lt 60, .iconst (-1), .ireturn] 60 = x_ifCond .ne 80 K (x_iload 3 (x_iconst 3 (x_if_icmp .lt 60 K (x_iconst (-1) (x_ireturn P))))) := ((xe_ifCond .ne 80).trans (congrArg (x_ifCond .ne 80 K) ((xe_iload 3).trans (congrArg (x_iload 3) ((xe_iconst 3).trans (congrArg (x_iconst 3) ((xe_if_icmp .lt 60).trans (congrArg (x_if_icmp .lt 60 K) ((xe_iconst (-1)).trans (congrArg (x_iconst (-1)) (xe_ireturn)))))))))))
theorem bk_X9_countFirsts_e_80 : ck_ fX9 (some .int) cX9_countFirsts 80 [.iinc 5 1, .goto 13] 86 = true := qck_r (nn_ _) (by decide +kernel)
theorem bs_X9_countFirsts_e_80 {P : Zt → Option Zv → Prop} (K : Int → Zl → List Zv → Zt → Prop) : sx_ K P [.iinc 5 1, .goto 13] 86 = x_iinc 5 1 (x_goto 13 K) := ((xe_iinc 5 1).trans (congrArg (x_iinc 5 1) (xe_goto 13)))
theorem bk_X9_countFirsts_e_60 : ck_ fX9 (some .int) cX9_countFirsts 60 [.aload 0, .tableswitch 0 9 8 #[], .iload 3, .aload 6, .tableswitch 0 2 1 #[], .iastore, .iinc 3 1, .iload 4, .iconst 3, .imul, .istore 4, .iinc 5 1, .goto 13] 86 = true := qck_r (nn_ _) (by decide +kernel)
theorem bs_X9_countFirsts_e_60 {P : Zt → Option Zv → Prop} (K : Int → Zl → List Zv → Zt → Prop) : sx_ K P [.aload 0, .tableswitch 0 9 8 #[], .iload 3, .aload 6, .tableswitch 0 2 1 #[], .iastore, .iinc 3 1, .iload 4, .iconst 3, .imul, .istore 4, .iinc 5 1, .goto 13] 86 = x_aload 0 (x_g1 109 588 (x_iload 3 (x_aload 6 (x_g0 102 1 0 399 (x_iastore (x_iinc 3 1 (x_iload 4 (x_iconst 3 (x_imul (x_istore 4 (x_iinc 5 1 (x_goto 13 K)))))))))))) := ((xe_aload 0).trans (congrArg (x_aload 0) ((xe_g1 (kk := 109) rfl tl_9_8).trans (congrArg (x_g1 109 588) ((xe_iload 3).trans (congrArg (x_iload 3) ((xe_aload 6).trans (congrArg (x_aload 6) ((xe_g0 (kk := 102) rfl tl_2_1).trans (congrArg (x_g0 102 1 0 399) ((xe_iastore).trans (congrArg (x_iastore) ((xe_iinc 3 1).trans (congrArg (x_iinc 3 1) ((xe_iload 4).trans (congrArg (x_iload 4) ((xe_iconst 3).trans (congrArg (x_iconst 3) ((xe_imul).trans (congrArg (x_imul) ((xe_istore 4).trans (congrArg (x_istore 4) ((xe_iinc 5 1).trans (congrArg (x_iinc 5 1) (xe_goto 13)))))))))))))))))))))))))
theorem bk_X9_countFirsts_e_0 : ck_ fX9 (some .int) cX9_countFirsts 0 [.aload 0, .aload 1] 2 = true := qck_r (nn_ _) (by decide +kernel)
theorem bs_X9_countFirsts_e_0 {P : Zt → Option Zv → Prop} (K : Int → Zl → List Zv → Zt → Prop) : sx_ K P [.aload 0, .aload 1] 2 = x_aload 0 (x_aload 1 (K 2)) := ((xe_aload 0).trans (congrArg (x_aload 0) ((xe_aload 1).trans (congrArg (x_aload 1) xe_nil))))
theorem bk_X9_countFirsts_e_5 : ck_ fX9 (some .int) cX9_countFirsts 5 [.iconst 0, .istore 3, .iconst 1, .istore 4, .iconst 0, .istore 5] 13 = true := qck_r (nn_ _) (by decide +kernel)
theorem bs_X9_countFirsts_e_5 {P : Zt → Option Zv → Prop} (K : Int → Zl → List Zv → Zt → Prop) : sx_ K P [.iconst 0, .istore 3, .iconst 1, .istore 4, .iconst 0, .istore 5] 13 = x_iconst 0 (x_istore 3 (x_iconst 1 (x_istore 4 (x_iconst 0 (x_istore 5 (K 13)))))) := ((xe_iconst 0).trans (congrArg (x_iconst 0) ((xe_istore 3).trans (congrArg (x_istore 3) ((xe_iconst 1).trans (congrArg (x_iconst 1) ((xe_istore 4).trans (congrArg (x_istore 4) ((xe_iconst 0).trans (congrArg (x_iconst 0) ((xe_istore 5).trans (congrArg (x_istore 5) xe_nil))))))))))))
abbrev po_X9_countFirsts_e (T : Zt) (c : Int) (WW : Int → Int → Int → Int → Int) (s : Int) : Zt → Option Zv → Prop := fun T' r => ∃ x : Int, r = some (vI x) ∧ fr_ [(109, [5]), (588, []), (107, [1, 13]), (542, []), (543, []), (544, []), (545, []), (546, []), (550, []), (551, []), (552, []), (549, []), (547, []), (548, [])] T T' ∧ ((x = -1 ∧ 3 < (dl9_ (fun i => vH_ T 999 (T 100 c 7 + i) 0 ≠ 1) (T 100 c 8).toNat).1) ∨ ((dl9_ (fun i => vH_ T 999 (T 100 c 7 + i) 0 ≠ 1) (T 100 c 8).toNat).1 ≤ 3 ∧ CNq_ T c s WW x (p3_ (dl9_ (fun i => vH_ T 999 (T 100 c 7 + i) 0 ≠ 1) (T 100 c 8).toNat).1)))
set_option maxHeartbeats 4000000 in
theorem ct_X9_countFirsts_e {T : Zt} {c : Int} {WW : Int → Int → Int → Int → Int} {s : Int} (hka : KA_ T) (hkm : KM_ T) (hkc : KC_ T) (hc : 0 ≤ c ∧ c < T 106 0 2) (hs5 : 0 ≤ s ∧ s < T 100 c 5) (hks : KS_ T) (hsk : SK_ T c) (hno : T 100 c 0 = c) (hk4 : 0 ≤ T 401 c 4 ∧ T 401 c 4 ≤ 7) (hww : ∀ r, 0 ≤ r → ∀ U, U 100 c 5 = T 100 c 5 → (∀ j, U 401 c j = T 401 c j) → (∀ j, U 402 c j = T 402 c j) → (∀ j, U 403 c j = T 403 c j) → ok_T U → HFv_ T U c 999 (vsj_ T (T 100 c 7) (fun k => vH_ T 999 (T 100 c 7 + k)) (fun j => T 100 c 7 + (dl9_ (fun i => vH_ T 999 (T 100 c 7 + i) 0 ≠ 1) (T 100 c 8).toNat).2 j) r (dl9_ (fun i => vH_ T 999 (T 100 c 7 + i) 0 ≠ 1) (T 100 c 8).toNat).1.toNat) → HB9_ U c ∧ HWW_ U c (WW r)) : Ct_ yX9_countFirsts zX9_countFirsts T [vR 109 0, vR 100 c, vI s] (po_X9_countFirsts_e T c WW s) := by
  refine ct_of pn_9 rfl rfl (Nat.le_of_ble_eq_true rfl) (fun hT hav => ?_)
  have hr_s : -2147483648 ≤ s ∧ s ≤ 2147483647 := hav (vI s) (List.mem_cons_of_mem _ (List.mem_cons_of_mem _ List.mem_cons_self))
  have hz : zX9_countFirsts.2.2.2.1 = some .boolean → ∀ (T' : Zt) (x : Int), po_X9_countFirsts_e T c WW s T' (some (vI x)) → 0 ≤ x ∧ x ≤ 1 := fun h => by cases h
  have hk2 := hkc c hc.1 hc.2
  have hb_matchCount : 0 ≤ T 106 0 4 ∧ T 106 0 4 ≤ 400 := bd_f hT 106 4 tl_6_4 0
  have hcc : 0 ≤ T 106 0 2 ∧ T 106 0 2 ≤ 4 := bd_f hT 106 2 tl_6_2 0
  have hfm : 0 ≤ T 100 c 7 ∧ T 100 c 7 ≤ 400 := bd_f hT 100 7 tl_0_7 c
  have hmc : 0 ≤ T 100 c 8 ∧ T 100 c 8 ≤ 400 := bd_f hT 100 8 tl_0_8 c
  have hen : 0 ≤ T 100 c 5 ∧ T 100 c 5 ≤ 12 := bd_f hT 100 5 tl_0_5 c
  show J_ zX9_countFirsts T (po_X9_countFirsts_e T c WW s) 0 0 0 [some (vR 109 0), some (vR 100 c), some (vI s), none, none, none, none] [] T
  have c_92 : ∀ (nn : Nat) (f : Int) (q : Int) (u : Int) (g : Int) (T2 : Zt), ((27 - g).toNat) ≤ nn → (fr_ [(109, [5]), (588, []), (107, [1, 13]), (542, []), (543, []), (544, []), (545, []), (546, []), (550, []), (551, []), (552, []), (549, []), (547, []), (548, [])] T T2) → (0 ≤ u ∧ u ≤ g ∧ g ≤ q ∧ ((f = 0 ∧ q = 1) ∨ (f = 1 ∧ q = 3) ∨ (f = 2 ∧ q = 9) ∨ (f = 3 ∧ q = 27))) → (T2 109 0 5 = c + 1) → (f = (dl9_ (fun i => vH_ T 999 (T 100 c 7 + i) 0 ≠ 1) (T 100 c 8).toNat).1) → (∀ j, 0 ≤ j → j < f → T2 588 0 j = T 100 c 7 + (dl9_ (fun i => vH_ T 999 (T 100 c 7 + i) 0 ≠ 1) (T 100 c 8).toNat).2 j) → (CNq_ T c s WW u g) → J_ zX9_countFirsts T (po_X9_countFirsts_e T c WW s) 0 0 92 [some (vR 109 0), some (vR 100 c), some (vI s), some (vI f), some (vI q), some (vI u), some (vI g)] [] T2 := by
    intro nn
    induction nn using Nat.strongRecOn with
    | _ nn ih_92 =>
      intro f q u g T2 hm_92 hf_92 i2 i4 lf2 lo2 cn2
      replace hm_92 := fun (_ : Unit) => hm_92
      refine j_blx (F := fX9) tb_X9 (nn_ _) bk_X9_countFirsts_e_92 bs_X9_countFirsts_e_92 hz (fun K hK => ?_)
      refine And.intro (fun c1 => ?_) (fun c1 => ?_)
      · refine hK 119 _ [] T2 ?_
        refine j_blx (F := fX9) tb_X9 (nn_ _) bk_X9_countFirsts_e_119 bs_X9_countFirsts_e_119 hz (fun K hK => ?_)
        refine (show po_X9_countFirsts_e T c WW s T2 (some (vI u)) from ?_)
        have ep : p3_ (dl9_ (fun i => vH_ T 999 (T 100 c 7 + i) 0 ≠ 1) (T 100 c 8).toNat).1 = g := by
          rw [← lf2]
          unfold p3_
          rcases (by omega : (f = 0 ∧ g = 1) ∨ (f = 1 ∧ g = 3) ∨ (f = 2 ∧ g = 9) ∨ (f = 3 ∧ g = 27)) with ⟨rfl, rfl⟩ | ⟨rfl, rfl⟩ | ⟨rfl, rfl⟩ | ⟨rfl, rfl⟩ <;> rfl
        exact ⟨_, rfl, fr_t (fr_0 _ _) (fr_s hf_92 rfl), Or.inr ⟨by omega, by rw [ep]; exact cn2⟩⟩
      · refine hK 104 _ [vI s, vI f, vI g, vR 109 0] T2 ?_
        have q7 : T2 100 c 7 = T 100 c 7 := hf_92 100 c 7 rfl
        have q8 : T2 100 c 8 = T 100 c 8 := hf_92 100 c 8 rfl
        have q5 : T2 100 c 5 = T 100 c 5 := hf_92 100 c 5 rfl
        have q1 : ∀ j, T2 401 c j = T 401 c j := fun j => hf_92 401 c j rfl
        have q3 : ∀ j, T2 403 c j = T 403 c j := fun j => hf_92 403 c j rfl
        have q4 : ∀ j, T2 404 c j = T 404 c j := fun j => hf_92 404 c j rfl
        have qv : ∀ x, vH_ T2 999 x = vH_ T 999 x := fun x => vh_g hf_92 (fun k j q9 => by rcases q9 with rfl | rfl | rfl | rfl | rfl | rfl | rfl <;> rfl)
        have q10 : ∀ x, T2 102 x 3 = T 102 x 3 ∧ T2 102 x 4 = T 102 x 4 := fun x => ⟨hf_92 102 x 3 rfl, hf_92 102 x 4 rfl⟩
        have qd : ∀ x, dh9_ T2 c 999 x (T2 106 0 6).toNat = dh9_ T c 999 x (T 106 0 6).toNat := fun x => by
          rw [hf_92 106 0 6 rfl]
          exact dh_k (fun k9 j q9 => by rcases q9 with rfl | rfl | rfl | rfl <;> exact hf_92 _ 0 j rfl) _
        have da := dl_a (D := (fun i => vH_ T 999 (T 100 c 7 + i) 0 ≠ 1)) (T 100 c 8).toNat
        have db := dl_b (D := (fun i => vH_ T 999 (T 100 c 7 + i) 0 ≠ 1)) (T 100 c 8).toNat
        have e2 : T2 106 0 2 = T 106 0 2 := hf_92 106 0 2 rfl
        have e3 : T2 100 c 0 = T 100 c 0 := hf_92 100 c 0 rfl
        have hop9 : ∀ j : Int, 0 ≤ j → j < f → T2 100 c 7 ≤ T2 588 0 j ∧ T2 588 0 j < T2 100 c 7 + T2 100 c 8 ∧ vH_ T2 999 (T2 100 c 7 + (T2 588 0 j - T2 100 c 7)) 0 ≠ 1 := fun j a b => by
          have y := lo2 j a b
          have w := db.2 j a (by omega)
          have v := da.1 j a (by omega)
          rw [y, q7, q8, qv, show T 100 c 7 + (T 100 c 7 + (dl9_ (fun i => vH_ T 999 (T 100 c 7 + i) 0 ≠ 1) (T 100 c 8).toNat).2 j - T 100 c 7) = T 100 c 7 + (dl9_ (fun i => vH_ T 999 (T 100 c 7 + i) 0 ≠ 1) (T 100 c 8).toNat).2 j by omega]
          exact ⟨by omega, by omega, v⟩
        have hin9 : ∀ i j : Int, 0 ≤ i → i < j → j < f → T2 588 0 i < T2 588 0 j := fun i j a b e => by
          have y := da.2.1 i j a b (by omega)
          rw [lo2 i a (by omega), lo2 j (by omega) e]
          omega
        have hww9 : ∀ X, fr_ [(107, [1]), (542, []), (543, []), (544, []), (545, []), (546, [])] T2 X → ok_T X → HFv_ T2 X c 999 (vsj_ T2 (T2 100 c 7) (fun k => vH_ T2 999 (T2 100 c 7 + k)) (fun j => T2 588 0 j) g f.toNat) → HB9_ X c ∧ HWW_ X c (WW g) := fun X fX hX z => by
          refine hww g (by omega) X ((fX 100 c 5 rfl).trans q5) (fun j => (fX 401 c j rfl).trans (q1 j)) (fun j => (fX 402 c j rfl).trans (hf_92 402 c j rfl)) (fun j => (fX 403 c j rfl).trans (q3 j)) hX ?_
          have z1 := hfv_t q5 q8 q1 q3 qd z
          rw [vsj_t q10, q7, show (fun k => vH_ T2 999 (T 100 c 7 + k)) = (fun k => vH_ T 999 (T 100 c 7 + k)) from funext (fun k => qv _), vsj_l (O' := fun j => T 100 c 7 + (dl9_ (fun i => vH_ T 999 (T 100 c 7 + i) 0 ≠ 1) (T 100 c 8).toNat).2 j) f.toNat (fun j a b => lo2 j a (by omega)), lf2] at z1
          exact z1
        refine j_callV (y := yX9_isFirstBy) (Yc := zX9_isFirstBy) (rest := []) [vI g, vI f, vI s] (ct_X9_isFirstBy_e (T := T2) (c := c) (WW := WW g) (KA__f (ws := [(109, [5]), (588, []), (107, [1, 13]), (542, []), (543, []), (544, []), (545, []), (546, []), (550, []), (551, []), (552, []), (549, []), (547, []), (548, [])]) hka (fr_t (fr_0 _ _) (fr_s hf_92 rfl)) ⟨fun _ => rfl, fun _ => rfl, rfl, rfl, trivial⟩) (KC__f (ws := [(109, [5]), (588, []), (107, [1, 13]), (542, []), (543, []), (544, []), (545, []), (546, []), (550, []), (551, []), (552, []), (549, []), (547, []), (548, [])]) hkc (fr_t (fr_0 _ _) (fr_s hf_92 rfl)) ⟨rfl, rfl, rfl, rfl, trivial⟩) (by omega) (by omega) (by omega) (by omega) (KS__f (ws := [(109, [5]), (588, []), (107, [1, 13]), (542, []), (543, []), (544, []), (545, []), (546, []), (550, []), (551, []), (552, []), (549, []), (547, []), (548, [])]) hks (fr_t (fr_0 _ _) (fr_s hf_92 rfl)) ⟨fun _ => rfl, rfl, rfl, rfl, rfl, rfl, rfl, trivial⟩) (sk_t q5 q3 q4 hsk) (by omega) hop9 hin9 (by rw [q1]; exact hk4) hww9) cl_X9_176 (qd_c (by decide +kernel)) (nn_ _) rfl (rf_of rfl) (Nat.le_of_ble_eq_true rfl) (Nat.le_of_ble_eq_true rfl) (Nat.le_of_ble_eq_true rfl) rfl ?_
        rintro U5 _ ⟨x4, rfl, fU5, bU5, ovU5, hx4⟩
        refine j_ok (fun hT9 _ => ?_)
        have bp9 := bph_i hT9 (by omega) hsk hs5 (ovq_t q5 q3 q1 ovU5) hx4
        show J_ zX9_countFirsts T (po_X9_countFirsts_e T c WW s) 0 0 107 _ [vI x4] U5
        refine j_blx (F := fX9) tb_X9 (nn_ _) bk_X9_countFirsts_e_107 bs_X9_countFirsts_e_107 hz (fun K hK => ?_)
        refine And.intro (fun c6 => ?_) (fun c6 => ?_)
        · refine hK 113 _ [] U5 ?_
          refine j_blx (F := fX9) tb_X9 (nn_ _) bk_X9_countFirsts_e_113 bs_X9_countFirsts_e_113 hz (fun K hK => ?_)
          refine rg_i (by omega) ?_
          refine hK 92 [some (vR 109 0), some (vR 100 c), some (vI s), some (vI f), some (vI q), some (vI u), some (vI (g + 1))] [] U5 ?_
          have e7 : U5 109 0 5 = T2 109 0 5 := fU5 109 0 5 rfl
          refine ih_92 _ ?_ f q u (g + 1) U5 (Nat.le_refl _) ?_ ?_ ?_ ?_ ?_ ?_
          · have hm_92 := hm_92 (); omega
          · exact fr_t (fr_t (fr_0 _ _) (fr_s hf_92 rfl)) (fr_s fU5 rfl)
          · omega
          · omega
          · exact lf2
          · intro j a b
            rw [fU5 588 0 j rfl]
            exact lo2 j a b
          · exact cnq_s cn2 (by omega) bp9 (by omega)
        · refine rg_i (by omega) ?_
          refine rg_i (by omega) ?_
          refine hK 92 [some (vR 109 0), some (vR 100 c), some (vI s), some (vI f), some (vI q), some (vI (u + 1)), some (vI (g + 1))] [] U5 ?_
          have e8 : U5 109 0 5 = T2 109 0 5 := fU5 109 0 5 rfl
          refine ih_92 _ ?_ f q (u + 1) (g + 1) U5 (Nat.le_refl _) ?_ ?_ ?_ ?_ ?_ ?_
          · have hm_92 := hm_92 (); omega
          · exact fr_t (fr_t (fr_0 _ _) (fr_s hf_92 rfl)) (fr_s fU5 rfl)
          · omega
          · omega
          · exact lf2
          · intro j a b
            rw [fU5 588 0 j rfl]
            exact lo2 j a b
          · exact cnq_s cn2 (by omega) bp9 (by omega)
  have c_13 : ∀ (nn : Nat) (f : Int) (q : Int) (k : Int) (T1 : Zt), ((T 100 c 8 - k).toNat) ≤ nn → (fr_ [(109, [5]), (588, [])] T T1) → (0 ≤ k ∧ k ≤ T 100 c 8 ∧ ((f = 0 ∧ q = 1) ∨ (f = 1 ∧ q = 3) ∨ (f = 2 ∧ q = 9) ∨ (f = 3 ∧ q = 27))) → (T1 109 0 5 = c + 1) → (f = (dl9_ (fun i => vH_ T 999 (T 100 c 7 + i) 0 ≠ 1) (k).toNat).1) → (∀ j, 0 ≤ j → j < f → T1 588 0 j = T 100 c 7 + (dl9_ (fun i => vH_ T 999 (T 100 c 7 + i) 0 ≠ 1) (k).toNat).2 j) → J_ zX9_countFirsts T (po_X9_countFirsts_e T c WW s) 0 0 13 [some (vR 109 0), some (vR 100 c), some (vI s), some (vI f), some (vI q), some (vI k), none] [] T1 := by
    intro nn
    induction nn using Nat.strongRecOn with
    | _ nn ih_13 =>
      intro f q k T1 hm_13 hf_13 i1 i3 lf1 lo1
      replace hm_13 := fun (_ : Unit) => hm_13
      refine j_blx (F := fX9) tb_X9 (nn_ _) bk_X9_countFirsts_e_13 bs_X9_countFirsts_e_13 hz (fun K hK => ?_)
      refine And.intro (fun c9 => ?_) (fun c9 => ?_)
      · exact absurd c9 (by omega)
      · have z10 : T1 109 0 5 - 1 = c := by omega
        rw [z10]
        intro b11 b11b
        have e12 : T1 100 c 8 = T 100 c 8 := hf_13 100 c 8 rfl
        rw [e12] at b11 b11b ⊢
        refine And.intro (fun c13 => ?_) (fun c13 => ?_)
        · refine hK 86 _ [] T1 ?_
          refine j_blx (F := fX9) tb_X9 (nn_ _) bk_X9_countFirsts_e_86 bs_X9_countFirsts_e_86 hz (fun K hK => ?_)
          refine hK 92 [some (vR 109 0), some (vR 100 c), some (vI s), some (vI f), some (vI q), some (vI 0), some (vI 0)] [] T1 ?_
          refine c_92 _ f q 0 0 T1 (Nat.le_refl _) ?_ ?_ ?_ ?_ ?_ ?_
          · exact fr_t (fr_0 _ _) (fr_s hf_13 rfl)
          · omega
          · omega
          · rw [show T 100 c 8 = k by omega]
            exact lf1
          · rw [show T 100 c 8 = k by omega]
            exact lo1
          · exact cnq_0
        · refine And.intro (fun c14 => ?_) (fun c14 => ?_)
          · exact absurd c14 (by omega)
          · have z15 : T1 109 0 5 - 1 = c := by omega
            rw [z15]
            intro b16 b16b
            have e17 : T1 100 c 7 = T 100 c 7 := hf_13 100 c 7 rfl
            rw [e17] at b16 b16b ⊢
            refine rg_i (by omega) ?_
            refine ix_i (by omega) ?_
            have e19 : T1 523 0 ((T 100 c 7) + k) = T 523 0 ((T 100 c 7) + k) := hf_13 523 0 ((T 100 c 7) + k) rfl
            refine And.intro (fun c18 => ?_) (fun c18 => ?_)
            · exact absurd (show T 523 0 (T 100 c 7 + k) = 0 by omega) (hka.2 _ (by omega) (by omega))
            · refine hK 47 [some (vR 109 0), some (vR 100 c), some (vI s), some (vI f), some (vI q), some (vI k), some (vR 102 ((T 100 c 7) + k))] [vR 102 ((T 100 c 7) + k)] T1 ?_
              refine j_callV (y := yX2_isDecided) (Yc := zX2_isDecided) (rest := []) [] (ct_X2_isDecided_e (T := T1)) cl_X9_109 (qd_c (by decide +kernel)) (nn_ _) rfl (rf_of rfl) (Nat.le_of_ble_eq_true rfl) (Nat.le_of_ble_eq_true rfl) (Nat.le_of_ble_eq_true rfl) rfl ?_
              rintro _ _ ⟨rfl, x20, rfl, hx20⟩
              show J_ zX9_countFirsts T (po_X9_countFirsts_e T c WW s) 0 0 50 _ [vI x20] T1
              refine j_blx (F := fX9) tb_X9 (nn_ _) bk_X9_countFirsts_e_50 bs_X9_countFirsts_e_50 hz (fun K hK => ?_)
              refine And.intro (fun c21 => ?_) (fun c21 => ?_)
              · refine hK 80 _ [] T1 ?_
                refine j_blx (F := fX9) tb_X9 (nn_ _) bk_X9_countFirsts_e_80 bs_X9_countFirsts_e_80 hz (fun K hK => ?_)
                refine rg_i (by omega) ?_
                refine hK 13 [some (vR 109 0), some (vR 100 c), some (vI s), some (vI f), some (vI q), some (vI (k + 1)), some (vR 102 ((T 100 c 7) + k))] [] T1 ?_
                refine j_drop [some (vR 109 0), some (vR 100 c), some (vI s), some (vI f), some (vI q), some (vI (k + 1)), none] (fun k v hk => ?_) rfl ?_
                · match k, hk with
                  | 0, hk => exact hk
                  | 1, hk => exact hk
                  | 2, hk => exact hk
                  | 3, hk => exact hk
                  | 4, hk => exact hk
                  | 5, hk => exact hk
                  | 6, hk => cases hk
                  | k + 7, hk => cases hk
                refine ih_13 _ ?_ f q (k + 1) T1 (Nat.le_refl _) ?_ ?_ ?_ ?_ ?_
                · have hm_13 := hm_13 (); omega
                · exact fr_t (fr_0 _ _) (fr_s hf_13 rfl)
                · omega
                · omega
                · have ev : vH_ T1 999 (T 100 c 7 + k) = vH_ T 999 (T 100 c 7 + k) := vh_g hf_13 (fun k j q9 => by rcases q9 with rfl | rfl | rfl | rfl | rfl | rfl | rfl <;> rfl)
                  have hdt : 0 ≤ T 102 (T 100 c 7 + k) 5 ∧ T 102 (T 100 c 7 + k) 5 ≤ 999 := bd_f hT 102 5 tl_2_5 (T 100 c 7 + k)
                  have g0 : ¬ ((fun i => vH_ T 999 (T 100 c 7 + i) 0 ≠ 1) k) := fun z9 => z9 (by
                    show vH_ T 999 (T 100 c 7 + k) 0 = 1
                    rw [← ev]
                    exact vh_c1 ⟨(hx20.resolve_right (fun z => absurd z.1 (by omega))).2, by rw [hf_13 102 (T 100 c 7 + k) 5 rfl]; omega⟩)
                  rw [dl_f (D := (fun i => vH_ T 999 (T 100 c 7 + i) 0 ≠ 1)) (by omega) g0]
                  exact lf1
                · have ev : vH_ T1 999 (T 100 c 7 + k) = vH_ T 999 (T 100 c 7 + k) := vh_g hf_13 (fun k j q9 => by rcases q9 with rfl | rfl | rfl | rfl | rfl | rfl | rfl <;> rfl)
                  have hdt : 0 ≤ T 102 (T 100 c 7 + k) 5 ∧ T 102 (T 100 c 7 + k) 5 ≤ 999 := bd_f hT 102 5 tl_2_5 (T 100 c 7 + k)
                  have g0 : ¬ ((fun i => vH_ T 999 (T 100 c 7 + i) 0 ≠ 1) k) := fun z9 => z9 (by
                    show vH_ T 999 (T 100 c 7 + k) 0 = 1
                    rw [← ev]
                    exact vh_c1 ⟨(hx20.resolve_right (fun z => absurd z.1 (by omega))).2, by rw [hf_13 102 (T 100 c 7 + k) 5 rfl]; omega⟩)
                  rw [dl_f (D := (fun i => vH_ T 999 (T 100 c 7 + i) 0 ≠ 1)) (by omega) g0]
                  exact lo1
              · refine And.intro (fun c22 => ?_) (fun c22 => ?_)
                · refine hK 60 [some (vR 109 0), some (vR 100 c), some (vI s), some (vI f), some (vI q), some (vI k), some (vR 102 ((T 100 c 7) + k))] [] T1 ?_
                  refine j_blx (F := fX9) tb_X9 (nn_ _) bk_X9_countFirsts_e_60 bs_X9_countFirsts_e_60 hz (fun K hK => ?_)
                  intro b23 b23b
                  have e24 : T1 102 ((T 100 c 7) + k) 1 = T 102 ((T 100 c 7) + k) 1 := hf_13 102 ((T 100 c 7) + k) 1 rfl
                  rw [e24] at b23 b23b ⊢
                  refine iy_i (by omega) (by omega) ?_
                  refine x_nm (fun U25 hU25 => ?_)
                  have e26 := up_f hU25
                  refine rg_i (by omega) ?_
                  refine rg_i (by omega) ?_
                  refine rg_i (by omega) ?_
                  refine hK 13 [some (vR 109 0), some (vR 100 c), some (vI s), some (vI (f + 1)), some (vI (q * 3)), some (vI (k + 1)), some (vR 102 ((T 100 c 7) + k))] [] U25 ?_
                  refine j_drop [some (vR 109 0), some (vR 100 c), some (vI s), some (vI (f + 1)), some (vI (q * 3)), some (vI (k + 1)), none] (fun k v hk => ?_) rfl ?_
                  · match k, hk with
                    | 0, hk => exact hk
                    | 1, hk => exact hk
                    | 2, hk => exact hk
                    | 3, hk => exact hk
                    | 4, hk => exact hk
                    | 5, hk => exact hk
                    | 6, hk => cases hk
                    | k + 7, hk => cases hk
                  have e27 : U25 109 0 5 = T1 109 0 5 := up_k hU25 (by exact Nat.ne_of_beq_eq_false rfl) 0 5
                  refine ih_13 _ ?_ (f + 1) (q * 3) (k + 1) U25 (Nat.le_refl _) ?_ ?_ ?_ ?_ ?_
                  · have hm_13 := hm_13 (); omega
                  · exact fr_u (fr_t (fr_0 _ _) (fr_s hf_13 rfl)) hU25 rfl
                  · omega
                  · omega
                  · have ev : vH_ T1 999 (T 100 c 7 + k) = vH_ T 999 (T 100 c 7 + k) := vh_g hf_13 (fun k j q9 => by rcases q9 with rfl | rfl | rfl | rfl | rfl | rfl | rfl <;> rfl)
                    have g0 : (fun i => vH_ T 999 (T 100 c 7 + i) 0 ≠ 1) k := by
                      show vH_ T 999 (T 100 c 7 + k) 0 ≠ 1
                      rw [← ev]
                      exact vh_c0 (fun z => (hx20.resolve_left (fun y => absurd y.1 (by omega))).2 z.1)
                    rw [dl_t (D := (fun i => vH_ T 999 (T 100 c 7 + i) 0 ≠ 1)) (by omega) g0]
                    show f + 1 = (dl9_ (fun i => vH_ T 999 (T 100 c 7 + i) 0 ≠ 1) (k).toNat).1 + 1
                    rw [← lf1]
                  · have ev : vH_ T1 999 (T 100 c 7 + k) = vH_ T 999 (T 100 c 7 + k) := vh_g hf_13 (fun k j q9 => by rcases q9 with rfl | rfl | rfl | rfl | rfl | rfl | rfl <;> rfl)
                    have g0 : (fun i => vH_ T 999 (T 100 c 7 + i) 0 ≠ 1) k := by
                      show vH_ T 999 (T 100 c 7 + k) 0 ≠ 1
                      rw [← ev]
                      exact vh_c0 (fun z => (hx20.resolve_left (fun y => absurd y.1 (by omega))).2 z.1)
                    intro j a b
                    rw [dl_t (D := (fun i => vH_ T 999 (T 100 c 7 + i) 0 ≠ 1)) (by omega) g0]
                    show U25 588 0 j = T 100 c 7 + fu_ (dl9_ (fun i => vH_ T 999 (T 100 c 7 + i) 0 ≠ 1) (k).toNat).2 (dl9_ (fun i => vH_ T 999 (T 100 c 7 + i) 0 ≠ 1) (k).toNat).1 k j
                    by_cases z : j = f
                    · rw [z, up_f hU25, ← lf1, fu_s]
                      exact (hkm (T 100 c 7 + k) (by omega) (by omega)).1
                    · rw [up_g hU25 (fun q => z q.2.2), fu_n (by rw [← lf1]; exact z)]
                      exact lo1 j a (by omega)
                · refine (show po_X9_countFirsts_e T c WW s T1 (some (vI (-1))) from ?_)
                  have ev : vH_ T1 999 (T 100 c 7 + k) = vH_ T 999 (T 100 c 7 + k) := vh_g hf_13 (fun k j q9 => by rcases q9 with rfl | rfl | rfl | rfl | rfl | rfl | rfl <;> rfl)
                  have g0 : (fun i => vH_ T 999 (T 100 c 7 + i) 0 ≠ 1) k := by
                    show vH_ T 999 (T 100 c 7 + k) 0 ≠ 1
                    rw [← ev]
                    exact vh_c0 (fun z => (hx20.resolve_left (fun y => absurd y.1 (by omega))).2 z.1)
                  have e4 : (dl9_ (fun i => vH_ T 999 (T 100 c 7 + i) 0 ≠ 1) (k + 1).toNat).1 = f + 1 := by
                    rw [dl_t (D := (fun i => vH_ T 999 (T 100 c 7 + i) 0 ≠ 1)) (by omega) g0]
                    show (dl9_ (fun i => vH_ T 999 (T 100 c 7 + i) 0 ≠ 1) (k).toNat).1 + 1 = f + 1
                    rw [← lf1]
                  have gr := dl_g (D := (fun i => vH_ T 999 (T 100 c 7 + i) 0 ≠ 1)) (m := (k + 1).toNat) ((T 100 c 8).toNat - (k + 1).toNat)
                  rw [show (k + 1).toNat + ((T 100 c 8).toNat - (k + 1).toNat) = (T 100 c 8).toNat by omega, e4] at gr
                  exact ⟨_, rfl, fr_t (fr_0 _ _) (fr_s hf_13 rfl), Or.inl ⟨rfl, by omega⟩⟩
  refine j_blx (F := fX9) tb_X9 (nn_ _) bk_X9_countFirsts_e_0 bs_X9_countFirsts_e_0 hz (fun K hK => ?_)
  refine hK 2 _ [vR 100 c, vR 109 0] T ?_
  refine j_putR (pc := 2) (ci := 9) (j := 5) (by decide) fr5_X9_54 rfl (by decide +kernel) (by omega) (by omega) (by omega) ?_
  refine j_nm (fun U28 hU28 => ?_)
  have e29 := up_f hU28
  show J_ zX9_countFirsts T (po_X9_countFirsts_e T c WW s) 0 0 5 _ [] U28
  refine j_blx (F := fX9) tb_X9 (nn_ _) bk_X9_countFirsts_e_5 bs_X9_countFirsts_e_5 hz (fun K hK => ?_)
  refine hK 13 [some (vR 109 0), some (vR 100 c), some (vI s), some (vI 0), some (vI 1), some (vI 0), none] [] U28 ?_
  have e30 : U28 109 0 5 = c + 1 := up_f hU28
  refine c_13 _ 0 1 0 U28 (Nat.le_refl _) ?_ ?_ ?_ ?_ ?_
  · exact fr_u (fr_0 _ _) hU28 rfl
  · omega
  · omega
  · exact rfl
  · intro j a b; omega
theorem bk_X10_firsts_e_0 : ck_ fX10 (some .int) cX10_firsts 0 [.aload 0, .iload 1] 2 = true := qck_r (nn_ _) (by decide +kernel)
theorem bs_X10_firsts_e_0 {P : Zt → Option Zv → Prop} (K : Int → Zl → List Zv → Zt → Prop) : sx_ K P [.aload 0, .iload 1] 2 = x_aload 0 (x_iload 1 (K 2)) := ((xe_aload 0).trans (congrArg (x_aload 0) ((xe_iload 1).trans (congrArg (x_iload 1) xe_nil))))
theorem bk_X10_firsts_e_5 : ck_ fX10 (some .int) cX10_firsts 5 [.ifCond .eq 16, .aload 0, .iload 2] 10 = true := qck_r (nn_ _) (by decide +kernel)
theorem bs_X10_firsts_e_5 {P : Zt → Option Zv → Prop} (K : Int → Zl → List Zv → Zt → Prop) : sx_ K P [.ifCond .eq 16, .aload 0, .iload 2] 10 = x_ifCond .eq 16 K (x_aload 0 (x_iload 2 (K 10))) := ((xe_ifCond .eq 16).trans (congrArg (x_ifCond .eq 16 K) ((xe_aload 0).trans (congrArg (x_aload 0) ((xe_iload 2).trans (congrArg (x_iload 2) xe_nil))))))
theorem bk_X10_firsts_e_16 : ck_ fX10 (some .int) cX10_firsts 16 [.iconst (-2), .ireturn] 19 = true := qck_r (nn_ _) (by decide +kernel)
theorem bs_X10_firsts_e_16 {P : Zt → Option Zv → Prop} (K : Int → Zl → List Zv → Zt → Prop) : sx_ K P [.iconst (-2), .ireturn] 19 = x_iconst (-2) (x_ireturn P) := ((xe_iconst (-2)).trans (congrArg (x_iconst (-2)) (xe_ireturn)))
theorem bk_X10_firsts_e_13 : ck_ fX10 (some .int) cX10_firsts 13 [.ifCond .ne 19, .iconst (-2), .ireturn] 19 = true := qck_r (nn_ _) (by decide +kernel)
theorem bs_X10_firsts_e_13 {P : Zt → Option Zv → Prop} (K : Int → Zl → List Zv → Zt → Prop) : sx_ K P [.ifCond .ne 19, .iconst (-2), .ireturn] 19 = x_ifCond .ne 19 K (x_iconst (-2) (x_ireturn P)) := ((xe_ifCond .ne 19).trans (congrArg (x_ifCond .ne 19 K) ((xe_iconst (-2)).trans (congrArg (x_iconst (-2)) (xe_ireturn)))))
theorem bk_X10_firsts_e_19 : ck_ fX10 (some .int) cX10_firsts 19 [.aload 0, .tableswitch 0 10 2 #[], .tableswitch 0 6 1 #[], .iload 1, .aaload, .astore 3, .aload 3, .tableswitch 0 0 4 #[], .iload 2, .iaload, .iconst (-1), .if_icmp .eq 46, .aload 3, .tableswitch 0 0 6 #[], .ifCond .ne 49, .iconst (-4), .ireturn] 49 = true := qck_r (nn_ _) (by decide +kernel)
theorem bs_X10_firsts_e_19 {P : Zt → Option Zv → Prop} (K : Int → Zl → List Zv → Zt → Prop) : sx_ K P [.aload 0, .tableswitch 0 10 2 #[], .tableswitch 0 6 1 #[], .iload 1, .aaload, .astore 3, .aload 3, .tableswitch 0 0 4 #[], .iload 2, .iaload, .iconst (-1), .if_icmp .eq 46, .aload 3, .tableswitch 0 0 6 #[], .ifCond .ne 49, .iconst (-4), .ireturn] 49 = x_aload 0 (x_g1 110 106 (x_g1 106 521 (x_iload 1 (x_aaload (x_astore 3 (x_aload 3 (x_g2 100 404 (x_iload 2 (x_iaload (x_iconst (-1) (x_if_icmp .eq 46 K (x_aload 3 (x_g0 100 6 0 1 (x_ifCond .ne 49 K (x_iconst (-4) (x_ireturn P)))))))))))))))) := ((xe_aload 0).trans (congrArg (x_aload 0) ((xe_g1 (kk := 110) rfl tl_10_2).trans (congrArg (x_g1 110 106) ((xe_g1 (kk := 106) rfl tl_6_1).trans (congrArg (x_g1 106 521) ((xe_iload 1).trans (congrArg (x_iload 1) ((xe_aaload).trans (congrArg (x_aaload) ((xe_astore 3).trans (congrArg (x_astore 3) ((xe_aload 3).trans (congrArg (x_aload 3) ((xe_g2 (kk := 100) rfl tl_0_4).trans (congrArg (x_g2 100 404) ((xe_iload 2).trans (congrArg (x_iload 2) ((xe_iaload).trans (congrArg (x_iaload) ((xe_iconst (-1)).trans (congrArg (x_iconst (-1)) ((xe_if_icmp .eq 46).trans (congrArg (x_if_icmp .eq 46 K) ((xe_aload 3).trans (congrArg (x_aload 3) ((xe_g0 (kk := 100) rfl tl_0_6).trans (congrArg (x_g0 100 6 0 1) ((xe_ifCond .ne 49).trans (congrArg (x_ifCond .ne 49 K) ((xe_iconst (-4)).trans (congrArg (x_iconst (-4)) (xe_ireturn)))))))))))))))))))))))))))))))))
theorem bk_X10_firsts_e_46 : ck_ fX10 (some .int) cX10_firsts 46 [.iconst (-4), .ireturn] 49 = true := qck_r (nn_ _) (by decide +kernel)
theorem bs_X10_firsts_e_46 {P : Zt → Option Zv → Prop} (K : Int → Zl → List Zv → Zt → Prop) : sx_ K P [.iconst (-4), .ireturn] 49 = x_iconst (-4) (x_ireturn P) := ((xe_iconst (-4)).trans (congrArg (x_iconst (-4)) (xe_ireturn)))
theorem bk_X10_firsts_e_49 : ck_ fX10 (some .int) cX10_firsts 49 [.aload 0, .tableswitch 0 10 4 #[], .aload 3, .aload 3, .tableswitch 0 0 4 #[], .iload 2, .iaload] 60 = true := qck_r (nn_ _) (by decide +kernel)
theorem bs_X10_firsts_e_49 {P : Zt → Option Zv → Prop} (K : Int → Zl → List Zv → Zt → Prop) : sx_ K P [.aload 0, .tableswitch 0 10 4 #[], .aload 3, .aload 3, .tableswitch 0 0 4 #[], .iload 2, .iaload] 60 = x_aload 0 (x_g1 110 109 (x_aload 3 (x_aload 3 (x_g2 100 404 (x_iload 2 (x_iaload (K 60))))))) := ((xe_aload 0).trans (congrArg (x_aload 0) ((xe_g1 (kk := 110) rfl tl_10_4).trans (congrArg (x_g1 110 109) ((xe_aload 3).trans (congrArg (x_aload 3) ((xe_aload 3).trans (congrArg (x_aload 3) ((xe_g2 (kk := 100) rfl tl_0_4).trans (congrArg (x_g2 100 404) ((xe_iload 2).trans (congrArg (x_iload 2) ((xe_iaload).trans (congrArg (x_iaload) xe_nil))))))))))))))
theorem bk_X10_firsts_e_63 : ck_ fX10 (some .int) cX10_firsts 63 [.ireturn] 64 = true := qck_r (nn_ _) (by decide +kernel)
theorem bs_X10_firsts_e_63 {P : Zt → Option Zv → Prop} (K : Int → Zl → List Zv → Zt → Prop) : sx_ K P [.ireturn] 64 = x_ireturn P := (xe_ireturn)
abbrev po_X10_firsts_e (T : Zt) (WW : Int → Int → Int → Int → Int → Int) (c b : Int) : Zt → Option Zv → Prop := fun T' r => ∃ x : Int, r = some (vI x) ∧ fr_ [(109, [5]), (588, []), (107, [1, 13]), (542, []), (543, []), (544, []), (545, []), (546, []), (550, []), (551, []), (552, []), (549, []), (547, []), (548, [])] T T' ∧ ((x = -2 ∧ ¬ ((0 ≤ c ∧ c < T 106 0 2) ∧ (0 ≤ b ∧ b < T 108 0 2))) ∨ (x = -4 ∧ ((0 ≤ c ∧ c < T 106 0 2) ∧ (0 ≤ b ∧ b < T 108 0 2)) ∧ ¬ (T 404 c b ≠ -1 ∧ T 100 c 6 ≠ 0)) ∨ (((0 ≤ c ∧ c < T 106 0 2) ∧ (0 ≤ b ∧ b < T 108 0 2)) ∧ (T 404 c b ≠ -1 ∧ T 100 c 6 ≠ 0) ∧ ((x = -1 ∧ 3 < (dl9_ (fun i => vH_ T 999 (T 100 c 7 + i) 0 ≠ 1) (T 100 c 8).toNat).1) ∨ ((dl9_ (fun i => vH_ T 999 (T 100 c 7 + i) 0 ≠ 1) (T 100 c 8).toNat).1 ≤ 3 ∧ CNq_ T c (T 404 c b) (WW c) x (p3_ (dl9_ (fun i => vH_ T 999 (T 100 c 7 + i) 0 ≠ 1) (T 100 c 8).toNat).1)))))
set_option maxHeartbeats 4000000 in
theorem ct_X10_firsts_e {T : Zt} {WW : Int → Int → Int → Int → Int → Int} {c b : Int} (hka : KA_ T) (hkm : KM_ T) (hkc : KC_ T) (hks : KS_ T) (hsk : ∀ c, 0 ≤ c → c < T 106 0 2 → SK_ T c) (hno : ∀ c, 0 ≤ c → c < T 106 0 2 → T 100 c 0 = c) (hk4 : ∀ c, 0 ≤ c → c < T 106 0 2 → 0 ≤ T 401 c 4 ∧ T 401 c 4 ≤ 7) (hww : ∀ c, 0 ≤ c → c < T 106 0 2 → ∀ r, 0 ≤ r → ∀ U, U 100 c 5 = T 100 c 5 → (∀ j, U 401 c j = T 401 c j) → (∀ j, U 402 c j = T 402 c j) → (∀ j, U 403 c j = T 403 c j) → ok_T U → HFv_ T U c 999 (vsj_ T (T 100 c 7) (fun k => vH_ T 999 (T 100 c 7 + k)) (fun j => T 100 c 7 + (dl9_ (fun i => vH_ T 999 (T 100 c 7 + i) 0 ≠ 1) (T 100 c 8).toNat).2 j) r (dl9_ (fun i => vH_ T 999 (T 100 c 7 + i) 0 ≠ 1) (T 100 c 8).toNat).1.toNat) → HB9_ U c ∧ HWW_ U c (WW c r)) : Ct_ yX10_firsts zX10_firsts T [vR 110 0, vI c, vI b] (po_X10_firsts_e T WW c b) := by
  refine ct_of pn_10 rfl rfl (Nat.le_of_ble_eq_true rfl) (fun hT hav => ?_)
  have hr_c : -2147483648 ≤ c ∧ c ≤ 2147483647 := hav (vI c) (List.mem_cons_of_mem _ List.mem_cons_self)
  have hr_b : -2147483648 ≤ b ∧ b ≤ 2147483647 := hav (vI b) (List.mem_cons_of_mem _ (List.mem_cons_of_mem _ List.mem_cons_self))
  have hz : zX10_firsts.2.2.2.1 = some .boolean → ∀ (T' : Zt) (x : Int), po_X10_firsts_e T WW c b T' (some (vI x)) → 0 ≤ x ∧ x ≤ 1 := fun h => by cases h
  have hcc : 0 ≤ T 106 0 2 ∧ T 106 0 2 ≤ 4 := bd_f hT 106 2 tl_6_2 0
  have hb_clubs : 0 ≤ T 108 0 2 ∧ T 108 0 2 ≤ 12 := bd_f hT 108 2 tl_8_2 0
  show J_ zX10_firsts T (po_X10_firsts_e T WW c b) 0 0 0 [some (vR 110 0), some (vI c), some (vI b), none] [] T
  refine j_blx (F := fX10) tb_X10 (nn_ _) bk_X10_firsts_e_0 bs_X10_firsts_e_0 hz (fun K hK => ?_)
  refine hK 2 _ [vI c, vR 110 0] T ?_
  refine j_callV (y := yX10_isCompetition) (Yc := zX10_isCompetition) (rest := []) [vI c] (ct_X10_isCompetition (T := T)) cl_X10_107 (qd_c (by decide +kernel)) (nn_ _) rfl (rf_of rfl) (Nat.le_of_ble_eq_true rfl) (Nat.le_of_ble_eq_true rfl) (Nat.le_of_ble_eq_true rfl) rfl ?_
  rintro _ _ ⟨rfl, x1, rfl, hx1⟩
  show J_ zX10_firsts T (po_X10_firsts_e T WW c b) 0 0 5 _ [vI x1] T
  refine j_blx (F := fX10) tb_X10 (nn_ _) bk_X10_firsts_e_5 bs_X10_firsts_e_5 hz (fun K hK => ?_)
  refine And.intro (fun c2 => ?_) (fun c2 => ?_)
  · replace hx1 := hx1.resolve_left (fun z => absurd (c2.symm.trans z.1) (by decide))
    clear c2
    refine hK 16 _ [] T ?_
    refine j_blx (F := fX10) tb_X10 (nn_ _) bk_X10_firsts_e_16 bs_X10_firsts_e_16 hz (fun K hK => ?_)
    refine (show po_X10_firsts_e T WW c b T (some (vI (-2))) from ?_)
    exact ⟨_, rfl, fr_0 _ _, Or.inl ⟨rfl, by omega⟩⟩
  · replace hx1 := hx1.resolve_right (fun z => c2 z.1)
    clear c2
    refine hK 10 _ [vI b, vR 110 0] T ?_
    refine j_callV (y := yX10_isClub) (Yc := zX10_isClub) (rest := []) [vI b] (ct_X10_isClub (T := T)) cl_X10_137 (qd_c (by decide +kernel)) (nn_ _) rfl (rf_of rfl) (Nat.le_of_ble_eq_true rfl) (Nat.le_of_ble_eq_true rfl) (Nat.le_of_ble_eq_true rfl) rfl ?_
    rintro _ _ ⟨rfl, x3, rfl, hx3⟩
    show J_ zX10_firsts T (po_X10_firsts_e T WW c b) 0 0 13 _ [vI x3] T
    refine j_blx (F := fX10) tb_X10 (nn_ _) bk_X10_firsts_e_13 bs_X10_firsts_e_13 hz (fun K hK => ?_)
    refine And.intro (fun c4 => ?_) (fun c4 => ?_)
    · replace hx3 := hx3.resolve_right (fun z => c4 z.1)
      clear c4
      refine hK 19 _ [] T ?_
      refine j_blx (F := fX10) tb_X10 (nn_ _) bk_X10_firsts_e_19 bs_X10_firsts_e_19 hz (fun K hK => ?_)
      refine ix_i (by omega) ?_
      refine And.intro (fun c5 => ?_) (fun c5 => ?_)
      · exact absurd (show T 521 0 c = 0 by omega) (hka.1 _ (by omega) (by omega))
      · refine ix_i (by omega) ?_
        intro b6 b6b
        refine And.intro (fun c7 => ?_) (fun c7 => ?_)
        · refine hK 46 [some (vR 110 0), some (vI c), some (vI b), some (vR 100 c)] [] T ?_
          refine j_blx (F := fX10) tb_X10 (nn_ _) bk_X10_firsts_e_46 bs_X10_firsts_e_46 hz (fun K hK => ?_)
          refine (show po_X10_firsts_e T WW c b T (some (vI (-4))) from ?_)
          exact ⟨_, rfl, fr_0 _ _, Or.inr (Or.inl ⟨rfl, by omega, by omega⟩)⟩
        · intro b8 b8b
          refine And.intro (fun c9 => ?_) (fun c9 => ?_)
          · refine hK 49 _ [] T ?_
            refine j_blx (F := fX10) tb_X10 (nn_ _) bk_X10_firsts_e_49 bs_X10_firsts_e_49 hz (fun K hK => ?_)
            refine ix_i (by omega) ?_
            intro b10 b10b
            refine hK 60 _ [vI (T 404 c b), vR 100 c, vR 109 0] T ?_
            have hsb := (hsk c (by omega) (by omega)).2 b (by omega) (by omega)
            refine j_callV (y := yX9_countFirsts) (Yc := zX9_countFirsts) (rest := []) [vR 100 c, vI (T 404 c b)] (ct_X9_countFirsts_e (T := T) (c := c) (WW := WW c) hka hkm hkc (by omega) (by omega) hks (hsk c (by omega) (by omega)) (hno c (by omega) (by omega)) (hk4 c (by omega) (by omega)) (hww c (by omega) (by omega))) cl_X10_377 (qd_c (by decide +kernel)) (nn_ _) rfl (rf_of rfl) (Nat.le_of_ble_eq_true rfl) (Nat.le_of_ble_eq_true rfl) (Nat.le_of_ble_eq_true rfl) rfl ?_
            rintro U12 _ ⟨x11, rfl, fU12, hx11⟩
            show J_ zX10_firsts T (po_X10_firsts_e T WW c b) 0 0 63 _ [vI x11] U12
            refine j_blx (F := fX10) tb_X10 (nn_ _) bk_X10_firsts_e_63 bs_X10_firsts_e_63 hz (fun K hK => ?_)
            refine (show po_X10_firsts_e T WW c b U12 (some (vI x11)) from ?_)
            exact ⟨_, rfl, fr_t (fr_0 _ _) (fr_s fU12 rfl), Or.inr (Or.inr ⟨by omega, by omega, hx11⟩)⟩
          · refine (show po_X10_firsts_e T WW c b T (some (vI (-4))) from ?_)
            exact ⟨_, rfl, fr_0 _ _, Or.inr (Or.inl ⟨rfl, by omega, by omega⟩)⟩
    · replace hx3 := hx3.resolve_left (fun z => absurd (c4.symm.trans z.1) (by decide))
      clear c4
      refine (show po_X10_firsts_e T WW c b T (some (vI (-2))) from ?_)
      exact ⟨_, rfl, fr_0 _ _, Or.inl ⟨rfl, by omega⟩⟩
theorem bk_X11_firsts_f_151 : ck_ fX11 (some .int) cX11_firsts 151 [.iload 8, .iload 3, .if_icmp .ge 185, .aload 0, .tableswitch 0 11 81 #[], .aload 0, .tableswitch 0 11 97 #[], .iload 8, .iaload, .iload 7, .iconst 3, .irem, .iastore, .iload 7, .iconst 3, .idiv, .istore 7, .iinc 8 1, .goto 151] 185 = true := qck_r (nn_ _) (by decide +kernel)
theorem bs_X11_firsts_f_151 {P : Zt → Option Zv → Prop} (K : Int → Zl → List Zv → Zt → Prop) : sx_ K P [.iload 8, .iload 3, .if_icmp .ge 185, .aload 0, .tableswitch 0 11 81 #[], .aload 0, .tableswitch 0 11 97 #[], .iload 8, .iaload, .iload 7, .iconst 3, .irem, .iastore, .iload 7, .iconst 3, .idiv, .istore 7, .iinc 8 1, .goto 151] 185 = x_iload 8 (x_iload 3 (x_if_icmp .ge 185 K (x_aload 0 (x_g1 111 281 (x_aload 0 (x_g1 111 297 (x_iload 8 (x_iaload (x_iload 7 (x_iconst 3 (x_irem (x_iastore (x_iload 7 (x_iconst 3 (x_idiv (x_istore 7 (x_iinc 8 1 (x_goto 151 K)))))))))))))))))) := ((xe_iload 8).trans (congrArg (x_iload 8) ((xe_iload 3).trans (congrArg (x_iload 3) ((xe_if_icmp .ge 185).trans (congrArg (x_if_icmp .ge 185 K) ((xe_aload 0).trans (congrArg (x_aload 0) ((xe_g1 (kk := 111) rfl tl_11_81).trans (congrArg (x_g1 111 281) ((xe_aload 0).trans (congrArg (x_aload 0) ((xe_g1 (kk := 111) rfl tl_11_97).trans (congrArg (x_g1 111 297) ((xe_iload 8).trans (congrArg (x_iload 8) ((xe_iaload).trans (congrArg (x_iaload) ((xe_iload 7).trans (congrArg (x_iload 7) ((xe_iconst 3).trans (congrArg (x_iconst 3) ((xe_irem).trans (congrArg (x_irem) ((xe_iastore).trans (congrArg (x_iastore) ((xe_iload 7).trans (congrArg (x_iload 7) ((xe_iconst 3).trans (congrArg (x_iconst 3) ((xe_idiv).trans (congrArg (x_idiv) ((xe_istore 7).trans (congrArg (x_istore 7) ((xe_iinc 8 1).trans (congrArg (x_iinc 8 1) (xe_goto 151)))))))))))))))))))))))))))))))))))))
theorem bk_X11_firsts_f_185 : ck_ fX11 (some .int) cX11_firsts 185 [.aload 0, .iload 1, .iconst 999] 190 = true := qck_r (nn_ _) (by decide +kernel)
theorem bs_X11_firsts_f_185 {P : Zt → Option Zv → Prop} (K : Int → Zl → List Zv → Zt → Prop) : sx_ K P [.aload 0, .iload 1, .iconst 999] 190 = x_aload 0 (x_iload 1 (x_iconst 999 (K 190))) := ((xe_aload 0).trans (congrArg (x_aload 0) ((xe_iload 1).trans (congrArg (x_iload 1) ((xe_iconst 999).trans (congrArg (x_iconst 999) xe_nil))))))
theorem bk_X11_firsts_f_193 : ck_ fX11 (some .int) cX11_firsts 193 [.iload 5, .aload 0, .iload 2] 197 = true := qck_r (nn_ _) (by decide +kernel)
theorem bs_X11_firsts_f_193 {P : Zt → Option Zv → Prop} (K : Int → Zl → List Zv → Zt → Prop) : sx_ K P [.iload 5, .aload 0, .iload 2] 197 = x_iload 5 (x_aload 0 (x_iload 2 (K 197))) := ((xe_iload 5).trans (congrArg (x_iload 5) ((xe_aload 0).trans (congrArg (x_aload 0) ((xe_iload 2).trans (congrArg (x_iload 2) xe_nil))))))
theorem bk_X11_firsts_f_200 : ck_ fX11 (some .int) cX11_firsts 200 [.iconst 1, .if_icmp .ne 208, .iconst 1, .goto 209] 208 = true := qck_r (nn_ _) (by decide +kernel)
theorem bs_X11_firsts_f_200 {P : Zt → Option Zv → Prop} (K : Int → Zl → List Zv → Zt → Prop) : sx_ K P [.iconst 1, .if_icmp .ne 208, .iconst 1, .goto 209] 208 = x_iconst 1 (x_if_icmp .ne 208 K (x_iconst 1 (x_goto 209 K))) := ((xe_iconst 1).trans (congrArg (x_iconst 1) ((xe_if_icmp .ne 208).trans (congrArg (x_if_icmp .ne 208 K) ((xe_iconst 1).trans (congrArg (x_iconst 1) (xe_goto 209)))))))
theorem bk_X11_firsts_f_208 : ck_ fX11 (some .int) cX11_firsts 208 [.iconst 0, .iadd, .istore 5, .iinc 6 1, .goto 137] 218 = true := qck_r (nn_ _) (by decide +kernel)
theorem bs_X11_firsts_f_208 {P : Zt → Option Zv → Prop} (K : Int → Zl → List Zv → Zt → Prop) : sx_ K P [.iconst 0, .iadd, .istore 5, .iinc 6 1, .goto 137] 218 = x_iconst 0 (x_iadd (x_istore 5 (x_iinc 6 1 (x_goto 137 K)))) := ((xe_iconst 0).trans (congrArg (x_iconst 0) ((xe_iadd).trans (congrArg (x_iadd) ((xe_istore 5).trans (congrArg (x_istore 5) ((xe_iinc 6 1).trans (congrArg (x_iinc 6 1) (xe_goto 137)))))))))
theorem bk_X11_firsts_f_209 : ck_ fX11 (some .int) cX11_firsts 209 [.iadd, .istore 5, .iinc 6 1, .goto 137] 218 = true := qck_r (nn_ _) (by decide +kernel)
theorem bs_X11_firsts_f_209 {P : Zt → Option Zv → Prop} (K : Int → Zl → List Zv → Zt → Prop) : sx_ K P [.iadd, .istore 5, .iinc 6 1, .goto 137] 218 = x_iadd (x_istore 5 (x_iinc 6 1 (x_goto 137 K))) := ((xe_iadd).trans (congrArg (x_iadd) ((xe_istore 5).trans (congrArg (x_istore 5) ((xe_iinc 6 1).trans (congrArg (x_iinc 6 1) (xe_goto 137)))))))
theorem bk_X11_firsts_f_137 : ck_ fX11 (some .int) cX11_firsts 137 [.iload 6, .iload 4, .if_icmp .ge 218, .iload 6, .istore 7, .iconst 0, .istore 8] 151 = true := qck_r (nn_ _) (by decide +kernel)
theorem bs_X11_firsts_f_137 {P : Zt → Option Zv → Prop} (K : Int → Zl → List Zv → Zt → Prop) : sx_ K P [.iload 6, .iload 4, .if_icmp .ge 218, .iload 6, .istore 7, .iconst 0, .istore 8] 151 = x_iload 6 (x_iload 4 (x_if_icmp .ge 218 K (x_iload 6 (x_istore 7 (x_iconst 0 (x_istore 8 (K 151))))))) := ((xe_iload 6).trans (congrArg (x_iload 6) ((xe_iload 4).trans (congrArg (x_iload 4) ((xe_if_icmp .ge 218).trans (congrArg (x_if_icmp .ge 218 K) ((xe_iload 6).trans (congrArg (x_iload 6) ((xe_istore 7).trans (congrArg (x_istore 7) ((xe_iconst 0).trans (congrArg (x_iconst 0) ((xe_istore 8).trans (congrArg (x_istore 8) xe_nil))))))))))))))
theorem bk_X11_firsts_f_218 : ck_ fX11 (some .int) cX11_firsts 218 [.aload 0, .iconst 0, .tableswitch 1 11 80 #[], .iload 5, .ireturn] 226 = true := qck_r (nn_ _) (by decide +kernel)
theorem bs_X11_firsts_f_218 {P : Zt → Option Zv → Prop} (K : Int → Zl → List Zv → Zt → Prop) : sx_ K P [.aload 0, .iconst 0, .tableswitch 1 11 80 #[], .iload 5, .ireturn] 226 = x_aload 0 (x_iconst 0 (x_p 111 80 0 1 (x_iload 5 (x_ireturn P)))) := ((xe_aload 0).trans (congrArg (x_aload 0) ((xe_iconst 0).trans (congrArg (x_iconst 0) ((xe_p (kk := 111) rfl tl_11_80).trans (congrArg (x_p 111 80 0 1) ((xe_iload 5).trans (congrArg (x_iload 5) (xe_ireturn)))))))))
theorem bk_X11_firsts_f_59 : ck_ fX11 (some .int) cX11_firsts 59 [.iload 5, .aload 0, .tableswitch 0 11 10 #[], .iload 1, .iaload, .aload 0, .tableswitch 0 11 11 #[], .iload 1, .iaload, .iadd, .if_icmp .ge 119, .aload 0, .iload 5] 80 = true := qck_r (nn_ _) (by decide +kernel)
theorem bs_X11_firsts_f_59 {P : Zt → Option Zv → Prop} (K : Int → Zl → List Zv → Zt → Prop) : sx_ K P [.iload 5, .aload 0, .tableswitch 0 11 10 #[], .iload 1, .iaload, .aload 0, .tableswitch 0 11 11 #[], .iload 1, .iaload, .iadd, .if_icmp .ge 119, .aload 0, .iload 5] 80 = x_iload 5 (x_aload 0 (x_g1 111 210 (x_iload 1 (x_iaload (x_aload 0 (x_g1 111 211 (x_iload 1 (x_iaload (x_iadd (x_if_icmp .ge 119 K (x_aload 0 (x_iload 5 (K 80))))))))))))) := ((xe_iload 5).trans (congrArg (x_iload 5) ((xe_aload 0).trans (congrArg (x_aload 0) ((xe_g1 (kk := 111) rfl tl_11_10).trans (congrArg (x_g1 111 210) ((xe_iload 1).trans (congrArg (x_iload 1) ((xe_iaload).trans (congrArg (x_iaload) ((xe_aload 0).trans (congrArg (x_aload 0) ((xe_g1 (kk := 111) rfl tl_11_11).trans (congrArg (x_g1 111 211) ((xe_iload 1).trans (congrArg (x_iload 1) ((xe_iaload).trans (congrArg (x_iaload) ((xe_iadd).trans (congrArg (x_iadd) ((xe_if_icmp .ge 119).trans (congrArg (x_if_icmp .ge 119 K) ((xe_aload 0).trans (congrArg (x_aload 0) ((xe_iload 5).trans (congrArg (x_iload 5) xe_nil))))))))))))))))))))))))))
theorem bk_X11_firsts_f_119 : ck_ fX11 (some .int) cX11_firsts 119 [.iload 3, .iconst 3, .if_icmp .le 126, .iconst (-1), .ireturn] 126 = true := qck_r (nn_ _) (by decide +kernel)
theorem bs_X11_firsts_f_119 {P : Zt → Option Zv → Prop} (K : Int → Zl → List Zv → Zt → Prop) : sx_ K P [.iload 3, .iconst 3, .if_icmp .le 126, .iconst (-1), .ireturn] 126 = x_iload 3 (x_iconst 3 (x_if_icmp .le 126 K (x_iconst (-1) (x_ireturn P)))) := ((xe_iload 3).trans (congrArg (x_iload 3) ((xe_iconst 3).trans (congrArg (x_iconst 3) ((xe_if_icmp .le 126).trans (congrArg (x_if_icmp .le 126 K) ((xe_iconst (-1)).trans (congrArg (x_iconst (-1)) (xe_ireturn)))))))))
theorem bk_X11_firsts_f_126 : ck_ fX11 (some .int) cX11_firsts 126 [.iconst 0, .istore 5, .aload 0, .iconst 1, .tableswitch 1 11 80 #[], .iconst 0, .istore 6] 137 = true := qck_r (nn_ _) (by decide +kernel)
theorem bs_X11_firsts_f_126 {P : Zt → Option Zv → Prop} (K : Int → Zl → List Zv → Zt → Prop) : sx_ K P [.iconst 0, .istore 5, .aload 0, .iconst 1, .tableswitch 1 11 80 #[], .iconst 0, .istore 6] 137 = x_iconst 0 (x_istore 5 (x_aload 0 (x_iconst 1 (x_p 111 80 0 1 (x_iconst 0 (x_istore 6 (K 137))))))) := ((xe_iconst 0).trans (congrArg (x_iconst 0) ((xe_istore 5).trans (congrArg (x_istore 5) ((xe_aload 0).trans (congrArg (x_aload 0) ((xe_iconst 1).trans (congrArg (x_iconst 1) ((xe_p (kk := 111) rfl tl_11_80).trans (congrArg (x_p 111 80 0 1) ((xe_iconst 0).trans (congrArg (x_iconst 0) ((xe_istore 6).trans (congrArg (x_istore 6) xe_nil))))))))))))))
theorem bk_X11_firsts_f_83 : ck_ fX11 (some .int) cX11_firsts 83 [.ifCond .eq 113, .aload 0, .tableswitch 0 11 97 #[], .iload 3, .iload 5, .iastore, .iinc 3 1, .iload 3, .iconst 3, .if_icmp .le 107, .iload 4, .goto 111] 107 = true := qck_r (nn_ _) (by decide +kernel)
theorem bs_X11_firsts_f_83 {P : Zt → Option Zv → Prop} (K : Int → Zl → List Zv → Zt → Prop) : sx_ K P [.ifCond .eq 113, .aload 0, .tableswitch 0 11 97 #[], .iload 3, .iload 5, .iastore, .iinc 3 1, .iload 3, .iconst 3, .if_icmp .le 107, .iload 4, .goto 111] 107 = x_ifCond .eq 113 K (x_aload 0 (x_g1 111 297 (x_iload 3 (x_iload 5 (x_iastore (x_iinc 3 1 (x_iload 3 (x_iconst 3 (x_if_icmp .le 107 K (x_iload 4 (x_goto 111 K))))))))))) := ((xe_ifCond .eq 113).trans (congrArg (x_ifCond .eq 113 K) ((xe_aload 0).trans (congrArg (x_aload 0) ((xe_g1 (kk := 111) rfl tl_11_97).trans (congrArg (x_g1 111 297) ((xe_iload 3).trans (congrArg (x_iload 3) ((xe_iload 5).trans (congrArg (x_iload 5) ((xe_iastore).trans (congrArg (x_iastore) ((xe_iinc 3 1).trans (congrArg (x_iinc 3 1) ((xe_iload 3).trans (congrArg (x_iload 3) ((xe_iconst 3).trans (congrArg (x_iconst 3) ((xe_if_icmp .le 107).trans (congrArg (x_if_icmp .le 107 K) ((xe_iload 4).trans (congrArg (x_iload 4) (xe_goto 111)))))))))))))))))))))))
theorem bk_X11_firsts_f_113 : ck_ fX11 (some .int) cX11_firsts 113 [.iinc 5 1, .goto 59] 119 = true := qck_r (nn_ _) (by decide +kernel)
theorem bs_X11_firsts_f_113 {P : Zt → Option Zv → Prop} (K : Int → Zl → List Zv → Zt → Prop) : sx_ K P [.iinc 5 1, .goto 59] 119 = x_iinc 5 1 (x_goto 59 K) := ((xe_iinc 5 1).trans (congrArg (x_iinc 5 1) (xe_goto 59)))
theorem bk_X11_firsts_f_107 : ck_ fX11 (some .int) cX11_firsts 107 [.iconst 3, .iload 4, .imul, .istore 4, .iinc 5 1, .goto 59] 119 = true := qck_r (nn_ _) (by decide +kernel)
theorem bs_X11_firsts_f_107 {P : Zt → Option Zv → Prop} (K : Int → Zl → List Zv → Zt → Prop) : sx_ K P [.iconst 3, .iload 4, .imul, .istore 4, .iinc 5 1, .goto 59] 119 = x_iconst 3 (x_iload 4 (x_imul (x_istore 4 (x_iinc 5 1 (x_goto 59 K))))) := ((xe_iconst 3).trans (congrArg (x_iconst 3) ((xe_iload 4).trans (congrArg (x_iload 4) ((xe_imul).trans (congrArg (x_imul) ((xe_istore 4).trans (congrArg (x_istore 4) ((xe_iinc 5 1).trans (congrArg (x_iinc 5 1) (xe_goto 59)))))))))))
theorem bk_X11_firsts_f_111 : ck_ fX11 (some .int) cX11_firsts 111 [.istore 4, .iinc 5 1, .goto 59] 119 = true := qck_r (nn_ _) (by decide +kernel)
theorem bs_X11_firsts_f_111 {P : Zt → Option Zv → Prop} (K : Int → Zl → List Zv → Zt → Prop) : sx_ K P [.istore 4, .iinc 5 1, .goto 59] 119 = x_istore 4 (x_iinc 5 1 (x_goto 59 K)) := ((xe_istore 4).trans (congrArg (x_istore 4) ((xe_iinc 5 1).trans (congrArg (x_iinc 5 1) (xe_goto 59)))))
theorem bk_X11_firsts_f_0 : ck_ fX11 (some .int) cX11_firsts 0 [.iload 1, .aload 0, .tableswitch 0 11 6 #[]] 5 = true := qck_r (nn_ _) (by decide +kernel)
theorem bs_X11_firsts_f_0 {P : Zt → Option Zv → Prop} (K : Int → Zl → List Zv → Zt → Prop) : sx_ K P [.iload 1, .aload 0, .tableswitch 0 11 6 #[]] 5 = x_iload 1 (x_aload 0 (x_g0 111 6 0 4 (K 5))) := ((xe_iload 1).trans (congrArg (x_iload 1) ((xe_aload 0).trans (congrArg (x_aload 0) ((xe_g0 (kk := 111) rfl tl_11_6).trans (congrArg (x_g0 111 6 0 4) xe_nil))))))
theorem bk_X11_firsts_f_8 : ck_ fX11 (some .int) cX11_firsts 8 [.ifCond .eq 22, .iload 2, .aload 0, .tableswitch 0 11 12 #[]] 16 = true := qck_r (nn_ _) (by decide +kernel)
theorem bs_X11_firsts_f_8 {P : Zt → Option Zv → Prop} (K : Int → Zl → List Zv → Zt → Prop) : sx_ K P [.ifCond .eq 22, .iload 2, .aload 0, .tableswitch 0 11 12 #[]] 16 = x_ifCond .eq 22 K (x_iload 2 (x_aload 0 (x_g0 111 12 0 12 (K 16)))) := ((xe_ifCond .eq 22).trans (congrArg (x_ifCond .eq 22 K) ((xe_iload 2).trans (congrArg (x_iload 2) ((xe_aload 0).trans (congrArg (x_aload 0) ((xe_g0 (kk := 111) rfl tl_11_12).trans (congrArg (x_g0 111 12 0 12) xe_nil))))))))
theorem bk_X11_firsts_f_22 : ck_ fX11 (some .int) cX11_firsts 22 [.iconst (-2), .ireturn] 25 = true := qck_r (nn_ _) (by decide +kernel)
theorem bs_X11_firsts_f_22 {P : Zt → Option Zv → Prop} (K : Int → Zl → List Zv → Zt → Prop) : sx_ K P [.iconst (-2), .ireturn] 25 = x_iconst (-2) (x_ireturn P) := ((xe_iconst (-2)).trans (congrArg (x_iconst (-2)) (xe_ireturn)))
theorem bk_X11_firsts_f_19 : ck_ fX11 (some .int) cX11_firsts 19 [.ifCond .ne 25, .iconst (-2), .ireturn] 25 = true := qck_r (nn_ _) (by decide +kernel)
theorem bs_X11_firsts_f_19 {P : Zt → Option Zv → Prop} (K : Int → Zl → List Zv → Zt → Prop) : sx_ K P [.ifCond .ne 25, .iconst (-2), .ireturn] 25 = x_ifCond .ne 25 K (x_iconst (-2) (x_ireturn P)) := ((xe_ifCond .ne 25).trans (congrArg (x_ifCond .ne 25 K) ((xe_iconst (-2)).trans (congrArg (x_iconst (-2)) (xe_ireturn)))))
theorem bk_X11_firsts_f_25 : ck_ fX11 (some .int) cX11_firsts 25 [.aload 0, .tableswitch 0 11 9 #[], .iload 1, .baload, .ifCond .eq 43, .aload 0, .iload 1, .iload 2] 37 = true := qck_r (nn_ _) (by decide +kernel)
theorem bs_X11_firsts_f_25 {P : Zt → Option Zv → Prop} (K : Int → Zl → List Zv → Zt → Prop) : sx_ K P [.aload 0, .tableswitch 0 11 9 #[], .iload 1, .baload, .ifCond .eq 43, .aload 0, .iload 1, .iload 2] 37 = x_aload 0 (x_g1 111 209 (x_iload 1 (x_baload (x_ifCond .eq 43 K (x_aload 0 (x_iload 1 (x_iload 2 (K 37)))))))) := ((xe_aload 0).trans (congrArg (x_aload 0) ((xe_g1 (kk := 111) rfl tl_11_9).trans (congrArg (x_g1 111 209) ((xe_iload 1).trans (congrArg (x_iload 1) ((xe_baload).trans (congrArg (x_baload) ((xe_ifCond .eq 43).trans (congrArg (x_ifCond .eq 43 K) ((xe_aload 0).trans (congrArg (x_aload 0) ((xe_iload 1).trans (congrArg (x_iload 1) ((xe_iload 2).trans (congrArg (x_iload 2) xe_nil))))))))))))))))
theorem bk_X11_firsts_f_43 : ck_ fX11 (some .int) cX11_firsts 43 [.iconst (-4), .ireturn] 46 = true := qck_r (nn_ _) (by decide +kernel)
theorem bs_X11_firsts_f_43 {P : Zt → Option Zv → Prop} (K : Int → Zl → List Zv → Zt → Prop) : sx_ K P [.iconst (-4), .ireturn] 46 = x_iconst (-4) (x_ireturn P) := ((xe_iconst (-4)).trans (congrArg (x_iconst (-4)) (xe_ireturn)))
theorem bk_X11_firsts_f_40 : ck_ fX11 (some .int) cX11_firsts 40 [.ifCond .ne 46, .iconst (-4), .ireturn] 46 = true := qck_r (nn_ _) (by decide +kernel)
theorem bs_X11_firsts_f_40 {P : Zt → Option Zv → Prop} (K : Int → Zl → List Zv → Zt → Prop) : sx_ K P [.ifCond .ne 46, .iconst (-4), .ireturn] 46 = x_ifCond .ne 46 K (x_iconst (-4) (x_ireturn P)) := ((xe_ifCond .ne 46).trans (congrArg (x_ifCond .ne 46 K) ((xe_iconst (-4)).trans (congrArg (x_iconst (-4)) (xe_ireturn)))))
theorem bk_X11_firsts_f_46 : ck_ fX11 (some .int) cX11_firsts 46 [.iconst 0, .istore 3, .iconst 1, .istore 4, .aload 0, .tableswitch 0 11 10 #[], .iload 1, .iaload, .istore 5] 59 = true := qck_r (nn_ _) (by decide +kernel)
theorem bs_X11_firsts_f_46 {P : Zt → Option Zv → Prop} (K : Int → Zl → List Zv → Zt → Prop) : sx_ K P [.iconst 0, .istore 3, .iconst 1, .istore 4, .aload 0, .tableswitch 0 11 10 #[], .iload 1, .iaload, .istore 5] 59 = x_iconst 0 (x_istore 3 (x_iconst 1 (x_istore 4 (x_aload 0 (x_g1 111 210 (x_iload 1 (x_iaload (x_istore 5 (K 59))))))))) := ((xe_iconst 0).trans (congrArg (x_iconst 0) ((xe_istore 3).trans (congrArg (x_istore 3) ((xe_iconst 1).trans (congrArg (x_iconst 1) ((xe_istore 4).trans (congrArg (x_istore 4) ((xe_aload 0).trans (congrArg (x_aload 0) ((xe_g1 (kk := 111) rfl tl_11_10).trans (congrArg (x_g1 111 210) ((xe_iload 1).trans (congrArg (x_iload 1) ((xe_iaload).trans (congrArg (x_iaload) ((xe_istore 5).trans (congrArg (x_istore 5) xe_nil))))))))))))))))))
abbrev po_X11_firsts_f (T : Zt) (c cl : Int) : Zt → Option Zv → Prop := fun T' r => ∃ x : Int, r = some (vI x) ∧ fr_ [(276, []), (284, []), (277, []), (286, []), (278, []), (297, []), (281, []), (111, [82, 83, 85, 87, 79, 80])] T T' ∧ ((T 111 0 80 = 0 → T' 111 0 80 = 0) ∧ ((x = -2 ∧ ¬ ((0 ≤ c ∧ c < T 111 0 6) ∧ (0 ≤ cl ∧ cl < T 111 0 12))) ∨ (x = -4 ∧ ((0 ≤ c ∧ c < T 111 0 6) ∧ (0 ≤ cl ∧ cl < T 111 0 12)) ∧ ¬ (T 209 0 c ≠ 0 ∧ HE_ T c cl)) ∨ (((0 ≤ c ∧ c < T 111 0 6) ∧ (0 ≤ cl ∧ cl < T 111 0 12)) ∧ T 209 0 c ≠ 0 ∧ HE_ T c cl ∧ ((x = -1 ∧ 3 < (dl9_ (fun i => T 235 0 (T 210 0 c + i) = 0 ∨ T 235 0 (T 210 0 c + i) = 1) (T 211 0 c).toNat).1) ∨ ((dl9_ (fun i => T 235 0 (T 210 0 c + i) = 0 ∨ T 235 0 (T 210 0 c + i) = 1) (T 211 0 c).toNat).1 ≤ 3 ∧ CNg_ (BPr_ T c cl (dl9_ (fun i => T 235 0 (T 210 0 c + i) = 0 ∨ T 235 0 (T 210 0 c + i) = 1) (T 211 0 c).toNat).1 (fun j => T 210 0 c + (dl9_ (fun i => T 235 0 (T 210 0 c + i) = 0 ∨ T 235 0 (T 210 0 c + i) = 1) (T 211 0 c).toNat).2 j)) x (p3_ (dl9_ (fun i => T 235 0 (T 210 0 c + i) = 0 ∨ T 235 0 (T 210 0 c + i) = 1) (T 211 0 c).toNat).1))))))
set_option maxHeartbeats 4000000 in
theorem ct_X11_firsts_f {T : Zt} {c cl : Int} (hri : RI_ T) (hml : ML_ T) (hsc : SC_ T) (hyb : YB_ T) (hen : EN_ T) (hgx : GX_ T (-1)) (hrx : RX_ T []) : Ct_ yX11_firsts zX11_firsts T [vR 111 0, vI c, vI cl] (po_X11_firsts_f T c cl) := by
  refine ct_of pn_11 rfl rfl (Nat.le_of_ble_eq_true rfl) (fun hT hav => ?_)
  have hr_c : -2147483648 ≤ c ∧ c ≤ 2147483647 := hav (vI c) (List.mem_cons_of_mem _ List.mem_cons_self)
  have hr_cl : -2147483648 ≤ cl ∧ cl ≤ 2147483647 := hav (vI cl) (List.mem_cons_of_mem _ (List.mem_cons_of_mem _ List.mem_cons_self))
  have hz : zX11_firsts.2.2.2.1 = some .boolean → ∀ (T' : Zt) (x : Int), po_X11_firsts_f T c cl T' (some (vI x)) → 0 ≤ x ∧ x ≤ 1 := fun h => by cases h
  have hb_6 : 0 ≤ T 111 0 6 ∧ T 111 0 6 ≤ 4 := bd_f hT 111 6 tl_11_6 0
  have hb_12 : 0 ≤ T 111 0 12 ∧ T 111 0 12 ≤ 12 := bd_f hT 111 12 tl_11_12 0
  have hb_29 : 0 ≤ T 111 0 29 ∧ T 111 0 29 ≤ 400 := bd_f hT 111 29 tl_11_29 0
  show J_ zX11_firsts T (po_X11_firsts_f T c cl) 0 0 0 [some (vR 111 0), some (vI c), some (vI cl), none, none, none, none, none, none] [] T
  have c_137 : ∀ (nn : Nat) (mn : Int) (al : Int) (fi : Int) (r : Int) (T2 : Zt), ((al - r).toNat) ≤ nn → (fr_ [(276, []), (284, []), (277, []), (286, []), (278, []), (297, []), (281, []), (111, [82, 83, 85, 87, 79, 80])] T T2) → (HE_ T c cl) → (0 ≤ c ∧ c < T 111 0 6) → (0 ≤ cl ∧ cl < T 111 0 12 ∧ T 209 0 c ≠ 0) → (0 ≤ mn ∧ mn ≤ 3 ∧ 0 ≤ r ∧ r ≤ al ∧ 0 ≤ fi ∧ fi ≤ r ∧ ((mn = 0 ∧ al = 1) ∨ (mn = 1 ∧ al = 3) ∨ (mn = 2 ∧ al = 9) ∨ (mn = 3 ∧ al = 27) ∨ 3 < mn)) → (T2 111 0 80 = 1) → (mn = (dl9_ (fun i => T 235 0 (T 210 0 c + i) = 0 ∨ T 235 0 (T 210 0 c + i) = 1) (T 211 0 c).toNat).1) → (∀ j, 0 ≤ j → j < mn → T2 297 0 j = T 210 0 c + (dl9_ (fun i => T 235 0 (T 210 0 c + i) = 0 ∨ T 235 0 (T 210 0 c + i) = 1) (T 211 0 c).toNat).2 j) → (CNg_ (BPr_ T c cl mn (fun j => T 210 0 c + (dl9_ (fun i => T 235 0 (T 210 0 c + i) = 0 ∨ T 235 0 (T 210 0 c + i) = 1) (T 211 0 c).toNat).2 j)) fi r) → J_ zX11_firsts T (po_X11_firsts_f T c cl) 0 0 137 [some (vR 111 0), some (vI c), some (vI cl), some (vI mn), some (vI al), some (vI fi), some (vI r), none, none] [] T2 := by
    intro nn
    induction nn using Nat.strongRecOn with
    | _ nn ih_137 =>
      intro mn al fi r T2 hm_137 hf_137 he cc cb i2 su2 lf2 lo2 cn2
      replace hm_137 := fun (_ : Unit) => hm_137
      have c_151 : ∀ (nn : Nat) (re : Int) (k : Int) (T3 : Zt), ((mn - k).toNat) ≤ nn → (fr_ [(276, []), (284, []), (277, []), (286, []), (278, []), (297, []), (281, []), (111, [82, 83, 85, 87, 79, 80])] T T3) → (0 ≤ re ∧ 0 ≤ k ∧ k ≤ mn ∧ r < al) → (re = rs3_ r k.toNat) → (T3 111 0 80 = 1) → (∀ j, 0 ≤ j → j < mn → T3 297 0 j = T 210 0 c + (dl9_ (fun i => T 235 0 (T 210 0 c + i) = 0 ∨ T 235 0 (T 210 0 c + i) = 1) (T 211 0 c).toNat).2 j) → (∀ j, 0 ≤ j → j < k → T3 281 0 (T 210 0 c + (dl9_ (fun i => T 235 0 (T 210 0 c + i) = 0 ∨ T 235 0 (T 210 0 c + i) = 1) (T 211 0 c).toNat).2 j) = rs3_ r j.toNat % 3) → J_ zX11_firsts T (po_X11_firsts_f T c cl) 0 0 151 [some (vR 111 0), some (vI c), some (vI cl), some (vI mn), some (vI al), some (vI fi), some (vI r), some (vI re), some (vI k)] [] T3 := by
        intro nn
        induction nn using Nat.strongRecOn with
        | _ nn ih_151 =>
          intro re k T3 hm_151 hf_151 i3 gr3 su3 lo3 sp3
          replace hm_151 := fun (_ : Unit) => hm_151
          refine j_blx (F := fX11) tb_X11 (nn_ _) bk_X11_firsts_f_151 bs_X11_firsts_f_151 hz (fun K hK => ?_)
          refine And.intro (fun c1 => ?_) (fun c1 => ?_)
          · refine hK 185 _ [] T3 ?_
            refine j_blx (F := fX11) tb_X11 (nn_ _) bk_X11_firsts_f_185 bs_X11_firsts_f_185 hz (fun K hK => ?_)
            refine hK 190 _ [vI 999, vI c, vR 111 0] T3 ?_
            refine j_ok (fun hT9 _ => ?_)
            refine j_callV (y := yX11_orderAll) (Yc := zX11_orderAll) (rest := []) [vI c, vI 999] (ct_X11_orderAll_e (T := T3) (c := c) (d := 999) (by have e6 := hf_151 111 0 6 rfl; omega) (RI__f (ws := [(276, []), (284, []), (277, []), (286, []), (278, []), (297, []), (281, []), (111, [82, 83, 85, 87, 79, 80])]) hri (fr_t (fr_0 _ _) (fr_s hf_151 rfl)) ⟨fun _ => rfl, rfl, trivial⟩) (ML__f (ws := [(276, []), (284, []), (277, []), (286, []), (278, []), (297, []), (281, []), (111, [82, 83, 85, 87, 79, 80])]) hml (fr_t (fr_0 _ _) (fr_s hf_151 rfl)) ⟨fun _ => rfl, fun _ => rfl, rfl, trivial⟩) (SC__f (ws := [(276, []), (284, []), (277, []), (286, []), (278, []), (297, []), (281, []), (111, [82, 83, 85, 87, 79, 80])]) hsc (fr_t (fr_0 _ _) (fr_s hf_151 rfl)) ⟨fun _ => rfl, fun _ => rfl, trivial⟩) (YB__f (ws := [(276, []), (284, []), (277, []), (286, []), (278, []), (297, []), (281, []), (111, [82, 83, 85, 87, 79, 80])]) hyb (fr_t (fr_0 _ _) (fr_s hf_151 rfl)) ⟨fun _ => rfl, trivial⟩) (EN__f (ws := [(276, []), (284, []), (277, []), (286, []), (278, []), (297, []), (281, []), (111, [82, 83, 85, 87, 79, 80])]) hen (fr_t (fr_0 _ _) (fr_s hf_151 rfl)) ⟨fun _ => rfl, fun _ => rfl, rfl, trivial⟩) (gb_i hT9 (gx_f hgx hf_151 ⟨fun _ => rfl, fun _ => rfl, fun _ => rfl⟩ (fun j _ => hf_151 254 0 j rfl) (Or.inl rfl)) (rx_f hrx (hf_151 111 0 29 rfl) (hf_151 111 0 47 rfl) (fun k j h => by rcases h with rfl | rfl | rfl | rfl | rfl <;> exact hf_151 _ 0 j rfl)) (YB__f (ws := [(276, []), (284, []), (277, []), (286, []), (278, []), (297, []), (281, []), (111, [82, 83, 85, 87, 79, 80])]) hyb (fr_t (fr_0 _ _) (fr_s hf_151 rfl)) ⟨fun _ => rfl, trivial⟩) (ML__f (ws := [(276, []), (284, []), (277, []), (286, []), (278, []), (297, []), (281, []), (111, [82, 83, 85, 87, 79, 80])]) hml (fr_t (fr_0 _ _) (fr_s hf_151 rfl)) ⟨fun _ => rfl, fun _ => rfl, rfl, trivial⟩) (by omega))) cl_X11_532 (qd_c (by decide +kernel)) (nn_ _) rfl (rf_of rfl) (Nat.le_of_ble_eq_true rfl) (Nat.le_of_ble_eq_true rfl) (Nat.le_of_ble_eq_true rfl) rfl ?_
            rintro U2 _ ⟨rfl, fU2, qU2a, qU2b, qU2c, qU2d, qU2m, qU2r⟩
            show J_ zX11_firsts T (po_X11_firsts_f T c cl) 0 0 193 _ [] U2
            refine j_blx (F := fX11) tb_X11 (nn_ _) bk_X11_firsts_f_193 bs_X11_firsts_f_193 hz (fun K hK => ?_)
            refine hK 197 _ [vI cl, vR 111 0, vI fi] U2 ?_
            refine j_callV (y := yX11_placeOf) (Yc := zX11_placeOf) (rest := [vI fi]) [vI cl] (ct_X11_placeOf_e (T := U2) (qU2b cl (he_f he (fun j => hf_151 208 0 j rfl) (fun j => hf_151 207 0 j rfl)))) cl_X11_535 (qd_c (by decide +kernel)) (nn_ _) rfl (rf_of rfl) (Nat.le_of_ble_eq_true rfl) (Nat.le_of_ble_eq_true rfl) (Nat.le_of_ble_eq_true rfl) rfl ?_
            rintro _ _ ⟨rfl, x3, rfl, hx3⟩
            show J_ zX11_firsts T (po_X11_firsts_f T c cl) 0 0 200 _ [vI x3, vI fi] U2
            refine j_blx (F := fX11) tb_X11 (nn_ _) bk_X11_firsts_f_200 bs_X11_firsts_f_200 hz (fun K hK => ?_)
            refine And.intro (fun c4 => ?_) (fun c4 => ?_)
            · refine hK 208 _ [vI fi] U2 ?_
              refine j_blx (F := fX11) tb_X11 (nn_ _) bk_X11_firsts_f_208 bs_X11_firsts_f_208 hz (fun K hK => ?_)
              refine rg_i (by omega) ?_
              refine rg_i (by omega) ?_
              refine hK 137 [some (vR 111 0), some (vI c), some (vI cl), some (vI mn), some (vI al), some (vI (fi + 0)), some (vI (r + 1)), some (vI re), some (vI k)] [] U2 ?_
              refine j_drop [some (vR 111 0), some (vI c), some (vI cl), some (vI mn), some (vI al), some (vI (fi + 0)), some (vI (r + 1)), none, none] (fun k v hk => ?_) rfl ?_
              · match k, hk with
                | 0, hk => exact hk
                | 1, hk => exact hk
                | 2, hk => exact hk
                | 3, hk => exact hk
                | 4, hk => exact hk
                | 5, hk => exact hk
                | 6, hk => exact hk
                | 7, hk => cases hk
                | 8, hk => cases hk
                | k + 9, hk => cases hk
              have e5 : U2 111 0 80 = T3 111 0 80 := fU2 111 0 80 rfl
              refine ih_137 _ ?_ mn al (fi + 0) (r + 1) U2 (Nat.le_refl _) ?_ ?_ ?_ ?_ ?_ ?_ ?_ ?_ ?_
              · have hm_137 := hm_137 (); omega
              · exact fr_t (fr_t (fr_0 _ _) (fr_s hf_151 rfl)) (fr_s fU2 rfl)
              · exact he
              · omega
              · omega
              · omega
              · exact (fU2 111 0 80 rfl).trans su3
              · exact lf2
              · intro j a b
                rw [fU2 297 0 j rfl]
                exact lo3 j a b
              · exact cng_s (b := x3 = 1) cn2 (by omega) ⟨T3, U2, x3, hf_151, su3, fun j a b => sp3 j a (by omega), fU2, qU2c, qU2d, qU2r, hx3, Iff.rfl⟩ (by omega)
            · refine hK 209 [some (vR 111 0), some (vI c), some (vI cl), some (vI mn), some (vI al), some (vI fi), some (vI r), some (vI re), some (vI k)] [vI 1, vI fi] U2 ?_
              refine j_blx (F := fX11) tb_X11 (nn_ _) bk_X11_firsts_f_209 bs_X11_firsts_f_209 hz (fun K hK => ?_)
              refine rg_i (by omega) ?_
              refine rg_i (by omega) ?_
              refine hK 137 [some (vR 111 0), some (vI c), some (vI cl), some (vI mn), some (vI al), some (vI (fi + 1)), some (vI (r + 1)), some (vI re), some (vI k)] [] U2 ?_
              refine j_drop [some (vR 111 0), some (vI c), some (vI cl), some (vI mn), some (vI al), some (vI (fi + 1)), some (vI (r + 1)), none, none] (fun k v hk => ?_) rfl ?_
              · match k, hk with
                | 0, hk => exact hk
                | 1, hk => exact hk
                | 2, hk => exact hk
                | 3, hk => exact hk
                | 4, hk => exact hk
                | 5, hk => exact hk
                | 6, hk => exact hk
                | 7, hk => cases hk
                | 8, hk => cases hk
                | k + 9, hk => cases hk
              have e6 : U2 111 0 80 = T3 111 0 80 := fU2 111 0 80 rfl
              refine ih_137 _ ?_ mn al (fi + 1) (r + 1) U2 (Nat.le_refl _) ?_ ?_ ?_ ?_ ?_ ?_ ?_ ?_ ?_
              · have hm_137 := hm_137 (); omega
              · exact fr_t (fr_t (fr_0 _ _) (fr_s hf_151 rfl)) (fr_s fU2 rfl)
              · exact he
              · omega
              · omega
              · omega
              · exact (fU2 111 0 80 rfl).trans su3
              · exact lf2
              · intro j a b
                rw [fU2 297 0 j rfl]
                exact lo3 j a b
              · exact cng_s (b := x3 = 1) cn2 (by omega) ⟨T3, U2, x3, hf_151, su3, fun j a b => sp3 j a (by omega), fU2, qU2c, qU2d, qU2r, hx3, Iff.rfl⟩ (by omega)
          · refine ix_i (by omega) ?_
            intro b7 b7b
            refine dv_i (by omega) ?_
            refine iy_i (by omega) (by omega) ?_
            refine x_nm (fun U8 hU8 => ?_)
            have e9 := up_f hU8
            refine dv_i (by omega) ?_
            refine rg_i (by omega) ?_
            refine hK 151 [some (vR 111 0), some (vI c), some (vI cl), some (vI mn), some (vI al), some (vI fi), some (vI r), some (vI (re / 3)), some (vI (k + 1))] [] U8 ?_
            have e10 : U8 111 0 80 = T3 111 0 80 := up_k hU8 (by exact Nat.ne_of_beq_eq_false rfl) 0 80
            refine ih_151 _ ?_ (re / 3) (k + 1) U8 (Nat.le_refl _) ?_ ?_ ?_ ?_ ?_ ?_
            · have hm_151 := hm_151 (); omega
            · exact fr_u (fr_t (fr_0 _ _) (fr_s hf_151 rfl)) hU8 rfl
            · omega
            · rw [show (k + 1).toNat = k.toNat + 1 by omega]
              show re / 3 = rs3_ r k.toNat / 3
              rw [← gr3]
            · exact (up_k hU8 (by exact Nat.ne_of_beq_eq_false rfl) 0 80).trans su3
            · intro j a b
              rw [up_k hU8 (by exact Nat.ne_of_beq_eq_false rfl) 0 j]
              exact lo3 j a b
            · have da := dl_a (D := (fun i => T 235 0 (T 210 0 c + i) = 0 ∨ T 235 0 (T 210 0 c + i) = 1)) (T 211 0 c).toNat
              have ik := lo3 k (by omega) (by omega)
              intro j a b
              by_cases z : j = k
              · rw [z, ← ik, up_f hU8, gr3]
              · have y := da.2.1 j k a (by omega) (by omega)
                rw [up_g hU8 (fun q => by have q9 := q.2.2; omega)]
                exact sp3 j a (by omega)
      refine j_blx (F := fX11) tb_X11 (nn_ _) bk_X11_firsts_f_137 bs_X11_firsts_f_137 hz (fun K hK => ?_)
      refine And.intro (fun c11 => ?_) (fun c11 => ?_)
      · refine hK 218 _ [] T2 ?_
        refine j_blx (F := fX11) tb_X11 (nn_ _) bk_X11_firsts_f_218 bs_X11_firsts_f_218 hz (fun K hK => ?_)
        refine bd_i (by omega) ?_
        refine x_nm (fun U12 hU12 => ?_)
        have e13 := up_f hU12
        refine (show po_X11_firsts_f T c cl U12 (some (vI fi)) from ?_)
        have e14 : U12 111 0 80 = 0 := up_f hU12
        have ep : p3_ (dl9_ (fun i => T 235 0 (T 210 0 c + i) = 0 ∨ T 235 0 (T 210 0 c + i) = 1) (T 211 0 c).toNat).1 = r := by
          rw [← lf2]
          unfold p3_
          rcases (by omega : (mn = 0 ∧ r = 1) ∨ (mn = 1 ∧ r = 3) ∨ (mn = 2 ∧ r = 9) ∨ (mn = 3 ∧ r = 27)) with ⟨rfl, rfl⟩ | ⟨rfl, rfl⟩ | ⟨rfl, rfl⟩ | ⟨rfl, rfl⟩ <;> rfl
        exact ⟨_, rfl, fr_u (fr_t (fr_0 _ _) (fr_s hf_137 rfl)) hU12 rfl, fun _ => up_f hU12, Or.inr (Or.inr ⟨by omega, by omega, he, Or.inr ⟨by omega, by rw [ep, ← lf2]; exact cn2⟩⟩)⟩
      · refine hK 151 [some (vR 111 0), some (vI c), some (vI cl), some (vI mn), some (vI al), some (vI fi), some (vI r), some (vI r), some (vI 0)] [] T2 ?_
        refine c_151 _ r 0 T2 (Nat.le_refl _) ?_ ?_ ?_ ?_ ?_ ?_
        · exact fr_t (fr_0 _ _) (fr_s hf_137 rfl)
        · omega
        · exact rfl
        · exact su2
        · exact lo2
        · intro j a b; omega
  have c_59 : ∀ (nn : Nat) (mn : Int) (al : Int) (m : Int) (T1 : Zt), ((400 - m).toNat) ≤ nn → (fr_ [(297, [])] T T1) → (HE_ T c cl) → (0 ≤ c ∧ c < T 111 0 6) → (0 ≤ cl ∧ cl < T 111 0 12 ∧ T 209 0 c ≠ 0) → (T 210 0 c ≤ m ∧ m ≤ T 210 0 c + T 211 0 c ∧ 0 ≤ mn ∧ mn ≤ m - T 210 0 c ∧ ((mn = 0 ∧ al = 1) ∨ (mn = 1 ∧ al = 3) ∨ (mn = 2 ∧ al = 9) ∨ (mn = 3 ∧ al = 27) ∨ 3 < mn)) → (mn = (dl9_ (fun i => T 235 0 (T 210 0 c + i) = 0 ∨ T 235 0 (T 210 0 c + i) = 1) (m - T 210 0 c).toNat).1) → (∀ j, 0 ≤ j → j < mn → T1 297 0 j = T 210 0 c + (dl9_ (fun i => T 235 0 (T 210 0 c + i) = 0 ∨ T 235 0 (T 210 0 c + i) = 1) (m - T 210 0 c).toNat).2 j) → J_ zX11_firsts T (po_X11_firsts_f T c cl) 0 0 59 [some (vR 111 0), some (vI c), some (vI cl), some (vI mn), some (vI al), some (vI m), none, none, none] [] T1 := by
    intro nn
    induction nn using Nat.strongRecOn with
    | _ nn ih_59 =>
      intro mn al m T1 hm_59 hf_59 he cc cb i1 lf1 lo1
      replace hm_59 := fun (_ : Unit) => hm_59
      have hmc := hml c (by omega) (by omega)
      have hb_29 : 0 ≤ T 111 0 29 ∧ T 111 0 29 ≤ 400 := bd_f hT 111 29 tl_11_29 0
      have hfo : 0 ≤ T 210 0 c ∧ T 210 0 c ≤ 400 := bd_a hT 210 (by decide +kernel : ta_ 210 = some (1, some 4, 0, 400)) 0 (by omega)
      have hmo : 0 ≤ T 211 0 c ∧ T 211 0 c ≤ 400 := bd_a hT 211 (by decide +kernel : ta_ 211 = some (1, some 4, 0, 400)) 0 (by omega)
      refine j_blx (F := fX11) tb_X11 (nn_ _) bk_X11_firsts_f_59 bs_X11_firsts_f_59 hz (fun K hK => ?_)
      refine ix_i (by omega) ?_
      intro b15 b15b
      have e16 : T1 210 0 c = T 210 0 c := hf_59 210 0 c rfl
      rw [e16] at b15 b15b ⊢
      refine ix_i (by omega) ?_
      intro b17 b17b
      have e18 : T1 211 0 c = T 211 0 c := hf_59 211 0 c rfl
      rw [e18] at b17 b17b ⊢
      refine rg_i (by omega) ?_
      refine And.intro (fun c19 => ?_) (fun c19 => ?_)
      · refine hK 119 _ [] T1 ?_
        refine j_blx (F := fX11) tb_X11 (nn_ _) bk_X11_firsts_f_119 bs_X11_firsts_f_119 hz (fun K hK => ?_)
        refine And.intro (fun c20 => ?_) (fun c20 => ?_)
        · refine hK 126 _ [] T1 ?_
          refine j_blx (F := fX11) tb_X11 (nn_ _) bk_X11_firsts_f_126 bs_X11_firsts_f_126 hz (fun K hK => ?_)
          refine bd_i (by omega) ?_
          refine x_nm (fun U21 hU21 => ?_)
          have e22 := up_f hU21
          refine hK 137 [some (vR 111 0), some (vI c), some (vI cl), some (vI mn), some (vI al), some (vI 0), some (vI 0), none, none] [] U21 ?_
          have e23 : U21 111 0 80 = 1 := up_f hU21
          refine c_137 _ mn al 0 0 U21 (Nat.le_refl _) ?_ ?_ ?_ ?_ ?_ ?_ ?_ ?_ ?_
          · exact fr_u (fr_t (fr_0 _ _) (fr_s hf_59 rfl)) hU21 rfl
          · exact he
          · omega
          · omega
          · omega
          · exact up_f hU21
          · rw [show T 211 0 c = m - T 210 0 c by omega]
            exact lf1
          · intro j a b
            rw [show T 211 0 c = m - T 210 0 c by omega, up_k hU21 (by exact Nat.ne_of_beq_eq_false rfl) 0 j]
            exact lo1 j a b
          · exact cng_0
        · refine (show po_X11_firsts_f T c cl T1 (some (vI (-1))) from ?_)
          have e24 : T1 111 0 80 = T 111 0 80 := hf_59 111 0 80 rfl
          have l9 : 3 < (dl9_ (fun i => T 235 0 (T 210 0 c + i) = 0 ∨ T 235 0 (T 210 0 c + i) = 1) (T 211 0 c).toNat).1 := by
            rw [show T 211 0 c = m - T 210 0 c by omega, ← lf1]
            omega
          exact ⟨_, rfl, fr_t (fr_0 _ _) (fr_s hf_59 rfl), fun z => (hf_59 111 0 80 rfl).trans z, Or.inr (Or.inr ⟨by omega, by omega, he, Or.inl ⟨rfl, l9⟩⟩)⟩
      · refine hK 80 _ [vI m, vR 111 0] T1 ?_
        refine j_callV (y := yX11_isLeft) (Yc := zX11_isLeft) (rest := []) [vI m] (ct_X11_isLeft (T := T1) (by omega)) cl_X11_538 (qd_c (by decide +kernel)) (nn_ _) rfl (rf_of rfl) (Nat.le_of_ble_eq_true rfl) (Nat.le_of_ble_eq_true rfl) (Nat.le_of_ble_eq_true rfl) rfl ?_
        rintro _ _ ⟨rfl, x25, rfl, hx25⟩
        have e26 : T1 235 0 m = T 235 0 m := hf_59 235 0 m rfl
        show J_ zX11_firsts T (po_X11_firsts_f T c cl) 0 0 83 _ [vI x25] T1
        refine j_blx (F := fX11) tb_X11 (nn_ _) bk_X11_firsts_f_83 bs_X11_firsts_f_83 hz (fun K hK => ?_)
        refine And.intro (fun c27 => ?_) (fun c27 => ?_)
        · replace hx25 := hx25.resolve_left (fun z => absurd (c27.symm.trans z.1) (by decide))
          clear c27
          refine hK 113 _ [] T1 ?_
          refine j_blx (F := fX11) tb_X11 (nn_ _) bk_X11_firsts_f_113 bs_X11_firsts_f_113 hz (fun K hK => ?_)
          refine rg_i (by omega) ?_
          refine hK 59 [some (vR 111 0), some (vI c), some (vI cl), some (vI mn), some (vI al), some (vI (m + 1)), none, none, none] [] T1 ?_
          refine ih_59 _ ?_ mn al (m + 1) T1 (Nat.le_refl _) ?_ ?_ ?_ ?_ ?_ ?_ ?_
          · have hm_59 := hm_59 (); omega
          · exact fr_t (fr_0 _ _) (fr_s hf_59 rfl)
          · exact he
          · omega
          · omega
          · omega
          · have ek : T 210 0 c + (m - T 210 0 c) = m := by omega
            have g0 : ¬ (fun i => T 235 0 (T 210 0 c + i) = 0 ∨ T 235 0 (T 210 0 c + i) = 1) (m - T 210 0 c) := by
              show ¬ (T 235 0 (T 210 0 c + (m - T 210 0 c)) = 0 ∨ T 235 0 (T 210 0 c + (m - T 210 0 c)) = 1)
              rw [ek]
              omega
            rw [show m + 1 - T 210 0 c = m - T 210 0 c + 1 by omega]
            rw [dl_f (by omega) g0]
            exact lf1
          · have ek : T 210 0 c + (m - T 210 0 c) = m := by omega
            have g0 : ¬ (fun i => T 235 0 (T 210 0 c + i) = 0 ∨ T 235 0 (T 210 0 c + i) = 1) (m - T 210 0 c) := by
              show ¬ (T 235 0 (T 210 0 c + (m - T 210 0 c)) = 0 ∨ T 235 0 (T 210 0 c + (m - T 210 0 c)) = 1)
              rw [ek]
              omega
            rw [show m + 1 - T 210 0 c = m - T 210 0 c + 1 by omega]
            rw [dl_f (by omega) g0]
            exact lo1
        · replace hx25 := hx25.resolve_right (fun z => c27 z.1)
          clear c27
          refine iy_i (by omega) (by omega) ?_
          refine x_nm (fun U28 hU28 => ?_)
          have e29 := up_f hU28
          refine rg_i (by omega) ?_
          refine And.intro (fun c30 => ?_) (fun c30 => ?_)
          · refine hK 107 [some (vR 111 0), some (vI c), some (vI cl), some (vI (mn + 1)), some (vI al), some (vI m), none, none, none] [] U28 ?_
            refine j_blx (F := fX11) tb_X11 (nn_ _) bk_X11_firsts_f_107 bs_X11_firsts_f_107 hz (fun K hK => ?_)
            refine rg_i (by omega) ?_
            refine rg_i (by omega) ?_
            refine hK 59 [some (vR 111 0), some (vI c), some (vI cl), some (vI (mn + 1)), some (vI (3 * al)), some (vI (m + 1)), none, none, none] [] U28 ?_
            refine ih_59 _ ?_ (mn + 1) (3 * al) (m + 1) U28 (Nat.le_refl _) ?_ ?_ ?_ ?_ ?_ ?_ ?_
            · have hm_59 := hm_59 (); omega
            · exact fr_u (fr_t (fr_0 _ _) (fr_s hf_59 rfl)) hU28 rfl
            · exact he
            · omega
            · omega
            · omega
            · have ek : T 210 0 c + (m - T 210 0 c) = m := by omega
              have g0 : (fun i => T 235 0 (T 210 0 c + i) = 0 ∨ T 235 0 (T 210 0 c + i) = 1) (m - T 210 0 c) := by
                show T 235 0 (T 210 0 c + (m - T 210 0 c)) = 0 ∨ T 235 0 (T 210 0 c + (m - T 210 0 c)) = 1
                rw [ek]
                omega
              rw [show m + 1 - T 210 0 c = m - T 210 0 c + 1 by omega]
              rw [dl_t (by omega) g0]
              show mn + 1 = (dl9_ (fun i => T 235 0 (T 210 0 c + i) = 0 ∨ T 235 0 (T 210 0 c + i) = 1) (m - T 210 0 c).toNat).1 + 1
              rw [← lf1]
            · have ek : T 210 0 c + (m - T 210 0 c) = m := by omega
              have g0 : (fun i => T 235 0 (T 210 0 c + i) = 0 ∨ T 235 0 (T 210 0 c + i) = 1) (m - T 210 0 c) := by
                show T 235 0 (T 210 0 c + (m - T 210 0 c)) = 0 ∨ T 235 0 (T 210 0 c + (m - T 210 0 c)) = 1
                rw [ek]
                omega
              rw [show m + 1 - T 210 0 c = m - T 210 0 c + 1 by omega]
              intro j a b
              rw [dl_t (by omega) g0]
              show U28 297 0 j = T 210 0 c + fu_ (dl9_ (fun i => T 235 0 (T 210 0 c + i) = 0 ∨ T 235 0 (T 210 0 c + i) = 1) (m - T 210 0 c).toNat).2 (dl9_ (fun i => T 235 0 (T 210 0 c + i) = 0 ∨ T 235 0 (T 210 0 c + i) = 1) (m - T 210 0 c).toNat).1 (m - T 210 0 c) j
              by_cases z : j = mn
              · rw [z, up_f hU28, ← lf1, fu_s]
                exact ek.symm
              · rw [up_g hU28 (fun q => z q.2.2), fu_n (by rw [← lf1]; exact z)]
                exact lo1 j a (by omega)
          · refine hK 111 [some (vR 111 0), some (vI c), some (vI cl), some (vI (mn + 1)), some (vI al), some (vI m), none, none, none] [vI al] U28 ?_
            refine j_blx (F := fX11) tb_X11 (nn_ _) bk_X11_firsts_f_111 bs_X11_firsts_f_111 hz (fun K hK => ?_)
            refine rg_i (by omega) ?_
            refine hK 59 [some (vR 111 0), some (vI c), some (vI cl), some (vI (mn + 1)), some (vI al), some (vI (m + 1)), none, none, none] [] U28 ?_
            refine ih_59 _ ?_ (mn + 1) al (m + 1) U28 (Nat.le_refl _) ?_ ?_ ?_ ?_ ?_ ?_ ?_
            · have hm_59 := hm_59 (); omega
            · exact fr_u (fr_t (fr_0 _ _) (fr_s hf_59 rfl)) hU28 rfl
            · exact he
            · omega
            · omega
            · omega
            · have ek : T 210 0 c + (m - T 210 0 c) = m := by omega
              have g0 : (fun i => T 235 0 (T 210 0 c + i) = 0 ∨ T 235 0 (T 210 0 c + i) = 1) (m - T 210 0 c) := by
                show T 235 0 (T 210 0 c + (m - T 210 0 c)) = 0 ∨ T 235 0 (T 210 0 c + (m - T 210 0 c)) = 1
                rw [ek]
                omega
              rw [show m + 1 - T 210 0 c = m - T 210 0 c + 1 by omega]
              rw [dl_t (by omega) g0]
              show mn + 1 = (dl9_ (fun i => T 235 0 (T 210 0 c + i) = 0 ∨ T 235 0 (T 210 0 c + i) = 1) (m - T 210 0 c).toNat).1 + 1
              rw [← lf1]
            · have ek : T 210 0 c + (m - T 210 0 c) = m := by omega
              have g0 : (fun i => T 235 0 (T 210 0 c + i) = 0 ∨ T 235 0 (T 210 0 c + i) = 1) (m - T 210 0 c) := by
                show T 235 0 (T 210 0 c + (m - T 210 0 c)) = 0 ∨ T 235 0 (T 210 0 c + (m - T 210 0 c)) = 1
                rw [ek]
                omega
              rw [show m + 1 - T 210 0 c = m - T 210 0 c + 1 by omega]
              intro j a b
              rw [dl_t (by omega) g0]
              show U28 297 0 j = T 210 0 c + fu_ (dl9_ (fun i => T 235 0 (T 210 0 c + i) = 0 ∨ T 235 0 (T 210 0 c + i) = 1) (m - T 210 0 c).toNat).2 (dl9_ (fun i => T 235 0 (T 210 0 c + i) = 0 ∨ T 235 0 (T 210 0 c + i) = 1) (m - T 210 0 c).toNat).1 (m - T 210 0 c) j
              by_cases z : j = mn
              · rw [z, up_f hU28, ← lf1, fu_s]
                exact ek.symm
              · rw [up_g hU28 (fun q => z q.2.2), fu_n (by rw [← lf1]; exact z)]
                exact lo1 j a (by omega)
  refine j_blx (F := fX11) tb_X11 (nn_ _) bk_X11_firsts_f_0 bs_X11_firsts_f_0 hz (fun K hK => ?_)
  intro b31 b31b
  refine hK 5 _ [vI (T 111 0 6), vI c] T ?_
  refine j_callS (y := yX11_isOf) (Yc := zX11_isOf) (rest := []) [vI c, vI (T 111 0 6)] (ct_X11_isOf (T := T) (by omega)) cl_X11_317 (qd_c (by decide +kernel)) (nn_ _) rfl (rf_of rfl) (Nat.le_of_ble_eq_true rfl) (Nat.le_of_ble_eq_true rfl) (Nat.le_of_ble_eq_true rfl) rfl ?_
  rintro _ _ ⟨rfl, x32, rfl, hx32⟩
  show J_ zX11_firsts T (po_X11_firsts_f T c cl) 0 0 8 _ [vI x32] T
  refine j_blx (F := fX11) tb_X11 (nn_ _) bk_X11_firsts_f_8 bs_X11_firsts_f_8 hz (fun K hK => ?_)
  refine And.intro (fun c33 => ?_) (fun c33 => ?_)
  · replace hx32 := hx32.resolve_left (fun z => absurd (c33.symm.trans z.1) (by decide))
    clear c33
    refine hK 22 _ [] T ?_
    refine j_blx (F := fX11) tb_X11 (nn_ _) bk_X11_firsts_f_22 bs_X11_firsts_f_22 hz (fun K hK => ?_)
    refine (show po_X11_firsts_f T c cl T (some (vI (-2))) from ?_)
    exact ⟨_, rfl, fr_0 _ _, fun z => z, Or.inl ⟨rfl, by omega⟩⟩
  · replace hx32 := hx32.resolve_right (fun z => c33 z.1)
    clear c33
    intro b34 b34b
    refine hK 16 _ [vI (T 111 0 12), vI cl] T ?_
    refine j_callS (y := yX11_isOf) (Yc := zX11_isOf) (rest := []) [vI cl, vI (T 111 0 12)] (ct_X11_isOf (T := T) (by omega)) cl_X11_317 (qd_c (by decide +kernel)) (nn_ _) rfl (rf_of rfl) (Nat.le_of_ble_eq_true rfl) (Nat.le_of_ble_eq_true rfl) (Nat.le_of_ble_eq_true rfl) rfl ?_
    rintro _ _ ⟨rfl, x35, rfl, hx35⟩
    show J_ zX11_firsts T (po_X11_firsts_f T c cl) 0 0 19 _ [vI x35] T
    refine j_blx (F := fX11) tb_X11 (nn_ _) bk_X11_firsts_f_19 bs_X11_firsts_f_19 hz (fun K hK => ?_)
    refine And.intro (fun c36 => ?_) (fun c36 => ?_)
    · replace hx35 := hx35.resolve_right (fun z => c36 z.1)
      clear c36
      refine hK 25 _ [] T ?_
      refine j_blx (F := fX11) tb_X11 (nn_ _) bk_X11_firsts_f_25 bs_X11_firsts_f_25 hz (fun K hK => ?_)
      refine ix_i (by omega) ?_
      intro b37 b37b
      refine And.intro (fun c38 => ?_) (fun c38 => ?_)
      · refine hK 43 _ [] T ?_
        refine j_blx (F := fX11) tb_X11 (nn_ _) bk_X11_firsts_f_43 bs_X11_firsts_f_43 hz (fun K hK => ?_)
        refine (show po_X11_firsts_f T c cl T (some (vI (-4))) from ?_)
        have n9 : ¬ (T 209 0 c ≠ 0 ∧ HE_ T c cl) := fun z => by
          first
          | exact (hx1.resolve_left (fun y => absurd y.1 (by omega))).2 z.2
          | exact z.1 (by omega)
        exact ⟨_, rfl, fr_0 _ _, fun z => z, Or.inr (Or.inl ⟨rfl, by omega, n9⟩)⟩
      · refine hK 37 _ [vI cl, vI c, vR 111 0] T ?_
        refine j_callV (y := yX11_hasEntered) (Yc := zX11_hasEntered) (rest := []) [vI c, vI cl] (ct_X11_hasEntered (T := T) (by omega)) cl_X11_340 (qd_c (by decide +kernel)) (nn_ _) rfl (rf_of rfl) (Nat.le_of_ble_eq_true rfl) (Nat.le_of_ble_eq_true rfl) (Nat.le_of_ble_eq_true rfl) rfl ?_
        rintro _ _ ⟨rfl, x39, rfl, hx39⟩
        show J_ zX11_firsts T (po_X11_firsts_f T c cl) 0 0 40 _ [vI x39] T
        refine j_blx (F := fX11) tb_X11 (nn_ _) bk_X11_firsts_f_40 bs_X11_firsts_f_40 hz (fun K hK => ?_)
        refine And.intro (fun c40 => ?_) (fun c40 => ?_)
        · have he : HE_ T c cl := (hx39.resolve_right (fun z => absurd z.1 (by omega))).2
          refine hK 46 _ [] T ?_
          have hmc := hml c (by omega) (by omega)
          have hb_29 : 0 ≤ T 111 0 29 ∧ T 111 0 29 ≤ 400 := bd_f hT 111 29 tl_11_29 0
          have hfo : 0 ≤ T 210 0 c ∧ T 210 0 c ≤ 400 := bd_a hT 210 (by decide +kernel : ta_ 210 = some (1, some 4, 0, 400)) 0 (by omega)
          have hmo : 0 ≤ T 211 0 c ∧ T 211 0 c ≤ 400 := bd_a hT 211 (by decide +kernel : ta_ 211 = some (1, some 4, 0, 400)) 0 (by omega)
          refine j_blx (F := fX11) tb_X11 (nn_ _) bk_X11_firsts_f_46 bs_X11_firsts_f_46 hz (fun K hK => ?_)
          refine ix_i (by omega) ?_
          intro b41 b41b
          refine hK 59 [some (vR 111 0), some (vI c), some (vI cl), some (vI 0), some (vI 1), some (vI (T 210 0 c)), none, none, none] [] T ?_
          refine c_59 _ 0 1 (T 210 0 c) T (Nat.le_refl _) ?_ ?_ ?_ ?_ ?_ ?_ ?_
          · exact fr_0 _ _
          · exact he
          · omega
          · omega
          · omega
          · rw [show T 210 0 c - T 210 0 c = 0 by omega]
            exact rfl
          · intro j a b; omega
        · refine (show po_X11_firsts_f T c cl T (some (vI (-4))) from ?_)
          have n9 : ¬ (T 209 0 c ≠ 0 ∧ HE_ T c cl) := fun z => by
            first
            | exact (hx39.resolve_left (fun y => absurd y.1 (by omega))).2 z.2
            | exact z.1 (by omega)
          exact ⟨_, rfl, fr_0 _ _, fun z => z, Or.inr (Or.inl ⟨rfl, by omega, n9⟩)⟩
    · replace hx35 := hx35.resolve_left (fun z => absurd (c36.symm.trans z.1) (by decide))
      clear c36
      refine (show po_X11_firsts_f T c cl T (some (vI (-2))) from ?_)
      exact ⟨_, rfl, fr_0 _ _, fun z => z, Or.inl ⟨rfl, by omega⟩⟩
-- firsts: both sides alike
theorem gh_e {ru : Int → Int} {v v' : Mv_} {g x i k : Int} (h : v k 0 = v' k 0 ∧ (v k 0 = 1 → v k 1 = v' k 1 ∧ v k 2 = v' k 2 ∧ v k 3 = v' k 3 ∧ v k 4 = v' k 4 ∧ v k 5 = v' k 5 ∧ v k 6 = v' k 6)) : gh9_ ru v g x i k = gh9_ ru v' g x i k := by
  unfold gh9_
  by_cases z : v k 0 = 1
  · obtain ⟨e1, e2, e3, e4, -, -⟩ := h.2 z
    rw [h.1, e1, e2, e3, e4]
  · rw [cz_f (fun q => z q.1), cz_f (fun q => z (h.1.trans q.1))]
theorem gn_ev {ru : Int → Int} {v v' : Mv_} {g x i : Int} : ∀ n : Nat, VE_ (n : Int) v v' → gn9_ ru v g x i n = gn9_ ru v' g x i n
  | 0, _ => rfl
  | n + 1, h => by
    have ih := gn_ev (ru := ru) (g := g) (x := x) (i := i) n (fun k a b => h k a (by omega))
    have d := gh_e (ru := ru) (g := g) (x := x) (i := i) (h (n : Int) (by omega) (by omega))
    show gn9_ ru v g x i n + gh9_ ru v g x i (n : Int) = gn9_ ru v' g x i n + gh9_ ru v' g x i (n : Int)
    rw [ih, d]
/-- the worths hang on rules, views and deductions alone -/
theorem wwp_e {T U : Zt} {c d : Int} (er : ∀ w, U 205 0 (23 * c + w) = T 205 0 (23 * c + w)) (en : U 211 0 c = T 211 0 c) (hn : 0 ≤ T 211 0 c) (ed : ∀ x, dd9_ U c d x (U 111 0 24).toNat = dd9_ T c d x (T 111 0 24).toNat) (ve : VE_ (T 211 0 c) (fun k => vR_ U d (U 210 0 c + k)) (fun k => vR_ T d (T 210 0 c + k))) : WWp_ U c d = WWp_ T c d := by
  have e1 : (fun w => U 205 0 (23 * c + w)) = (fun w => T 205 0 (23 * c + w)) := funext er
  have ve2 : VE_ (((T 211 0 c).toNat : Nat) : Int) (fun k => vR_ U d (U 210 0 c + k)) (fun k => vR_ T d (T 210 0 c + k)) := by
    rw [show (((T 211 0 c).toNat : Nat) : Int) = T 211 0 c by omega]
    exact ve
  have eL : lm_ (fun x w => tn9_ (fun w => T 205 0 (23 * c + w)) (fun k => vR_ U d (U 210 0 c + k)) x w (T 211 0 c).toNat - cz_ (w = 6) (dd9_ U c d x (U 111 0 24).toNat) 0) = lm_ (fun x w => tn9_ (fun w => T 205 0 (23 * c + w)) (fun k => vR_ T d (T 210 0 c + k)) x w (T 211 0 c).toNat - cz_ (w = 6) (dd9_ T c d x (T 111 0 24).toNat) 0) := lm_e (fun x w _ _ _ _ => by
    show tn9_ (fun w => T 205 0 (23 * c + w)) (fun k => vR_ U d (U 210 0 c + k)) x w (T 211 0 c).toNat - cz_ (w = 6) (dd9_ U c d x (U 111 0 24).toNat) 0 = tn9_ (fun w => T 205 0 (23 * c + w)) (fun k => vR_ T d (T 210 0 c + k)) x w (T 211 0 c).toNat - cz_ (w = 6) (dd9_ T c d x (T 111 0 24).toNat) 0
    rw [tn_e _ ve2, ed])
  have eG : (fun g x i => gn9_ (fun w => T 205 0 (23 * c + w)) (fun k => vR_ U d (U 210 0 c + k)) g x i (T 211 0 c).toNat) = (fun g x i => gn9_ (fun w => T 205 0 (23 * c + w)) (fun k => vR_ T d (T 210 0 c + k)) g x i (T 211 0 c).toNat) := funext (fun g => funext (fun x => funext (fun i => gn_ev _ ve2)))
  unfold WWp_
  rw [e1, en, eL, eG]
-- a picture that supposes
def dg3_ (O : Int → Int) (r j : Int) : Nat → Int
  | 0 => 0
  | n + 1 => if O (n : Int) = j then rs3_ r n % 3 else dg3_ O r j n
theorem dg3_u {O : Int → Int} {r u : Int} : ∀ n : Nat, (∀ i k : Int, 0 ≤ i → i < k → k < (n : Int) → O i < O k) → 0 ≤ u → u < (n : Int) → dg3_ O r (O u) n = rs3_ r u.toNat % 3
  | 0, _, _, h => by omega
  | n + 1, h, a, b => by
    by_cases z : u = (n : Int)
    · have e : dg3_ O r (O u) (n + 1) = rs3_ r n % 3 := if_pos (congrArg O z.symm)
      rw [e, show u.toNat = n by omega]
    · have y := h u (n : Int) a (by omega) (by omega)
      have e : dg3_ O r (O u) (n + 1) = dg3_ O r (O u) n := if_neg (fun q => by omega)
      rw [e]
      exact dg3_u n (fun i k i0 ik k1 => h i k i0 ik (by omega)) a (by omega)
def SPz_ (T : Zt) (O : Int → Int) (n r : Int) : Zt := fun k i j => if k = 281 then dg3_ O r j n.toNat else if k = 111 ∧ j = 80 then 1 else T k i j
theorem spz_k {T : Zt} {O : Int → Int} {n r : Int} {k : Nat} {i j : Int} (h : k ≠ 281) (g : k ≠ 111) : SPz_ T O n r k i j = T k i j := by
  unfold SPz_
  rw [if_neg h, if_neg (fun q => g q.1)]
theorem spz_f {T : Zt} {O : Int → Int} {n r i j : Int} (g : j ≠ 80) : SPz_ T O n r 111 i j = T 111 i j := by
  unfold SPz_
  rw [if_neg (by decide), if_neg (fun q => g q.2)]
theorem spz_1 {T : Zt} {O : Int → Int} {n r : Int} : SPz_ T O n r 111 0 80 = 1 := by
  unfold SPz_
  rw [if_neg (by decide), if_pos ⟨rfl, rfl⟩]
theorem spz_d {T : Zt} {O : Int → Int} {n r j : Int} : SPz_ T O n r 281 0 j = dg3_ O r j n.toNat := by
  unfold SPz_
  rw [if_pos rfl]
theorem spz_c {T : Zt} {O : Int → Int} {n r sh : Int} (k : Nat) : fr9c_ (SPz_ T O n r) sh k = fr9c_ T sh k := frc_k (fun _ => spz_k (by decide) (by decide)) (fun _ => spz_k (by decide) (by decide)) k
theorem spz_v {T : Zt} {O : Int → Int} {n r d m : Int} :
    vR_ (SPz_ T O n r) d m 0 = cz_ (((T 235 0 m = 2 ∨ T 235 0 m = 3) ∧ T 234 0 m ≤ d) ∨ ¬ (T 235 0 m = 2 ∨ T 235 0 m = 3)) 1 0 ∧ vR_ (SPz_ T O n r) d m 1 = T 232 0 m ∧ vR_ (SPz_ T O n r) d m 2 = T 233 0 m ∧
    vR_ (SPz_ T O n r) d m 3 = cz_ (T 235 0 m = 2 ∨ T 235 0 m = 3) (T 236 0 m) (cz_ (dg3_ O r m n.toNat = 0) 1 0) ∧ vR_ (SPz_ T O n r) d m 4 = cz_ (T 235 0 m = 2 ∨ T 235 0 m = 3) (T 237 0 m) (cz_ (dg3_ O r m n.toNat = 2) 1 0) ∧
    vR_ (SPz_ T O n r) d m 5 = cz_ (T 235 0 m = 2) (fr9c_ T (2 * m) (T 239 0 (2 * m)).toNat) 0 ∧ vR_ (SPz_ T O n r) d m 6 = cz_ (T 235 0 m = 2) (fr9c_ T (2 * m + 1) (T 239 0 (2 * m + 1)).toNat) 0 := by
  have e35 : SPz_ T O n r 235 0 m = T 235 0 m := spz_k (by decide) (by decide)
  have e34 : SPz_ T O n r 234 0 m = T 234 0 m := spz_k (by decide) (by decide)
  have e36 : SPz_ T O n r 236 0 m = T 236 0 m := spz_k (by decide) (by decide)
  have e37 : SPz_ T O n r 237 0 m = T 237 0 m := spz_k (by decide) (by decide)
  have e39 : ∀ j, SPz_ T O n r 239 0 j = T 239 0 j := fun j => spz_k (by decide) (by decide)
  refine ⟨?_, vr_1.trans (spz_k (by decide) (by decide)), vr_2.trans (spz_k (by decide) (by decide)), ?_, ?_, ?_, ?_⟩
  · rw [vr_0, e35, e34, spz_1]
    exact cz_g ⟨fun q => q.elim Or.inl (fun z => Or.inr z.1), fun q => q.elim Or.inl (fun z => Or.inr ⟨z, by decide⟩)⟩
  · rw [vr_3, e35, e36, spz_d]
  · rw [vr_4, e35, e37, spz_d]
  · rw [vr_5, e35, e39, spz_c]
  · rw [vr_6, e35, e39, spz_c]
theorem one_b (P : Prop) : 0 ≤ cz_ P (1 : Int) 0 ∧ cz_ P (1 : Int) 0 ≤ 1 := by
  by_cases y : P
  · rw [cz_t y]; decide
  · rw [cz_f y]; decide
theorem bv_s {T : Zt} {O : Int → Int} {n r d m : Int} (hT : ok_T T) (hgx : GX_ T (-1)) (hyb : YB_ T) (hm : 0 ≤ m ∧ m < 400) : 0 ≤ 4 * T 254 0 m + 9 ∧ (vR_ (SPz_ T O n r) d m 0 = 1 → (0 ≤ vR_ (SPz_ T O n r) d m 3 ∧ vR_ (SPz_ T O n r) d m 3 ≤ 4 * T 254 0 m + 9) ∧ (0 ≤ vR_ (SPz_ T O n r) d m 4 ∧ vR_ (SPz_ T O n r) d m 4 ≤ 4 * T 254 0 m + 9) ∧ (0 ≤ vR_ (SPz_ T O n r) d m 5 ∧ vR_ (SPz_ T O n r) d m 5 ≤ 31000) ∧ (0 ≤ vR_ (SPz_ T O n r) d m 6 ∧ vR_ (SPz_ T O n r) d m 6 ≤ 31000)) := by
  have g := hgx m hm.1 hm.2 (by omega)
  have rb := bd_a hT 254 (by decide +kernel : ta_ 254 = some (1, some 400, 0, 3000)) 0 (x := m) hm.1
  have vs := spz_v (T := T) (O := O) (n := n) (r := r) (d := d) (m := m)
  refine ⟨by omega, fun _ => ?_⟩
  rw [vs.2.2.2.1, vs.2.2.2.2.1, vs.2.2.2.2.2.1, vs.2.2.2.2.2.2]
  have s0 := bd_a hT 239 (by decide +kernel : ta_ 239 = some (1, some 800, 0, 10)) 0 (x := 2 * m) (by omega)
  have s1 := bd_a hT 239 (by decide +kernel : ta_ 239 = some (1, some 800, 0, 10)) 0 (x := 2 * m + 1) (by omega)
  have f0 := frc_b hyb (sh := 2 * m) (by omega) (T 239 0 (2 * m)).toNat (by omega)
  have f1 := frc_b hyb (sh := 2 * m + 1) (by omega) (T 239 0 (2 * m + 1)).toNat (by omega)
  have g1 := g.1
  have g2 := g.2.1
  have o1 := one_b (dg3_ O r m n.toNat = 0)
  have o2 := one_b (dg3_ O r m n.toNat = 2)
  clear vs
  refine ⟨?_, ?_, ?_, ?_⟩
  · by_cases y : T 235 0 m = 2 ∨ T 235 0 m = 3
    · rw [cz_t y]; exact g1
    · rw [cz_f y]; omega
  · by_cases y : T 235 0 m = 2 ∨ T 235 0 m = 3
    · rw [cz_t y]; exact g2
    · rw [cz_f y]; omega
  · by_cases y : T 235 0 m = 2
    · rw [cz_t y]; omega
    · rw [cz_f y]; omega
  · by_cases y : T 235 0 m = 2
    · rw [cz_t y]; omega
    · rw [cz_f y]; omega
/-- the list of what is left, on the house's side -/
noncomputable def Lh9_ (T : Zt) (c : Int) : Int × (Int → Int) := dl9_ (fun i => vH_ T 999 (T 100 c 7 + i) 0 ≠ 1) (T 100 c 8).toNat
theorem lh_d {T : Zt} {c i : Int} (hda : T 102 (T 100 c 7 + i) 5 ≤ 999) (pm : PM_ T (T 100 c 7 + i)) : vH_ T 999 (T 100 c 7 + i) 0 ≠ 1 ↔ ¬ (T 235 0 (T 100 c 7 + i) = 2 ∨ T 235 0 (T 100 c 7 + i) = 3) := by
  rw [← dc_e pm]
  refine ⟨fun q z => q (vh_c1 ⟨z, hda⟩), fun q => vh_c0 (fun z => q z.1)⟩
/-- the worths when row r is supposed -/
noncomputable def WWs_ (T : Zt) (c r : Int) : Int → Int → Int → Int := WWp_ (SPz_ T (fun j => T 100 c 7 + (Lh9_ T c).2 j) (Lh9_ T c).1 r) c 999
/-- the list holds such as are left, in order -/
theorem lh_a {T : Zt} {c : Int} : (∀ j, 0 ≤ j → j < (Lh9_ T c).1 → vH_ T 999 (T 100 c 7 + (Lh9_ T c).2 j) 0 ≠ 1) ∧ (∀ i j, 0 ≤ i → i < j → j < (Lh9_ T c).1 → (Lh9_ T c).2 i < (Lh9_ T c).2 j) ∧ (∀ i, 0 ≤ i → i < T 100 c 8 → vH_ T 999 (T 100 c 7 + i) 0 ≠ 1 → ∃ j, 0 ≤ j ∧ j < (Lh9_ T c).1 ∧ (Lh9_ T c).2 j = i) := by
  have a := dl_a (D := fun i => vH_ T 999 (T 100 c 7 + i) 0 ≠ 1) (T 100 c 8).toNat
  exact ⟨a.1, a.2.1, fun i p q z => a.2.2 i p (by omega) z⟩
/-- what is played or supposed is seen alike on both sides -/
theorem ve_s {T : Zt} {c r : Int} (hT : ok_T T) (hc : 0 ≤ c ∧ c < T 106 0 2) (h8 : EN1_ T c) (hma : MAR_ T) (hda : DAR_ T) (hpl : PLR_ T) (su : T 111 0 80 = 0) (hkc : KC_ T) : VE_ (T 100 c 8) (vsj_ T (T 100 c 7) (fun k => vH_ T 999 (T 100 c 7 + k)) (fun j => T 100 c 7 + (Lh9_ T c).2 j) r (Lh9_ T c).1.toNat) (fun k => vR_ (SPz_ T (fun j => T 100 c 7 + (Lh9_ T c).2 j) (Lh9_ T c).1 r) 999 (T 210 0 c + k)) := by
  intro k k0 k1
  have e7 : T 210 0 c = T 100 c 7 := h8.2.2.1.symm
  have hf : 0 ≤ T 100 c 7 ∧ T 100 c 7 ≤ 400 := bd_f hT 100 7 tl_0_7 c
  have h4 : 0 ≤ T 106 0 4 ∧ T 106 0 4 ≤ 400 := bd_f hT 106 4 tl_6_4 0
  have kc := hkc c hc.1 hc.2
  have p := hpl.1 (T 100 c 7 + k) (by omega) (by omega)
  have q := hma.2 (T 100 c 7 + k) (by omega) (by omega)
  have da := hda (T 100 c 7 + k) (by omega) (by omega)
  have b5 : 0 ≤ T 102 (T 100 c 7 + k) 5 ∧ T 102 (T 100 c 7 + k) 5 ≤ 999 := bd_f hT 102 5 tl_2_5 _
  have la := lh_a (T := T) (c := c)
  have ld := lh_d (T := T) (c := c) (i := k) b5.2 p.2
  have vs := spz_v (T := T) (O := fun j => T 100 c 7 + (Lh9_ T c).2 j) (n := (Lh9_ T c).1) (r := r) (d := 999) (m := T 100 c 7 + k)
  show vsj_ T (T 100 c 7) (fun k => vH_ T 999 (T 100 c 7 + k)) (fun j => T 100 c 7 + (Lh9_ T c).2 j) r (Lh9_ T c).1.toNat k 0 = vR_ (SPz_ T (fun j => T 100 c 7 + (Lh9_ T c).2 j) (Lh9_ T c).1 r) 999 (T 210 0 c + k) 0 ∧ (vsj_ T (T 100 c 7) (fun k => vH_ T 999 (T 100 c 7 + k)) (fun j => T 100 c 7 + (Lh9_ T c).2 j) r (Lh9_ T c).1.toNat k 0 = 1 → vsj_ T (T 100 c 7) (fun k => vH_ T 999 (T 100 c 7 + k)) (fun j => T 100 c 7 + (Lh9_ T c).2 j) r (Lh9_ T c).1.toNat k 1 = vR_ (SPz_ T (fun j => T 100 c 7 + (Lh9_ T c).2 j) (Lh9_ T c).1 r) 999 (T 210 0 c + k) 1 ∧ vsj_ T (T 100 c 7) (fun k => vH_ T 999 (T 100 c 7 + k)) (fun j => T 100 c 7 + (Lh9_ T c).2 j) r (Lh9_ T c).1.toNat k 2 = vR_ (SPz_ T (fun j => T 100 c 7 + (Lh9_ T c).2 j) (Lh9_ T c).1 r) 999 (T 210 0 c + k) 2 ∧ vsj_ T (T 100 c 7) (fun k => vH_ T 999 (T 100 c 7 + k)) (fun j => T 100 c 7 + (Lh9_ T c).2 j) r (Lh9_ T c).1.toNat k 3 = vR_ (SPz_ T (fun j => T 100 c 7 + (Lh9_ T c).2 j) (Lh9_ T c).1 r) 999 (T 210 0 c + k) 3 ∧ vsj_ T (T 100 c 7) (fun k => vH_ T 999 (T 100 c 7 + k)) (fun j => T 100 c 7 + (Lh9_ T c).2 j) r (Lh9_ T c).1.toNat k 4 = vR_ (SPz_ T (fun j => T 100 c 7 + (Lh9_ T c).2 j) (Lh9_ T c).1 r) 999 (T 210 0 c + k) 4 ∧ vsj_ T (T 100 c 7) (fun k => vH_ T 999 (T 100 c 7 + k)) (fun j => T 100 c 7 + (Lh9_ T c).2 j) r (Lh9_ T c).1.toNat k 5 = vR_ (SPz_ T (fun j => T 100 c 7 + (Lh9_ T c).2 j) (Lh9_ T c).1 r) 999 (T 210 0 c + k) 5 ∧ vsj_ T (T 100 c 7) (fun k => vH_ T 999 (T 100 c 7 + k)) (fun j => T 100 c 7 + (Lh9_ T c).2 j) r (Lh9_ T c).1.toNat k 6 = vR_ (SPz_ T (fun j => T 100 c 7 + (Lh9_ T c).2 j) (Lh9_ T c).1 r) 999 (T 210 0 c + k) 6)
  rw [e7, vs.1, vs.2.1, vs.2.2.1, vs.2.2.2.1, vs.2.2.2.2.1, vs.2.2.2.2.2.1, vs.2.2.2.2.2.2]
  by_cases D : vH_ T 999 (T 100 c 7 + k) 0 ≠ 1
  · -- it is left, and supposed
    obtain ⟨j, j0, j1, j2⟩ := la.2.2 k k0 k1 D
    have nd := ld.1 D
    have o9 : ∀ i k : Int, 0 ≤ i → i < k → k < (((Lh9_ T c).1.toNat : Nat) : Int) → (fun j => T 100 c 7 + (Lh9_ T c).2 j) i < (fun j => T 100 c 7 + (Lh9_ T c).2 j) k := fun i k i0 ik k1 => by
      have y := la.2.1 i k i0 ik (by omega)
      show T 100 c 7 + (Lh9_ T c).2 i < T 100 c 7 + (Lh9_ T c).2 k
      omega
    have vj := vsj_i (T := T) (f := T 100 c 7) (a := r) (v := fun k => vH_ T 999 (T 100 c 7 + k)) (O := fun j => T 100 c 7 + (Lh9_ T c).2 j) (j := j) (Lh9_ T c).1.toNat o9 j0 (by omega)
    have eo : (fun j => T 100 c 7 + (Lh9_ T c).2 j) j - T 100 c 7 = k := by
      show T 100 c 7 + (Lh9_ T c).2 j - T 100 c 7 = k
      omega
    have em : T 100 c 7 + (Lh9_ T c).2 j = T 100 c 7 + k := by omega
    rw [eo, em] at vj
    have dg := dg3_u (O := fun j => T 100 c 7 + (Lh9_ T c).2 j) (r := r) (u := j) (Lh9_ T c).1.toNat o9 j0 (by omega)
    rw [em] at dg
    rw [vj.1, vj.2.1, vj.2.2.1, vj.2.2.2.1, vj.2.2.2.2.1, vj.2.2.2.2.2.1, vj.2.2.2.2.2.2, dg, cz_t (Or.inr nd), cz_f nd, cz_f nd, cz_f (fun z => nd (Or.inl z)), cz_f (fun z => nd (Or.inl z))]
    refine ⟨rfl, fun _ => ⟨q.2.2.1, q.2.2.2, ?_, ?_, rfl, rfl⟩⟩
    · unfold sa3_
      by_cases y : rs3_ r j.toNat % 3 = 0
      · rw [if_pos y, cz_t y]
      · rw [if_neg y, cz_f y]
    · unfold sb3_
      by_cases y : rs3_ r j.toNat % 3 = 2
      · rw [if_pos y, cz_t y]
      · rw [if_neg y, cz_f y]
  · -- it is decided
    have dd : T 235 0 (T 100 c 7 + k) = 2 ∨ T 235 0 (T 100 c 7 + k) = 3 := Classical.byContradiction (fun z => D (ld.2 z))
    have ev : ∀ i, vsj_ T (T 100 c 7) (fun k => vH_ T 999 (T 100 c 7 + k)) (fun j => T 100 c 7 + (Lh9_ T c).2 j) r (Lh9_ T c).1.toNat k i = vH_ T 999 (T 100 c 7 + k) i := fun i => vsj_o _ (fun j j0 j1 z => by
      have z2 : T 100 c 7 + (Lh9_ T c).2 j - T 100 c 7 = k := z
      have y := la.1 j j0 (by omega)
      rw [show (Lh9_ T c).2 j = k by omega] at y
      exact D y)
    have w := vw_e (d := 999) p.1 p.2 da ⟨q.2.2.1, q.2.2.2⟩ su
    have v0 : vH_ T 999 (T 100 c 7 + k) 0 = 1 := Classical.byContradiction (fun z => D z)
    have w2 := w.2 v0
    rw [vr_1, vr_2, vr_3, vr_4, vr_5, vr_6, cz_t dd, cz_t dd] at w2
    rw [ev, ev, ev, ev, ev, ev, ev, cz_t (Or.inl ⟨dd, by omega⟩), cz_t dd, cz_t dd]
    exact ⟨v0, fun _ => w2⟩
/-- what the tables hang on, when row r is supposed -/
theorem tqz_s {T : Zt} {c n r : Int} {O : Int → Int} (hT : ok_T T) (tq : TQ_ T c 999) (hma : MAR_ T) (hgx : GX_ T (-1)) (hrx : RX_ T []) (hyb : YB_ T) (hks : KS_ T) (hkc : KC_ T) (hc : 0 ≤ c ∧ c < T 106 0 2) : TQz_ (SPz_ T O n r) c 999 := by
  obtain ⟨-, -, h4, h6, ⟨h8, h9, h10⟩, h11⟩ := tq
  have e7 : T 210 0 c = T 100 c 7 := h8.2.2.1.symm
  have hn : 0 ≤ T 100 c 8 ∧ T 100 c 8 ≤ 400 := bd_f hT 100 8 tl_0_8 c
  have hf : 0 ≤ T 100 c 7 ∧ T 100 c 7 ≤ 400 := bd_f hT 100 7 tl_0_7 c
  have h4b : 0 ≤ T 106 0 4 ∧ T 106 0 4 ≤ 400 := bd_f hT 106 4 tl_6_4 0
  have h47 : 0 ≤ T 111 0 47 ∧ T 111 0 47 ≤ 3000 := bd_f hT 111 47 tl_11_47 0
  have kc := hkc c hc.1 hc.2
  have E : ∀ (k : Nat) (i j : Int), k ≠ 281 → k ≠ 111 → SPz_ T O n r k i j = T k i j := fun k i j a b => spz_k a b
  have x100 : ∀ j, SPz_ T O n r 100 c j = T 100 c j := fun j => E 100 c j (by decide) (by decide)
  have x210 : SPz_ T O n r 210 0 c = T 100 c 7 := (E 210 0 c (by decide) (by decide)).trans e7
  have x254 : ∀ j, SPz_ T O n r 254 0 j = T 254 0 j := fun j => E 254 0 j (by decide) (by decide)
  have x401 : ∀ j, SPz_ T O n r 401 c j = T 401 c j := fun j => E 401 c j (by decide) (by decide)
  have x402 : ∀ j, SPz_ T O n r 402 c j = T 402 c j := fun j => E 402 c j (by decide) (by decide)
  have x403 : ∀ j, SPz_ T O n r 403 c j = T 403 c j := fun j => E 403 c j (by decide) (by decide)
  have x404 : ∀ j, SPz_ T O n r 404 c j = T 404 c j := fun j => E 404 c j (by decide) (by decide)
  have x205 : ∀ j, SPz_ T O n r 205 0 j = T 205 0 j := fun j => E 205 0 j (by decide) (by decide)
  have x207 : ∀ j, SPz_ T O n r 207 0 j = T 207 0 j := fun j => E 207 0 j (by decide) (by decide)
  have x208 : ∀ j, SPz_ T O n r 208 0 j = T 208 0 j := fun j => E 208 0 j (by decide) (by decide)
  have x209 : ∀ j, SPz_ T O n r 209 0 j = T 209 0 j := fun j => E 209 0 j (by decide) (by decide)
  have x211 : ∀ j, SPz_ T O n r 211 0 j = T 211 0 j := fun j => E 211 0 j (by decide) (by decide)
  have x21 : ∀ j, SPz_ T O n r 210 0 j = T 210 0 j := fun j => E 210 0 j (by decide) (by decide)
  have xd : ∀ x k, dd9_ (SPz_ T O n r) c 999 x k = dd9_ T c 999 x k := fun x k => dd_k (fun k9 j q9 => by rcases q9 with rfl | rfl | rfl | rfl <;> exact spz_k (by decide) (by decide)) k
  have xh : ∀ x k, dh9_ (SPz_ T O n r) c 999 x k = dh9_ T c 999 x k := fun x k => dh_k (fun k9 j q9 => by rcases q9 with rfl | rfl | rfl | rfl <;> exact spz_k (by decide) (by decide)) k
  refine ⟨⟨fun k a b => ?_, ?_⟩, ⟨fun w a b => ?_, fun k a b e => ?_⟩, ?_, ⟨?_, sk_t (x100 5) x403 x404 h9, ⟨?_, fun k a b z i hi => ?_⟩⟩, fun x => ?_⟩
  · rw [x100] at b
    show 0 ≤ 4 * SPz_ T O n r 254 0 (SPz_ T O n r 210 0 c + k) + 9 ∧ _
    rw [x210, x254]
    exact bv_s hT hgx hyb (by omega)
  · rw [x210, x100, show (fun k => 4 * SPz_ T O n r 254 0 (T 100 c 7 + k) + 9) = (fun k => 4 * T 254 0 (T 100 c 7 + k) + 9) from funext (fun k => by rw [x254]), bsm_l (b := fun k => T 254 0 (T 100 c 7 + k))]
    have y := rx_s (T := T) (f := T 100 c 7) (n := (T 100 c 8).toNat) hrx hf.1 (by have := hma.1; omega) h47.1
    omega
  · rw [x401, x205]
    exact h4.1 w a b
  · rw [x401] at e
    rw [x402, x205]
    exact h4.2 k a b e
  · rw [x401, x401, x401, x401]
    exact h6
  · unfold EN1_ at h8 ⊢
    rw [x100, x100, x100, x100, x208, x209, x21, x211]
    refine ⟨h8.1, h8.2.1, h8.2.2.1, h8.2.2.2.1, fun j a b => ?_, fun b a d => ?_⟩
    · rw [x403, x207]
      exact h8.2.2.2.2.1 j a b
    · rw [x404, x403]
      exact h8.2.2.2.2.2 b a d
  · intro s t s0 s1 t0 t1 e
    rw [x100] at s1 t1
    have e' : SPz_ T O n r 403 c s = SPz_ T O n r 403 c t := e
    rw [x403, x403] at e'
    exact h10.1 s t s0 s1 t0 t1 e'
  · rw [x100] at b
    have vs := spz_v (T := T) (O := O) (n := n) (r := r) (d := 999) (m := T 100 c 7 + k)
    have q := hma.2 (T 100 c 7 + k) (by omega) (by omega)
    have s := hks c hc.1 hc.2 (T 100 c 7 + k) (by omega) (by omega)
    have b3 : 0 ≤ T 102 (T 100 c 7 + k) 3 ∧ T 102 (T 100 c 7 + k) 3 ≤ 11 := bd_f hT 102 3 tl_2_3 _
    have b4 : 0 ≤ T 102 (T 100 c 7 + k) 4 ∧ T 102 (T 100 c 7 + k) 4 ≤ 11 := bd_f hT 102 4 tl_2_4 _
    rcases hi with rfl | rfl
    · show ∃ s, 0 ≤ s ∧ s < SPz_ T O n r 100 c 5 ∧ SPz_ T O n r 403 c s = vR_ (SPz_ T O n r) 999 (SPz_ T O n r 210 0 c + k) 1
      rw [x210, vs.2.1, ← q.2.2.1, x100]
      have y := (h9.2 (T 102 (T 100 c 7 + k) 3) (by omega) (by omega)).resolve_left (by omega)
      exact ⟨_, y.1, y.2.1, (x403 _).trans y.2.2⟩
    · show ∃ s, 0 ≤ s ∧ s < SPz_ T O n r 100 c 5 ∧ SPz_ T O n r 403 c s = vR_ (SPz_ T O n r) 999 (SPz_ T O n r 210 0 c + k) 2
      rw [x210, vs.2.2.1, ← q.2.2.2, x100]
      have y := (h9.2 (T 102 (T 100 c 7 + k) 4) (by omega) (by omega)).resolve_left (by omega)
      exact ⟨_, y.1, y.2.1, (x403 _).trans y.2.2⟩
  · rw [xd, xh, spz_f (by decide), E 106 0 6 (by decide) (by decide)]
    exact h11 x
/-- the house's worths, whatever row is supposed -/
theorem hww_s {T : Zt} (hT : ok_T T) (tq : ∀ c, 0 ≤ c → c < T 106 0 2 → TQ_ T c 999) (hen : ENR_ T) (hma : MAR_ T) (hda : DAR_ T) (hpl : PLR_ T) (su : T 111 0 80 = 0) (hgx : GX_ T (-1)) (hrx : RX_ T []) (hyb : YB_ T) (hks : KS_ T) (hkc : KC_ T) : ∀ c, 0 ≤ c → c < T 106 0 2 → ∀ r, 0 ≤ r → ∀ U, U 100 c 5 = T 100 c 5 → (∀ j, U 401 c j = T 401 c j) → (∀ j, U 402 c j = T 402 c j) → (∀ j, U 403 c j = T 403 c j) → ok_T U → HFv_ T U c 999 (vsj_ T (T 100 c 7) (fun k => vH_ T 999 (T 100 c 7 + k)) (fun j => T 100 c 7 + (dl9_ (fun i => vH_ T 999 (T 100 c 7 + i) 0 ≠ 1) (T 100 c 8).toNat).2 j) r (dl9_ (fun i => vH_ T 999 (T 100 c 7 + i) 0 ≠ 1) (T 100 c 8).toNat).1.toNat) → HB9_ U c ∧ HWW_ U c (WWs_ T c r) := fun c c0 c1 r r0 U f5 f1 f2 f3 hU hf => by
  have E : ∀ (k : Nat) (i j : Int), k ≠ 281 → k ≠ 111 → SPz_ T (fun j => T 100 c 7 + (Lh9_ T c).2 j) (Lh9_ T c).1 r k i j = T k i j := fun k i j a b => spz_k a b
  have x8 := E 100 c 8 (by decide) (by decide)
  have x5 := E 100 c 5 (by decide) (by decide)
  have ve : VE_ (SPz_ T (fun j => T 100 c 7 + (Lh9_ T c).2 j) (Lh9_ T c).1 r 100 c 8) (vsj_ T (T 100 c 7) (fun k => vH_ T 999 (T 100 c 7 + k)) (fun j => T 100 c 7 + (Lh9_ T c).2 j) r (Lh9_ T c).1.toNat) (fun k => vR_ (SPz_ T (fun j => T 100 c 7 + (Lh9_ T c).2 j) (Lh9_ T c).1 r) 999 (SPz_ T (fun j => T 100 c 7 + (Lh9_ T c).2 j) (Lh9_ T c).1 r 210 0 c + k)) := by
    rw [x8, E 210 0 c (by decide) (by decide)]
    exact ve_s hT ⟨c0, c1⟩ (hen.1 c c0 c1) hma hda hpl su hkc
  refine tbv_w (T := SPz_ T (fun j => T 100 c 7 + (Lh9_ T c).2 j) (Lh9_ T c).1 r) (c := c) (d := 999) ve (tqz_s hT (tq c c0 c1) hma hgx hrx hyb hks hkc ⟨c0, c1⟩) ?_ ?_ (fun s s0 => ?_) (fun k k0 => ?_) (f5.trans x5.symm) (fun j => (f3 j).trans (E 403 c j (by decide) (by decide)).symm) (fun j => (f2 j).trans (E 402 c j (by decide) (by decide)).symm) (fun j => (f1 j).trans (E 401 c j (by decide) (by decide)).symm) hU ?_
  · rw [x8]
    exact bd_f hT 100 8 tl_0_8 c
  · rw [x5]
    exact bd_f hT 100 5 tl_0_5 c
  · rw [E 403 c s (by decide) (by decide)]
    exact bd_a hT 403 (by decide +kernel : ta_ 403 = some (1, some 12, 0, 11)) c (x := s) s0
  · rw [E 402 c k (by decide) (by decide)]
    exact bd_a hT 402 (by decide +kernel : ta_ 402 = some (1, some 7, (-1), 6)) c (x := k) k0
  · exact hfv_t (T := SPz_ T (fun j => T 100 c 7 + (Lh9_ T c).2 j) (Lh9_ T c).1 r) (V := T) x5.symm x8.symm (fun j => (E 401 c j (by decide) (by decide)).symm) (fun j => (E 403 c j (by decide) (by decide)).symm) (fun x => by
      rw [E 106 0 6 (by decide) (by decide)]
      exact (dh_k (T := T) (U := SPz_ T (fun j => T 100 c 7 + (Lh9_ T c).2 j) (Lh9_ T c).1 r) (fun k9 j q9 => by rcases q9 with rfl | rfl | rfl | rfl <;> exact spz_k (by decide) (by decide)) _).symm) hf
/-- the lists of what is left are one -/
theorem lr_h {T T1 : Zt} {c : Int} (hT : ok_T T) (hc : 0 ≤ c ∧ c < T 106 0 2) (h8 : EN1_ T c) (hpl : PLR_ T) (hkc : KC_ T) (e35 : ∀ j, T1 235 0 j = T 235 0 j) (e10 : T1 210 0 c = T 210 0 c) (e11 : T1 211 0 c = T 211 0 c) : dl9_ (fun i => T1 235 0 (T1 210 0 c + i) = 0 ∨ T1 235 0 (T1 210 0 c + i) = 1) (T1 211 0 c).toNat = Lh9_ T c := by
  have e7 : T 210 0 c = T 100 c 7 := h8.2.2.1.symm
  have e8 : T 211 0 c = T 100 c 8 := h8.2.2.2.1.symm
  have hf : 0 ≤ T 100 c 7 ∧ T 100 c 7 ≤ 400 := bd_f hT 100 7 tl_0_7 c
  have kc := hkc c hc.1 hc.2
  unfold Lh9_
  rw [e11, e8]
  refine dl_c _ (fun i i0 i1 => ?_)
  have p := hpl.1 (T 100 c 7 + i) (by omega) (by omega)
  have b5 : 0 ≤ T 102 (T 100 c 7 + i) 5 ∧ T 102 (T 100 c 7 + i) 5 ≤ 999 := bd_f hT 102 5 tl_2_5 _
  have ld := lh_d (T := T) (c := c) (i := i) b5.2 p.2
  have b35 := bd_a hT 235 (by decide +kernel : ta_ 235 = some (1, some 400, 0, 3)) 0 (x := T 100 c 7 + i) (by omega)
  show (T1 235 0 (T1 210 0 c + i) = 0 ∨ T1 235 0 (T1 210 0 c + i) = 1) ↔ vH_ T 999 (T 100 c 7 + i) 0 ≠ 1
  rw [e10, e7, e35, ld]
  omega
/-- the views of a picture that supposes row r, told -/
theorem ve_r {T S : Zt} {c r : Int} (hc : 0 ≤ c ∧ c < T 106 0 2) (h8 : EN1_ T c) (hT : ok_T T) (hpl : PLR_ T) (hkc : KC_ T) (eS : ∀ (k : Nat) (j : Int), k = 232 ∨ k = 233 ∨ k = 234 ∨ k = 235 ∨ k = 236 ∨ k = 237 ∨ k = 239 ∨ k = 242 ∨ k = 243 ∨ k = 210 → S k 0 j = T k 0 j) (s1 : S 111 0 80 = 1) (sd : ∀ j, 0 ≤ j → j < (Lh9_ T c).1 → S 281 0 (T 100 c 7 + (Lh9_ T c).2 j) = rs3_ r j.toNat % 3) : VE_ (T 100 c 8) (fun k => vR_ S 999 (S 210 0 c + k)) (fun k => vR_ (SPz_ T (fun j => T 100 c 7 + (Lh9_ T c).2 j) (Lh9_ T c).1 r) 999 (T 210 0 c + k)) := by
  intro k k0 k1
  have e7 : T 210 0 c = T 100 c 7 := h8.2.2.1.symm
  have hf : 0 ≤ T 100 c 7 ∧ T 100 c 7 ≤ 400 := bd_f hT 100 7 tl_0_7 c
  have kc := hkc c hc.1 hc.2
  have p := hpl.1 (T 100 c 7 + k) (by omega) (by omega)
  have b5 : 0 ≤ T 102 (T 100 c 7 + k) 5 ∧ T 102 (T 100 c 7 + k) 5 ≤ 999 := bd_f hT 102 5 tl_2_5 _
  have la := lh_a (T := T) (c := c)
  have ld := lh_d (T := T) (c := c) (i := k) b5.2 p.2
  have vs := spz_v (T := T) (O := fun j => T 100 c 7 + (Lh9_ T c).2 j) (n := (Lh9_ T c).1) (r := r) (d := 999) (m := T 100 c 7 + k)
  have x0 : vR_ S 999 (T 100 c 7 + k) 0 = cz_ (((T 235 0 (T 100 c 7 + k) = 2 ∨ T 235 0 (T 100 c 7 + k) = 3) ∧ T 234 0 (T 100 c 7 + k) ≤ 999) ∨ ¬ (T 235 0 (T 100 c 7 + k) = 2 ∨ T 235 0 (T 100 c 7 + k) = 3)) 1 0 := by
    rw [vr_0, eS 235 _ (by decide), eS 234 _ (by decide), s1]
    exact cz_g ⟨fun q => q.elim Or.inl (fun z => Or.inr z.1), fun q => q.elim Or.inl (fun z => Or.inr ⟨z, by decide⟩)⟩
  have x1 : vR_ S 999 (T 100 c 7 + k) 1 = T 232 0 (T 100 c 7 + k) := vr_1.trans (eS 232 _ (by decide))
  have x2 : vR_ S 999 (T 100 c 7 + k) 2 = T 233 0 (T 100 c 7 + k) := vr_2.trans (eS 233 _ (by decide))
  have x3 : vR_ S 999 (T 100 c 7 + k) 3 = cz_ (T 235 0 (T 100 c 7 + k) = 2 ∨ T 235 0 (T 100 c 7 + k) = 3) (T 236 0 (T 100 c 7 + k)) (cz_ (S 281 0 (T 100 c 7 + k) = 0) 1 0) := by
    rw [vr_3, eS 235 _ (by decide), eS 236 _ (by decide)]
  have x4 : vR_ S 999 (T 100 c 7 + k) 4 = cz_ (T 235 0 (T 100 c 7 + k) = 2 ∨ T 235 0 (T 100 c 7 + k) = 3) (T 237 0 (T 100 c 7 + k)) (cz_ (S 281 0 (T 100 c 7 + k) = 2) 1 0) := by
    rw [vr_4, eS 235 _ (by decide), eS 237 _ (by decide)]
  have xc : ∀ (sh : Int) (n : Nat), fr9c_ S sh n = fr9c_ T sh n := fun sh n => frc_k (fun j => eS 242 j (by decide)) (fun j => eS 243 j (by decide)) n
  have x5 : vR_ S 999 (T 100 c 7 + k) 5 = cz_ (T 235 0 (T 100 c 7 + k) = 2) (fr9c_ T (2 * (T 100 c 7 + k)) (T 239 0 (2 * (T 100 c 7 + k))).toNat) 0 := by
    rw [vr_5, eS 235 _ (by decide), eS 239 _ (by decide), xc]
  have x6 : vR_ S 999 (T 100 c 7 + k) 6 = cz_ (T 235 0 (T 100 c 7 + k) = 2) (fr9c_ T (2 * (T 100 c 7 + k) + 1) (T 239 0 (2 * (T 100 c 7 + k) + 1)).toNat) 0 := by
    rw [vr_6, eS 235 _ (by decide), eS 239 _ (by decide), xc]
  show vR_ S 999 (S 210 0 c + k) 0 = vR_ (SPz_ T (fun j => T 100 c 7 + (Lh9_ T c).2 j) (Lh9_ T c).1 r) 999 (T 210 0 c + k) 0 ∧ (vR_ S 999 (S 210 0 c + k) 0 = 1 → vR_ S 999 (S 210 0 c + k) 1 = vR_ (SPz_ T (fun j => T 100 c 7 + (Lh9_ T c).2 j) (Lh9_ T c).1 r) 999 (T 210 0 c + k) 1 ∧ vR_ S 999 (S 210 0 c + k) 2 = vR_ (SPz_ T (fun j => T 100 c 7 + (Lh9_ T c).2 j) (Lh9_ T c).1 r) 999 (T 210 0 c + k) 2 ∧ vR_ S 999 (S 210 0 c + k) 3 = vR_ (SPz_ T (fun j => T 100 c 7 + (Lh9_ T c).2 j) (Lh9_ T c).1 r) 999 (T 210 0 c + k) 3 ∧ vR_ S 999 (S 210 0 c + k) 4 = vR_ (SPz_ T (fun j => T 100 c 7 + (Lh9_ T c).2 j) (Lh9_ T c).1 r) 999 (T 210 0 c + k) 4 ∧ vR_ S 999 (S 210 0 c + k) 5 = vR_ (SPz_ T (fun j => T 100 c 7 + (Lh9_ T c).2 j) (Lh9_ T c).1 r) 999 (T 210 0 c + k) 5 ∧ vR_ S 999 (S 210 0 c + k) 6 = vR_ (SPz_ T (fun j => T 100 c 7 + (Lh9_ T c).2 j) (Lh9_ T c).1 r) 999 (T 210 0 c + k) 6)
  rw [eS 210 c (by decide), e7, vs.1, vs.2.1, vs.2.2.1, vs.2.2.2.1, vs.2.2.2.2.1, vs.2.2.2.2.2.1, vs.2.2.2.2.2.2, x0, x1, x2, x3, x4, x5, x6]
  refine ⟨rfl, fun _ => ⟨rfl, rfl, ?_, ?_, rfl, rfl⟩⟩
  all_goals
    by_cases D : T 235 0 (T 100 c 7 + k) = 2 ∨ T 235 0 (T 100 c 7 + k) = 3
    · rw [cz_t D, cz_t D]
    · obtain ⟨j, j0, j1, j2⟩ := la.2.2 k k0 k1 (ld.2 D)
      have dg := dg3_u (O := fun j => T 100 c 7 + (Lh9_ T c).2 j) (r := r) (u := j) (Lh9_ T c).1.toNat (fun i k i0 ik k1 => by
        have y := la.2.1 i k i0 ik (by omega)
        show T 100 c 7 + (Lh9_ T c).2 i < T 100 c 7 + (Lh9_ T c).2 k
        omega) j0 (by omega)
      have em : T 100 c 7 + (Lh9_ T c).2 j = T 100 c 7 + k := by omega
      rw [em] at dg
      have s := sd j j0 j1
      rw [j2] at s
      rw [cz_f D, cz_f D, dg, s]
/-- the order of all is one, whatever row is supposed -/
theorem rkf_s {T S T2 : Zt} {c r : Int} (hT : ok_T T) (hc : 0 ≤ c ∧ c < T 106 0 2) (tq : TQ_ T c 999) (hpl : PLR_ T) (hkc : KC_ T) (eS : ∀ (k : Nat) (j : Int), k = 205 ∨ k = 207 ∨ k = 208 ∨ k = 210 ∨ k = 211 ∨ k = 225 ∨ k = 226 ∨ k = 227 ∨ k = 228 ∨ k = 232 ∨ k = 233 ∨ k = 234 ∨ k = 235 ∨ k = 236 ∨ k = 237 ∨ k = 239 ∨ k = 242 ∨ k = 243 → S k 0 j = T k 0 j) (e24 : S 111 0 24 = T 111 0 24) (s1 : S 111 0 80 = 1) (sd : ∀ j, 0 ≤ j → j < (Lh9_ T c).1 → S 281 0 (T 100 c 7 + (Lh9_ T c).2 j) = rs3_ r j.toNat % 3) (f2 : fr_ [(276, []), (284, []), (277, []), (286, []), (278, []), (111, [82, 83, 85, 87, 79])] S T2) (td : TD_ S T2 (fun w => S 205 0 (23 * c + w)) (fun k => vR_ S 999 (S 210 0 c + k)) (S 211 0 c).toNat c 999 (S 111 0 24).toNat) : RKm_ T2 c 999 (S 208 0 c) = RKh_ T c (WWs_ T c r) := by
  obtain ⟨-, -, ⟨h4, -⟩, -, ⟨h8, -, -⟩, -⟩ := tq
  have hn : 0 ≤ T 100 c 8 ∧ T 100 c 8 ≤ 400 := bd_f hT 100 8 tl_0_8 c
  have e5 : S 208 0 c = T 100 c 5 := (eS 208 c (by decide)).trans h8.1.symm
  have e8 : T 211 0 c = T 100 c 8 := h8.2.2.2.1.symm
  have ew : WWp_ S c 999 = WWs_ T c r := by
    unfold WWs_
    refine wwp_e (fun w => ?_) ?_ ?_ (fun x => ?_) ?_
    · rw [eS 205 _ (by decide), spz_k (by decide) (by decide)]
    · rw [eS 211 _ (by decide), spz_k (by decide) (by decide)]
    · rw [spz_k (by decide) (by decide), e8]
      exact hn.1
    · rw [e24, spz_f (by decide), dd_k (T := T) (U := S) (fun k j q9 => eS k j (by omega)) _, dd_k (T := T) (U := SPz_ T (fun j => T 100 c 7 + (Lh9_ T c).2 j) (Lh9_ T c).1 r) (fun k j q9 => spz_k (by omega) (by omega)) _]
    · rw [spz_k (k := 211) (by decide) (by decide), e8, show SPz_ T (fun j => T 100 c 7 + (Lh9_ T c).2 j) (Lh9_ T c).1 r 210 0 c = T 210 0 c from spz_k (by decide) (by decide)]
      exact ve_r hc h8 hT hpl hkc (fun k j q9 => eS k j (by omega)) s1 sd
  have r : ∀ w, 0 ≤ w → w < 16 → T2 205 0 (23 * c + w) = T 401 c w := fun w a b => ((f2 205 0 _ rfl).trans (eS 205 _ (by decide))).trans (h4 w a b).symm
  unfold RKm_ RKh_
  rw [wwp_r f2 td, ew, r 5 (by decide) (by decide), r 4 (by decide) (by decide), e5, mk_e (n := T 100 c 5) (o := fun x => T2 207 0 (12 * c + x)) (o' := fun x => T 403 c x) (fun x a b => ((f2 207 0 _ rfl).trans (eS 207 _ (by decide))).trans (h8.2.2.2.2.1 x a b).symm)]
/-- both sides tell alike whether a club is first -/
theorem fi_q {T T1 : Zt} {c cl r : Int} {B B' : Prop} (hT : ok_T T) (hc : 0 ≤ c ∧ c < T 106 0 2) (hcl : 0 ≤ cl ∧ cl < 12) (hs : T 404 c cl ≠ -1) (tq : TQ_ T c 999) (hpl : PLR_ T) (hkc : KC_ T) (eT : ∀ (k : Nat) (j : Int), k = 205 ∨ k = 207 ∨ k = 208 ∨ k = 210 ∨ k = 211 ∨ k = 225 ∨ k = 226 ∨ k = 227 ∨ k = 228 ∨ k = 232 ∨ k = 233 ∨ k = 234 ∨ k = 235 ∨ k = 236 ∨ k = 237 ∨ k = 239 ∨ k = 242 ∨ k = 243 → T1 k 0 j = T k 0 j) (e24 : T1 111 0 24 = T 111 0 24) (h1 : BPh_ T c (T 404 c cl) (WWs_ T c r) B) (h2 : BPr_ T1 c cl (Lh9_ T c).1 (fun j => T 100 c 7 + (Lh9_ T c).2 j) r B') : B ↔ B' := by
  obtain ⟨S, T2, x, fS, s1, sd, f2, oc, td, rk, px, hb⟩ := h2
  have eS : ∀ (k : Nat) (j : Int), k = 205 ∨ k = 207 ∨ k = 208 ∨ k = 210 ∨ k = 211 ∨ k = 225 ∨ k = 226 ∨ k = 227 ∨ k = 228 ∨ k = 232 ∨ k = 233 ∨ k = 234 ∨ k = 235 ∨ k = 236 ∨ k = 237 ∨ k = 239 ∨ k = 242 ∨ k = 243 → S k 0 j = T k 0 j := fun k j q9 => by
    have y : S k 0 j = T1 k 0 j := by
      rcases q9 with rfl | rfl | rfl | rfl | rfl | rfl | rfl | rfl | rfl | rfl | rfl | rfl | rfl | rfl | rfl | rfl | rfl | rfl <;> exact fS _ 0 j rfl
    exact y.trans (eT k j q9)
  have rq := rkf_s (T := T) (S := S) (T2 := T2) (c := c) (r := r) hT hc tq hpl hkc eS ((fS 111 0 24 rfl).trans e24) s1 sd f2 td
  have q := tq
  obtain ⟨-, -, -, -, ⟨h8, h9, h10⟩, -⟩ := q
  have he5 : 0 ≤ T 100 c 5 ∧ T 100 c 5 ≤ 12 := bd_f hT 100 5 tl_0_5 c
  have se := (h9.2 cl hcl.1 hcl.2).resolve_left hs
  have e5 : S 208 0 c = T 100 c 5 := (eS 208 c (by decide)).trans h8.1.symm
  rw [rq, e5] at rk
  have hh : ∀ i, 0 ≤ i → i < T 100 c 5 → HE_ S c (T 403 c i) := fun i i0 i1 => ⟨i, i0, by rw [e5]; exact i1, by rw [eS 207 _ (by decide)]; exact (h8.2.2.2.2.1 i i0 i1).symm⟩
  obtain ⟨k, k0, k1, k2, k3, k4⟩ := px
  have kE : k < T 100 c 5 := by
    have y := hh (T 404 c cl) se.1 se.2.1
    rw [se.2.2] at y
    obtain ⟨j, j0, j1, j2⟩ := oc cl y
    rw [e5] at j1
    rcases (by omega : j < k ∨ k ≤ j) with z | z
    · exact absurd j2 (k3 j j0 z)
    · omega
  have m1 : (RKh_ T c (WWs_ T c r)).1 k = cl := by
    rw [← rk]
    show mk9_ (T 100 c 5) (fun x => T2 277 0 x) k = cl
    rw [mk_v (n := T 100 c 5) (o := fun x => T2 277 0 x) (x := k) ⟨k0, kE⟩]
    exact k2
  have un : ∀ i, k < i → i < T 100 c 5 → (RKh_ T c (WWs_ T c r)).1 i ≠ (RKh_ T c (WWs_ T c r)).1 k := fun i i0 i1 w9 => by
    rw [← rk] at w9
    refine oc_i (o := mk9_ (T 100 c 5) (fun x => T2 277 0 x)) (e := fun i => T 403 c i) he5.1 (fun i j i0 ij j1 e => by
      have := h10.1 i j i0 (by omega) (by omega) j1 e
      omega) (fun j j0 j1 => ?_) (a := k) (b := i) ⟨k0, kE⟩ ⟨by omega, i1⟩ (by omega) w9.symm
    obtain ⟨p, p0, p1, p2⟩ := oc (T 403 c j) (hh j j0 j1)
    rw [e5] at p1
    exact ⟨p, p0, p1, (mk_v (n := T 100 c 5) (o := fun x => T2 277 0 x) (x := p) ⟨p0, p1⟩).trans p2⟩
  have y := h1 k k0 kE (by rw [m1]; exact se.2.2.symm) un
  have e9 : pc9_ (RKh_ T c (WWs_ T c r)).2 k.toNat = x := by
    rw [← rk, k4]
    exact pc_c _ (fun j j0 j1 => mk_v (n := T 100 c 5) (o := fun x => T2 278 0 x) (x := j) ⟨j0, by omega⟩)
  rw [e9] at y
  exact y.trans hb.symm
/-- the answers of firsts are the same -/
theorem fir_x {T T1 : Zt} {c cl x1 x2 : Int} (hT : ok_T T) (tq : 0 ≤ c → c < T 106 0 2 → TQ_ T c 999) (hpl : PLR_ T) (hkc : KC_ T) (hc6 : T 106 0 2 = T 111 0 6) (hc12 : T 108 0 2 = T 111 0 12)
    (f1 : fr_ [(109, [5]), (588, []), (107, [1, 13]), (542, []), (543, []), (544, []), (545, []), (546, []), (550, []), (551, []), (552, []), (549, []), (547, []), (548, [])] T T1) (d1 : (x1 = -2 ∧ ¬ ((0 ≤ c ∧ c < T 106 0 2) ∧ (0 ≤ cl ∧ cl < T 108 0 2))) ∨ (x1 = -4 ∧ ((0 ≤ c ∧ c < T 106 0 2) ∧ (0 ≤ cl ∧ cl < T 108 0 2)) ∧ ¬ (T 404 c cl ≠ -1 ∧ T 100 c 6 ≠ 0)) ∨ (((0 ≤ c ∧ c < T 106 0 2) ∧ (0 ≤ cl ∧ cl < T 108 0 2)) ∧ (T 404 c cl ≠ -1 ∧ T 100 c 6 ≠ 0) ∧ ((x1 = -1 ∧ 3 < (dl9_ (fun i => vH_ T 999 (T 100 c 7 + i) 0 ≠ 1) (T 100 c 8).toNat).1) ∨ ((dl9_ (fun i => vH_ T 999 (T 100 c 7 + i) 0 ≠ 1) (T 100 c 8).toNat).1 ≤ 3 ∧ CNq_ T c (T 404 c cl) (WWs_ T c) x1 (p3_ (dl9_ (fun i => vH_ T 999 (T 100 c 7 + i) 0 ≠ 1) (T 100 c 8).toNat).1)))))
    (d2 : (x2 = -2 ∧ ¬ ((0 ≤ c ∧ c < T1 111 0 6) ∧ (0 ≤ cl ∧ cl < T1 111 0 12))) ∨ (x2 = -4 ∧ ((0 ≤ c ∧ c < T1 111 0 6) ∧ (0 ≤ cl ∧ cl < T1 111 0 12)) ∧ ¬ (T1 209 0 c ≠ 0 ∧ HE_ T1 c cl)) ∨ (((0 ≤ c ∧ c < T1 111 0 6) ∧ (0 ≤ cl ∧ cl < T1 111 0 12)) ∧ T1 209 0 c ≠ 0 ∧ HE_ T1 c cl ∧ ((x2 = -1 ∧ 3 < (dl9_ (fun i => T1 235 0 (T1 210 0 c + i) = 0 ∨ T1 235 0 (T1 210 0 c + i) = 1) (T1 211 0 c).toNat).1) ∨ ((dl9_ (fun i => T1 235 0 (T1 210 0 c + i) = 0 ∨ T1 235 0 (T1 210 0 c + i) = 1) (T1 211 0 c).toNat).1 ≤ 3 ∧ CNg_ (BPr_ T1 c cl (dl9_ (fun i => T1 235 0 (T1 210 0 c + i) = 0 ∨ T1 235 0 (T1 210 0 c + i) = 1) (T1 211 0 c).toNat).1 (fun j => T1 210 0 c + (dl9_ (fun i => T1 235 0 (T1 210 0 c + i) = 0 ∨ T1 235 0 (T1 210 0 c + i) = 1) (T1 211 0 c).toNat).2 j)) x2 (p3_ (dl9_ (fun i => T1 235 0 (T1 210 0 c + i) = 0 ∨ T1 235 0 (T1 210 0 c + i) = 1) (T1 211 0 c).toNat).1))))) : x1 = x2 := by
  have e6 : T1 111 0 6 = T 106 0 2 := (f1 111 0 6 rfl).trans hc6.symm
  have e12 : T1 111 0 12 = T 108 0 2 := (f1 111 0 12 rfl).trans hc12.symm
  have h12 : 0 ≤ T 108 0 2 ∧ T 108 0 2 ≤ 12 := bd_f hT 108 2 tl_8_2 0
  rw [e6, e12] at d2
  by_cases A : (0 ≤ c ∧ c < T 106 0 2) ∧ (0 ≤ cl ∧ cl < T 108 0 2)
  · have h := tq A.1.1 A.1.2
    have q := h
    obtain ⟨-, -, -, -, ⟨h8, h9, h10⟩, -⟩ := q
    have hb : 0 ≤ cl ∧ cl < 12 := by omega
    have hh : HE_ T1 c cl ↔ T 404 c cl ≠ -1 := (hem_f (fun j => f1 207 0 j rfl) (f1 208 0 c rfl)).trans (he_s h8 h9 hb)
    have h6 : T1 209 0 c ≠ 0 ↔ T 100 c 6 ≠ 0 := by rw [f1 209 0 c rfl, h8.2.1]
    by_cases B : T 404 c cl ≠ -1 ∧ T 100 c 6 ≠ 0
    · obtain ⟨-, -, a⟩ := (d1.resolve_left (fun y => y.2 A)).resolve_left (fun y => y.2.2 B)
      obtain ⟨-, -, -, b⟩ := (d2.resolve_left (fun y => y.2 A)).resolve_left (fun y => y.2.2 ⟨h6.2 B.2, hh.2 B.1⟩)
      have el : dl9_ (fun i => T1 235 0 (T1 210 0 c + i) = 0 ∨ T1 235 0 (T1 210 0 c + i) = 1) (T1 211 0 c).toNat = Lh9_ T c := lr_h hT A.1 h8 hpl hkc (fun j => f1 235 0 j rfl) (f1 210 0 c rfl) (f1 211 0 c rfl)
      have el2 : dl9_ (fun i => vH_ T 999 (T 100 c 7 + i) 0 ≠ 1) (T 100 c 8).toNat = Lh9_ T c := rfl
      rw [el, show T1 210 0 c = T 100 c 7 from (f1 210 0 c rfl).trans h8.2.2.1.symm] at b
      rw [el2] at a
      rcases a with a | a
      · rcases b with b | b
        · omega
        · omega
      · rcases b with b | b
        · omega
        · obtain ⟨-, P, p1, p2⟩ := a
          obtain ⟨-, Q, q1, q2⟩ := b
          rw [p1, q1]
          have pg : 0 ≤ p3_ (Lh9_ T c).1 := by
            unfold p3_
            by_cases z0 : (Lh9_ T c).1 = 0
            · rw [if_pos z0]; decide
            · by_cases z1 : (Lh9_ T c).1 = 1
              · rw [if_neg z0, if_pos z1]; decide
              · by_cases z2 : (Lh9_ T c).1 = 2
                · rw [if_neg z0, if_neg z1, if_pos z2]; decide
                · rw [if_neg z0, if_neg z1, if_neg z2]; decide
          exact cnt3_e _ (fun r r0 r1 => fi_q hT A.1 hb B.1 h hpl hkc (fun k j q9 => by rcases q9 with rfl | rfl | rfl | rfl | rfl | rfl | rfl | rfl | rfl | rfl | rfl | rfl | rfl | rfl | rfl | rfl | rfl | rfl <;> exact f1 _ 0 j rfl) (f1 111 0 24 rfl) (p2 r r0 (by omega)) (q2 r r0 (by omega)))
    · have y1 : x1 = -4 := by
        rcases d1 with y | y | y
        · exact absurd A y.2
        · exact y.1
        · exact absurd y.2.1 B
      have y2 : x2 = -4 := by
        rcases d2 with y | y | y
        · exact absurd A y.2
        · exact y.1
        · exact absurd ⟨hh.1 y.2.2.1, h6.1 y.2.1⟩ B
      omega
  · have y1 : x1 = -2 := by
      rcases d1 with y | y | y
      · exact y.1
      · exact absurd y.2.1 A
      · exact absurd y.1 A
    have y2 : x2 = -2 := by
      rcases d2 with y | y | y
      · exact y.1
      · exact absurd y.2.1 A
      · exact absurd y.1 A
    omega
theorem cnt3_b {P : Int → Prop} : ∀ n : Nat, 0 ≤ cnt3_ P n ∧ cnt3_ P n ≤ (n : Int)
  | 0 => ⟨Int.le_refl _, Int.le_refl _⟩
  | n + 1 => by
    have i := cnt3_b (P := P) n
    have o := one_b (P (n : Int))
    have e : cnt3_ P (n + 1) = cnt3_ P n + cz_ (P (n : Int)) 1 0 := rfl
    rw [e]
    omega
theorem p3_b {l : Int} : 0 ≤ p3_ l ∧ p3_ l ≤ 27 := by
  unfold p3_
  by_cases z0 : l = 0
  · rw [if_pos z0]; decide
  · by_cases z1 : l = 1
    · rw [if_neg z0, if_pos z1]; decide
    · by_cases z2 : l = 2
      · rw [if_neg z0, if_neg z1, if_pos z2]; decide
      · rw [if_neg z0, if_neg z1, if_neg z2]; decide
/-- the house's answer is small -/
theorem fib_ {T : Zt} {c s x l : Int} {A B C D : Prop} {WW : Int → Int → Int → Int → Int} (h : (x = -2 ∧ A) ∨ (x = -4 ∧ B) ∨ (C ∧ D ∧ ((x = -1 ∧ 3 < l) ∨ (l ≤ 3 ∧ CNq_ T c s WW x (p3_ l))))) : -4 ≤ x ∧ x ≤ 27 := by
  rcases h with h | h | h
  · have y := h.1
    omega
  · have y := h.1
    omega
  · rcases h.2.2 with h | h
    · have y := h.1
      omega
    · obtain ⟨-, P, e, -⟩ := h
      have b := cnt3_b (P := P) (p3_ l).toNat
      have p := p3_b (l := l)
      omega
