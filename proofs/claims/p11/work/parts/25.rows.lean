/-- a chain of rows -/
def lk_ (T : Zt) : Int → List Int → Prop
  | f, [] => f = -1
  | f, x :: l => f = x ∧ (0 ≤ x ∧ x < 3000) ∧ lk_ T (T 252 0 x) l
theorem lk_e {T T' : Zt} : ∀ {l : List Int} {f : Int}, lk_ T f l → (∀ x ∈ l, T' 252 0 x = T 252 0 x) → lk_ T' f l
  | [], _, h, _ => h
  | x :: l, _, h, e => ⟨h.1, h.2.1, by
      rw [e x List.mem_cons_self]
      exact lk_e h.2.2 (fun z hz => e z (List.mem_cons_of_mem _ hz))⟩
theorem lk_s {T : Zt} {l : List Int} {f i : Int} (h0 : 0 ≤ i) (hi : i < l.length) (h : lk_ T f (l.drop i.toNat)) : (0 ≤ f ∧ f < 3000) ∧ lk_ T (T 252 0 f) (l.drop (i + 1).toNat) := by
  rw [List.drop_eq_getElem_cons (by omega)] at h
  obtain ⟨h1, h2, h3⟩ := h
  subst h1
  rw [show (i + 1).toNat = i.toNat + 1 by omega]
  exact ⟨h2, h3⟩
theorem lk_g {T : Zt} {l : List Int} {f i : Int} (h0 : 0 ≤ i) (hi : i < l.length) (h : lk_ T f (l.drop i.toNat)) : l[i.toNat]? = some f ∧ 0 ≤ f ∧ f < 3000 := by
  rw [List.drop_eq_getElem_cons (by omega)] at h
  obtain ⟨h1, h2, h3⟩ := h
  exact ⟨by rw [h1]; exact List.getElem?_eq_getElem (by omega), by omega, by omega⟩
theorem lk_c {T : Zt} {l : List Int} {f : Int} (h : lk_ T f l) (hf : f ≠ -1) : ∃ l', l = f :: l' ∧ (0 ≤ f ∧ f < 3000) ∧ lk_ T (T 252 0 f) l' := by
  cases l with
  | nil => exact absurd h hf
  | cons x l => obtain ⟨h1, h2, h3⟩ := h; subst h1; exact ⟨l, rfl, h2, h3⟩
theorem lk_app {T T' : Zt} {x y : Int} (hx : 0 ≤ x ∧ x < 3000) (e1 : T' 252 0 x = -1) (e2 : T' 252 0 y = x) : ∀ {l : List Int} {f : Int}, lk_ T f l → l.Nodup → l.getLast? = some y → (∀ z ∈ l, z ≠ y → T' 252 0 z = T 252 0 z) → lk_ T' f (l ++ [x])
  | [], _, _, _, g, _ => by cases g
  | [a], _, h, _, g, _ => by
      cases g
      exact ⟨h.1, h.2.1, e2, hx, e1⟩
  | a :: b :: l, _, h, n, g, e => by
      have n2 := List.nodup_cons.mp n
      have gy : (b :: l).getLast? = some y := by rw [List.getLast?_cons_cons] at g; exact g
      have hy : y ∈ b :: l := List.mem_of_getLast? gy
      have ha : a ≠ y := fun q => n2.1 (q ▸ hy)
      refine ⟨h.1, h.2.1, ?_⟩
      rw [e a List.mem_cons_self ha]
      exact lk_app hx e1 e2 h.2.2 n2.2 gy (fun z hz => e z (List.mem_cons_of_mem _ hz))
theorem lk_del {T T' : Zt} {x p : Int} (e1 : T' 252 0 p = T 252 0 x) : ∀ {i : Nat} {l : List Int} {f : Int}, lk_ T f l → l.Nodup → l[i + 1]? = some x → l[i]? = some p → (∀ z ∈ l, z ≠ p → T' 252 0 z = T 252 0 z) → lk_ T' f (l.eraseIdx (i + 1))
  | _, [], _, _, _, g, _, _ => by simp at g
  | 0, [a], _, _, _, g, _, _ => by simp at g
  | 0, a :: b :: l, _, h, n, g, k, e => by
      simp at g k
      subst g; subst k
      have n2 := List.nodup_cons.mp n
      obtain ⟨h1, h2, h3, h4, h5⟩ := h
      refine ⟨h1, h2, ?_⟩
      rw [e1]
      exact lk_e h5 (fun z (hz : z ∈ l) => e z (List.mem_cons_of_mem _ (List.mem_cons_of_mem _ hz)) (fun q => n2.1 (q ▸ List.mem_cons_of_mem _ hz)))
  | i + 1, a :: l, _, h, n, g, k, e => by
      have n2 := List.nodup_cons.mp n
      have g2 : l[i + 1]? = some x := by simpa using g
      have k2 : l[i]? = some p := by simpa using k
      have ha : a ≠ p := fun q => n2.1 (q ▸ List.mem_of_getElem? k2)
      refine ⟨h.1, h.2.1, ?_⟩
      rw [e a List.mem_cons_self ha]
      exact lk_del e1 h.2.2 n2.2 g2 k2 (fun z hz => e z (List.mem_cons_of_mem _ hz))

def kf_ (b : Int) : Nat := if b = 0 then 253 else 255
def km_ (b : Int) : Nat := if b = 0 then 254 else 256
/-- the rows of the matches: chains, all apart -/
def RB_ (T : Zt) (L : Int → Int → List Int) : Prop :=
  (∀ m b, 0 ≤ m → m < T 111 0 29 → 0 ≤ b → b ≤ 1 → lk_ T (T (kf_ b) 0 m) (L m b) ∧ T (km_ b) 0 m = ((L m b).length : Int)) ∧
  (∀ m b x, x ∈ L m b → 0 ≤ x ∧ x < T 111 0 47) ∧ (∀ m b, (L m b).Nodup) ∧
  (∀ m b m' b' x, x ∈ L m b → x ∈ L m' b' → m = m' ∧ b = b')
/-- and rows that are in no chain -/
def RR_ (T : Zt) (L : Int → Int → List Int) (rest : List Int) : Prop :=
  (∀ x ∈ rest, 0 ≤ x ∧ x < T 111 0 47) ∧ rest.Nodup ∧ (∀ m b x, x ∈ rest → x ∉ L m b)
def RX_ (T : Zt) (rest : List Int) : Prop := ∃ L, RB_ T L ∧ RR_ T L rest
/-- what other pictures keep of it -/
theorem rb_f {T T' : Zt} {L : Int → Int → List Int} (h : RB_ T L) (e29 : T' 111 0 29 = T 111 0 29) (e47 : T' 111 0 47 = T 111 0 47) (e : ∀ k j, k = 252 ∨ k = 253 ∨ k = 254 ∨ k = 255 ∨ k = 256 → T' k 0 j = T k 0 j) : RB_ T' L := by
  obtain ⟨a, b, c, d⟩ := h
  refine ⟨fun m b' h1 h2 h3 h4 => ?_, fun m b' x hx => by rw [e47]; exact b m b' x hx, c, d⟩
  have y := a m b' h1 (by omega) h3 h4
  have z1 : kf_ b' = 253 ∨ kf_ b' = 255 := by unfold kf_; split <;> simp
  have z2 : km_ b' = 254 ∨ km_ b' = 256 := by unfold km_; split <;> simp
  rw [e (kf_ b') m (by omega), e (km_ b') m (by omega)]
  exact ⟨lk_e y.1 (fun x _ => e 252 x (by decide)), y.2⟩
theorem rx_f {T T' : Zt} {rest : List Int} (h : RX_ T rest) (e29 : T' 111 0 29 = T 111 0 29) (e47 : T' 111 0 47 = T 111 0 47) (e : ∀ k j, k = 252 ∨ k = 253 ∨ k = 254 ∨ k = 255 ∨ k = 256 → T' k 0 j = T k 0 j) : RX_ T' rest := by
  obtain ⟨L, h1, h2, h3, h4⟩ := h
  exact ⟨L, rb_f h1 e29 e47 e, fun x hx => by rw [e47]; exact h2 x hx, h3, h4⟩
/-- apart, within bounds: so not more than the bound -/
theorem nd_len {l : List Int} {n : Int} (h0 : 0 ≤ n) (h : ∀ x ∈ l, 0 ≤ x ∧ x < n) (d : l.Nodup) : (l.length : Int) ≤ n := by
  refine ph_i (n := l.length) (m := n) (fun i => l.getD i.toNat 0) (by omega) h0 (fun i a b => ?_) (fun i j a b c => ?_)
  · have hi : i.toNat < l.length := by omega
    simp only [List.getD_eq_getElem?_getD, List.getElem?_eq_getElem hi, Option.getD_some]
    exact h _ (List.getElem_mem hi)
  · have hi : i.toNat < l.length := by omega
    have hj : j.toNat < l.length := by omega
    simp only [List.getD_eq_getElem?_getD, List.getElem?_eq_getElem hi, List.getElem?_eq_getElem hj, Option.getD_some]
    exact (List.pairwise_iff_getElem.mp d) _ _ hi hj (by omega)
/-- a row is put behind -/
theorem rx_put {T T' : Zt} {m b x : Int} {rest : List Int} {L : Int → Int → List Int} (hb : 0 ≤ b ∧ b ≤ 1) (hm : 0 ≤ m ∧ m < T 111 0 29) (h47 : T 111 0 47 ≤ 3000) (r : RB_ T L) (q : RR_ T L (x :: rest))
    (e29 : T' 111 0 29 = T 111 0 29) (e47 : T' 111 0 47 = T 111 0 47)
    (ef : ∀ m' b', 0 ≤ b' → b' ≤ 1 → ¬ (m' = m ∧ b' = b) → T' (kf_ b') 0 m' = T (kf_ b') 0 m' ∧ T' (km_ b') 0 m' = T (km_ b') 0 m')
    (e1 : T' (km_ b) 0 m = T (km_ b) 0 m + 1) (e3 : T' 252 0 x = -1)
    (e2 : (L m b = [] ∧ T' (kf_ b) 0 m = x ∧ ∀ z, z ≠ x → T' 252 0 z = T 252 0 z) ∨ (T' (kf_ b) 0 m = T (kf_ b) 0 m ∧ ∃ y, (L m b).getLast? = some y ∧ T' 252 0 y = x ∧ ∀ z, z ≠ x → z ≠ y → T' 252 0 z = T 252 0 z)) :
    RX_ T' rest ∧ ∀ z ∈ rest, T' 252 0 z = T 252 0 z := by
  obtain ⟨r1, r2, r3, r4⟩ := r
  obtain ⟨q1, q2, q3⟩ := q
  have hx := q1 x List.mem_cons_self
  have n2 := List.nodup_cons.mp q2
  have hxL : ∀ m' b', x ∉ L m' b' := fun m' b' => q3 m' b' x List.mem_cons_self
  have hl := r1 m b hm.1 hm.2 hb.1 hb.2
  -- what stays of the links
  have keep : ∀ z, z ≠ x → (∀ y, (L m b).getLast? = some y → z ≠ y) → T' 252 0 z = T 252 0 z := by
    intro z hz hy
    rcases e2 with ⟨_, _, e⟩ | ⟨_, y, gy, _, e⟩
    · exact e z hz
    · exact e z hz (hy y gy)
  have other : ∀ m' b', ¬ (m' = m ∧ b' = b) → ∀ z ∈ L m' b', T' 252 0 z = T 252 0 z := fun m' b' hn z hz =>
    keep z (fun e => hxL m' b' (e ▸ hz)) (fun y gy e => hn (by
      have := r4 m' b' m b y (e ▸ hz) (List.mem_of_getLast? gy)
      exact this))
  refine ⟨⟨fun m' b' => if m' = m ∧ b' = b then L m b ++ [x] else L m' b', ⟨?_, ?_, ?_, ?_⟩, ?_, n2.2, ?_⟩, ?_⟩
  · intro m' b' h1 h2 h3 h4
    by_cases c : m' = m ∧ b' = b
    · simp only [c, and_self, if_true]
      refine ⟨?_, by rw [e1, hl.2]; simp⟩
      rcases e2 with ⟨en, ef1, e⟩ | ⟨ef1, y, gy, ey, e⟩
      · rw [en, ef1]; exact ⟨rfl, by omega, e3⟩
      · rw [ef1]
        exact lk_app (by omega) e3 ey hl.1 (r3 m b) gy (fun z hz hn => e z (fun q => hxL m b (q ▸ hz)) hn)
    · simp only [c, if_false]
      have f := ef m' b' h3 h4 c
      have g := r1 m' b' h1 (by omega) h3 h4
      rw [f.1, f.2]
      exact ⟨lk_e g.1 (other m' b' c), g.2⟩
  · intro m' b' z hz
    rw [e47]
    by_cases c : m' = m ∧ b' = b
    · simp only [c, and_self, if_true, List.mem_append, List.mem_singleton] at hz
      rcases hz with hz | hz
      · exact r2 m b z hz
      · rw [hz]; exact hx
    · simp only [c, if_false] at hz; exact r2 m' b' z hz
  · intro m' b'
    by_cases c : m' = m ∧ b' = b
    · simp only [c, and_self, if_true]
      exact List.nodup_append.mpr ⟨r3 m b, by simp, fun z hz w hw e => by
        rw [List.mem_singleton] at hw
        exact hxL m b (by rw [← hw, ← e]; exact hz)⟩
    · simp only [c, if_false]; exact r3 m' b'
  · intro m1 b1 m2 b2 z h1 h2
    by_cases c : m1 = m ∧ b1 = b
    · by_cases d : m2 = m ∧ b2 = b
      · exact ⟨c.1.trans d.1.symm, c.2.trans d.2.symm⟩
      · simp only [c, and_self, if_true, List.mem_append, List.mem_singleton] at h1
        simp only [d, if_false] at h2
        rcases h1 with h1 | h1
        · have := r4 m b m2 b2 z h1 h2
          exact absurd ⟨this.1.symm, this.2.symm⟩ d
        · exact absurd (h1 ▸ h2) (hxL m2 b2)
    · simp only [c, if_false] at h1
      by_cases d : m2 = m ∧ b2 = b
      · simp only [d, and_self, if_true, List.mem_append, List.mem_singleton] at h2
        rcases h2 with h2 | h2
        · have := r4 m1 b1 m b z h1 h2
          exact absurd this c
        · exact absurd (h2 ▸ h1) (hxL m1 b1)
      · simp only [d, if_false] at h2
        exact r4 m1 b1 m2 b2 z h1 h2
  · intro z hz
    rw [e47]; exact q1 z (List.mem_cons_of_mem _ hz)
  · intro m' b' z hz
    by_cases c : m' = m ∧ b' = b
    · simp only [c, and_self, if_true, List.mem_append, List.mem_singleton]
      intro h
      rcases h with h | h
      · exact q3 m b z (List.mem_cons_of_mem _ hz) h
      · exact n2.1 (h ▸ hz)
    · simp only [c, if_false]; exact q3 m' b' z (List.mem_cons_of_mem _ hz)
  · intro z hz
    exact keep z (fun e => n2.1 (e ▸ hz)) (fun y gy e => q3 m b z (List.mem_cons_of_mem _ hz) (by rw [e]; exact List.mem_of_getLast? gy))
/-- rows that no match has yet -/
def RZ_ (T : Zt) : Prop := ∀ m, T 111 0 29 ≤ m → m < 400 → T 254 0 m = 0 ∧ T 256 0 m = 0
theorem rx_new {T T' : Zt} (h : RX_ T []) (h0 : 0 ≤ T 111 0 47) (e29 : T' 111 0 29 = T 111 0 29) (e47 : T' 111 0 47 = T 111 0 47 + 1) (e : ∀ k j, k = 252 ∨ k = 253 ∨ k = 254 ∨ k = 255 ∨ k = 256 → T' k 0 j = T k 0 j) : RX_ T' [T 111 0 47] := by
  obtain ⟨L, ⟨a, b, c, d⟩, -⟩ := h
  refine ⟨L, ⟨fun m b' h1 h2 h3 h4 => ?_, fun m b' x hx => ?_, c, d⟩, fun x hx => ?_, by simp, fun m b' x hx hL => ?_⟩
  · have y := a m b' h1 (by omega) h3 h4
    have z1 : kf_ b' = 253 ∨ kf_ b' = 255 := by unfold kf_; split <;> simp
    have z2 : km_ b' = 254 ∨ km_ b' = 256 := by unfold km_; split <;> simp
    rw [e (kf_ b') m (by omega), e (km_ b') m (by omega)]
    exact ⟨lk_e y.1 (fun x _ => e 252 x (by decide)), y.2⟩
  · have := b m b' x hx
    omega
  · rw [List.mem_singleton] at hx
    omega
  · rw [List.mem_singleton] at hx
    have := b m b' x hL
    omega
theorem rx_take {T T' : Zt} {m : Int} (h : RX_ T []) (hm : 0 ≤ m ∧ m < T 111 0 29) (e29 : T' 111 0 29 = T 111 0 29) (e47 : T' 111 0 47 = T 111 0 47) (en : ∀ z, T' 252 0 z = T 252 0 z) (e3 : ∀ j, j ≠ m → T' 253 0 j = T 253 0 j) (e4 : ∀ j, j ≠ m → T' 254 0 j = T 254 0 j) (e5 : ∀ j, T' 255 0 j = T 255 0 j) (e6 : ∀ j, T' 256 0 j = T 256 0 j) (e1 : T' 253 0 m = -1) (e2 : T' 254 0 m = 0) : ∃ l, RX_ T' l ∧ lk_ T' (T 253 0 m) l := by
  obtain ⟨L, ⟨a, b, c, d⟩, -⟩ := h
  have hl : lk_ T (T 253 0 m) (L m 0) := (a m 0 hm.1 hm.2 (by decide) (by decide)).1
  refine ⟨L m 0, ⟨fun m' b' => if m' = m ∧ b' = 0 then [] else L m' b', ⟨?_, ?_, ?_, ?_⟩, ?_, c m 0, ?_⟩, lk_e hl (fun x _ => en x)⟩
  · intro m' b' h1 h2 h3 h4
    by_cases k : m' = m ∧ b' = 0
    · obtain ⟨rfl, rfl⟩ := k
      simp only [and_self, if_true]
      exact ⟨e1, e2⟩
    · simp only [k, if_false]
      have g := a m' b' h1 (by omega) h3 h4
      rcases (by omega : b' = 0 ∨ b' = 1) with z | z
      · subst z
        have f1 : T' (kf_ 0) 0 m' = T (kf_ 0) 0 m' := e3 m' (fun q => k ⟨q, rfl⟩)
        have f2 : T' (km_ 0) 0 m' = T (km_ 0) 0 m' := e4 m' (fun q => k ⟨q, rfl⟩)
        rw [f1, f2]; exact ⟨lk_e g.1 (fun x _ => en x), g.2⟩
      · subst z
        have f1 : T' (kf_ 1) 0 m' = T (kf_ 1) 0 m' := e5 m'
        have f2 : T' (km_ 1) 0 m' = T (km_ 1) 0 m' := e6 m'
        rw [f1, f2]; exact ⟨lk_e g.1 (fun x _ => en x), g.2⟩
  · intro m' b' z hz
    rw [e47]
    by_cases k : m' = m ∧ b' = 0
    · simp [k] at hz
    · simp only [k, if_false] at hz; exact b m' b' z hz
  · intro m' b'
    by_cases k : m' = m ∧ b' = 0
    · simp [k]
    · simp only [k, if_false]; exact c m' b'
  · intro m1 b1 m2 b2 z h1 h2
    by_cases k : m1 = m ∧ b1 = 0
    · simp [k] at h1
    · by_cases k2 : m2 = m ∧ b2 = 0
      · simp [k2] at h2
      · simp only [k, k2, if_false] at h1 h2; exact d m1 b1 m2 b2 z h1 h2
  · intro z hz
    rw [e47]; exact b m 0 z hz
  · intro m' b' z hz
    by_cases k : m' = m ∧ b' = 0
    · simp [k]
    · simp only [k, if_false]
      exact fun hy => k (by have := d m' b' m 0 z hy hz; exact this)
theorem rx_del {T T' : Zt} {m x : Int} {i : Nat} {L : Int → Int → List Int} (r : RB_ T L) (hm : 0 ≤ m ∧ m < T 111 0 29) (hx : (L m 0)[i]? = some x) (e29 : T' 111 0 29 = T 111 0 29) (e47 : T' 111 0 47 = T 111 0 47)
    (e3 : ∀ j, j ≠ m → T' 253 0 j = T 253 0 j) (e4 : ∀ j, j ≠ m → T' 254 0 j = T 254 0 j) (e5 : ∀ j, T' 255 0 j = T 255 0 j) (e6 : ∀ j, T' 256 0 j = T 256 0 j)
    (e1 : T' 254 0 m = T 254 0 m - 1)
    (e2 : (i = 0 ∧ T' 253 0 m = T 252 0 x ∧ ∀ z, T' 252 0 z = T 252 0 z) ∨ (T' 253 0 m = T 253 0 m ∧ ∃ n p, i = n + 1 ∧ (L m 0)[n]? = some p ∧ T' 252 0 p = T 252 0 x ∧ ∀ z, z ≠ p → T' 252 0 z = T 252 0 z)) : RX_ T' [] := by
  obtain ⟨a, b, c, d⟩ := r
  have hl : lk_ T (T 253 0 m) (L m 0) ∧ T 254 0 m = ((L m 0).length : Int) := a m 0 hm.1 hm.2 (by decide) (by decide)
  have hi : i < (L m 0).length := by
    rcases Nat.lt_or_ge i (L m 0).length with z | z
    · exact z
    · rw [List.getElem?_eq_none z] at hx; cases hx
  have sub : ∀ z, z ∈ (L m 0).eraseIdx i → z ∈ L m 0 := fun z hz => (List.eraseIdx_sublist (L m 0) i).subset hz
  have other : ∀ m' b', ¬ (m' = m ∧ b' = 0) → ∀ z ∈ L m' b', T' 252 0 z = T 252 0 z := by
    intro m' b' hn z hz
    rcases e2 with ⟨_, _, e⟩ | ⟨_, n, p, _, gp, _, e⟩
    · exact e z
    · exact e z (fun q => hn (by have := d m' b' m 0 p (q ▸ hz) (List.mem_of_getElem? gp); exact this))
  refine ⟨fun m' b' => if m' = m ∧ b' = 0 then (L m 0).eraseIdx i else L m' b', ⟨?_, ?_, ?_, ?_⟩, (by simp), List.nodup_nil, (by simp)⟩
  · intro m' b' h1 h2 h3 h4
    by_cases k : m' = m ∧ b' = 0
    · obtain ⟨rfl, rfl⟩ := k
      simp only [and_self, if_true]
      refine ⟨?_, ?_⟩
      · show lk_ T' (T' 253 0 m') _
        rcases e2 with ⟨z, ef, e⟩ | ⟨ef, n, p, z, gp, ep, e⟩
        · subst z
          rw [ef]
          cases hL : L m' 0 with
          | nil => rw [hL] at hi; exact absurd hi (by simp)
          | cons y l =>
            rw [hL] at hx hl
            have : y = x := by simpa using hx
            subst this
            exact lk_e hl.1.2.2 (fun z _ => e z)
        · subst z
          rw [ef]
          exact lk_del ep hl.1 (c m' 0) hx gp (fun z _ hn => e z hn)
      · show T' 254 0 m' = _
        rw [e1, hl.2, List.length_eraseIdx_of_lt hi]; omega
    · simp only [k, if_false]
      have g := a m' b' h1 (by omega) h3 h4
      rcases (by omega : b' = 0 ∨ b' = 1) with z | z
      · subst z
        have f1 : T' (kf_ 0) 0 m' = T (kf_ 0) 0 m' := e3 m' (fun q => k ⟨q, rfl⟩)
        have f2 : T' (km_ 0) 0 m' = T (km_ 0) 0 m' := e4 m' (fun q => k ⟨q, rfl⟩)
        rw [f1, f2]; exact ⟨lk_e g.1 (other _ _ k), g.2⟩
      · subst z
        have f1 : T' (kf_ 1) 0 m' = T (kf_ 1) 0 m' := e5 m'
        have f2 : T' (km_ 1) 0 m' = T (km_ 1) 0 m' := e6 m'
        rw [f1, f2]; exact ⟨lk_e g.1 (other _ _ k), g.2⟩
  · intro m' b' z hz
    rw [e47]
    by_cases k : m' = m ∧ b' = 0
    · simp only [k, and_self, if_true] at hz; exact b m 0 z (sub z hz)
    · simp only [k, if_false] at hz; exact b m' b' z hz
  · intro m' b'
    by_cases k : m' = m ∧ b' = 0
    · simp only [k, and_self, if_true]; exact (c m 0).sublist (List.eraseIdx_sublist _ _)
    · simp only [k, if_false]; exact c m' b'
  · intro m1 b1 m2 b2 z h1 h2
    by_cases k : m1 = m ∧ b1 = 0
    · by_cases k2 : m2 = m ∧ b2 = 0
      · exact ⟨k.1.trans k2.1.symm, k.2.trans k2.2.symm⟩
      · simp only [k, and_self, if_true] at h1
        simp only [k2, if_false] at h2
        have := d m 0 m2 b2 z (sub z h1) h2
        exact absurd ⟨this.1.symm, this.2.symm⟩ k2
    · simp only [k, if_false] at h1
      by_cases k2 : m2 = m ∧ b2 = 0
      · simp only [k2, and_self, if_true] at h2
        have := d m1 b1 m 0 z h1 (sub z h2)
        exact absurd this k
      · simp only [k2, if_false] at h2
        exact d m1 b1 m2 b2 z h1 h2
theorem rx_am {T T' : Zt} (h : RX_ T []) (rz : RZ_ T) (h0 : 0 ≤ T 111 0 29) (hle : T 111 0 29 ≤ T' 111 0 29) (h4 : T' 111 0 29 ≤ 400) (e47 : T' 111 0 47 = T 111 0 47) (en : ∀ z, T' 252 0 z = T 252 0 z) (e4 : ∀ j, T' 254 0 j = T 254 0 j) (e6 : ∀ j, T' 256 0 j = T 256 0 j)
    (eo : ∀ j, j < T 111 0 29 → T' 253 0 j = T 253 0 j ∧ T' 255 0 j = T 255 0 j) (en2 : ∀ j, T 111 0 29 ≤ j → j < T' 111 0 29 → T' 253 0 j = -1 ∧ T' 255 0 j = -1) : RX_ T' [] ∧ RZ_ T' := by
  obtain ⟨L, ⟨a, b, c, d⟩, -⟩ := h
  refine ⟨⟨fun m' b' => if m' < T 111 0 29 then L m' b' else [], ⟨?_, ?_, ?_, ?_⟩, (by simp), List.nodup_nil, (by simp)⟩, fun m h1 h2 => by rw [e4, e6]; exact rz m (by omega) h2⟩
  · intro m' b' h1 h2 h3 h5
    by_cases k : m' < T 111 0 29
    · simp only [k, if_true]
      have g := a m' b' h1 k h3 h5
      rcases (by omega : b' = 0 ∨ b' = 1) with z | z
      · subst z
        have f1 : T' (kf_ 0) 0 m' = T (kf_ 0) 0 m' := (eo m' k).1
        have f2 : T' (km_ 0) 0 m' = T (km_ 0) 0 m' := e4 m'
        rw [f1, f2]; exact ⟨lk_e g.1 (fun x _ => en x), g.2⟩
      · subst z
        have f1 : T' (kf_ 1) 0 m' = T (kf_ 1) 0 m' := (eo m' k).2
        have f2 : T' (km_ 1) 0 m' = T (km_ 1) 0 m' := e6 m'
        rw [f1, f2]; exact ⟨lk_e g.1 (fun x _ => en x), g.2⟩
    · simp only [k, if_false]
      have n := en2 m' (by omega) h2
      have q := rz m' (by omega) (by omega)
      rcases (by omega : b' = 0 ∨ b' = 1) with z | z
      · subst z; exact ⟨n.1, (e4 m').trans q.1⟩
      · subst z; exact ⟨n.2, (e6 m').trans q.2⟩
  · intro m' b' z hz
    rw [e47]
    by_cases k : m' < T 111 0 29
    · simp only [k, if_true] at hz; exact b m' b' z hz
    · simp [k] at hz
  · intro m' b'
    by_cases k : m' < T 111 0 29
    · simp only [k, if_true]; exact c m' b'
    · simp [k]
  · intro m1 b1 m2 b2 z h1 h2
    by_cases k : m1 < T 111 0 29
    · by_cases k2 : m2 < T 111 0 29
      · simp only [k, k2, if_true] at h1 h2; exact d m1 b1 m2 b2 z h1 h2
      · simp [k2] at h2
    · simp [k] at h1
theorem rx_nil {T : Zt} {l : List Int} (h : RX_ T l) : RX_ T [] := by
  obtain ⟨L, h1, h2⟩ := h
  exact ⟨L, h1, (fun _ hx => absurd hx List.not_mem_nil), List.nodup_nil, (fun _ _ _ hx => absurd hx List.not_mem_nil)⟩
abbrev cX11_rowAt : ByteArray := prog_13_method_72_code
def yX11_rowAt : MethodName := ⟨RX11, "rowAt", "(II)I"⟩
def zX11_rowAt : Zm := (RX11, cX11_rowAt, 5, (some .int), { frames := 0, cells := 0, slots := 0, locals := 0 })
theorem bk_X11_rowAt_5 : ck_ fX11 (some .int) cX11_rowAt 5 [.iload 4, .iload 2, .if_icmp .ge 24, .aload 0, .tableswitch 0 11 52 #[], .iload 3, .iaload, .istore 3, .iinc 4 1, .goto 5] 24 = true := qck_r (nn_ _) (by decide +kernel)
theorem bs_X11_rowAt_5 {P : Zt → Option Zv → Prop} (K : Int → Zl → List Zv → Zt → Prop) : sx_ K P [.iload 4, .iload 2, .if_icmp .ge 24, .aload 0, .tableswitch 0 11 52 #[], .iload 3, .iaload, .istore 3, .iinc 4 1, .goto 5] 24 = x_iload 4 (x_iload 2 (x_if_icmp .ge 24 K (x_aload 0 (x_g1 111 252 (x_iload 3 (x_iaload (x_istore 3 (x_iinc 4 1 (x_goto 5 K))))))))) := ((xe_iload 4).trans (congrArg (x_iload 4) ((xe_iload 2).trans (congrArg (x_iload 2) ((xe_if_icmp .ge 24).trans (congrArg (x_if_icmp .ge 24 K) ((xe_aload 0).trans (congrArg (x_aload 0) ((xe_g1 (kk := 111) rfl tl_11_52).trans (congrArg (x_g1 111 252) ((xe_iload 3).trans (congrArg (x_iload 3) ((xe_iaload).trans (congrArg (x_iaload) ((xe_istore 3).trans (congrArg (x_istore 3) ((xe_iinc 4 1).trans (congrArg (x_iinc 4 1) (xe_goto 5)))))))))))))))))))
theorem bk_X11_rowAt_24 : ck_ fX11 (some .int) cX11_rowAt 24 [.iload 3, .ireturn] 26 = true := qck_r (nn_ _) (by decide +kernel)
theorem bs_X11_rowAt_24 {P : Zt → Option Zv → Prop} (K : Int → Zl → List Zv → Zt → Prop) : sx_ K P [.iload 3, .ireturn] 26 = x_iload 3 (x_ireturn P) := ((xe_iload 3).trans (congrArg (x_iload 3) (xe_ireturn)))
theorem bk_X11_rowAt_0 : ck_ fX11 (some .int) cX11_rowAt 0 [.iload 1, .istore 3, .iconst 0, .istore 4] 5 = true := qck_r (nn_ _) (by decide +kernel)
theorem bs_X11_rowAt_0 {P : Zt → Option Zv → Prop} (K : Int → Zl → List Zv → Zt → Prop) : sx_ K P [.iload 1, .istore 3, .iconst 0, .istore 4] 5 = x_iload 1 (x_istore 3 (x_iconst 0 (x_istore 4 (K 5)))) := ((xe_iload 1).trans (congrArg (x_iload 1) ((xe_istore 3).trans (congrArg (x_istore 3) ((xe_iconst 0).trans (congrArg (x_iconst 0) ((xe_istore 4).trans (congrArg (x_istore 4) xe_nil))))))))
abbrev po_X11_rowAt (T : Zt) (l : List Int) (f k : Int) : Zt → Option Zv → Prop := fun T' r => T = T' ∧ ∃ x : Int, r = some (vI x) ∧ l[k.toNat]? = some x ∧ 0 ≤ x ∧ x < 3000
set_option maxHeartbeats 4000000 in
theorem ct_X11_rowAt {T : Zt} {l : List Int} {f k : Int} (hl : lk_ T f l) (hk : 0 ≤ k ∧ k < (l.length : Int)) : Ct_ yX11_rowAt zX11_rowAt T [vR 111 0, vI f, vI k] (po_X11_rowAt T l f k) := by
  refine ct_of pn_11 rfl rfl (Nat.le_of_ble_eq_true rfl) (fun hT hav => ?_)
  have hr_f : -2147483648 ≤ f ∧ f ≤ 2147483647 := hav (vI f) (by simp)
  have hr_k : -2147483648 ≤ k ∧ k ≤ 2147483647 := hav (vI k) (by simp)
  have hz : zX11_rowAt.2.2.2.1 = some .boolean → ∀ (T' : Zt) (x : Int), po_X11_rowAt T l f k T' (some (vI x)) → 0 ≤ x ∧ x ≤ 1 := fun h => by cases h
  show J_ zX11_rowAt T (po_X11_rowAt T l f k) 0 0 0 [some (vR 111 0), some (vI f), some (vI k), none, none] [] T
  have c_5 : ∀ (nn : Nat) (w : Int) (i : Int), ((k - i).toNat) ≤ nn → (0 ≤ i ∧ i ≤ k) → (lk_ T w (l.drop i.toNat)) → J_ zX11_rowAt T (po_X11_rowAt T l f k) 0 0 5 [some (vR 111 0), some (vI f), some (vI k), some (vI w), some (vI i)] [] T := by
    intro nn
    induction nn using Nat.strongRecOn with
    | _ nn ih_5 =>
      intro w i hm_5 i1 i2
      refine j_blx (F := fX11) tb_X11 (nn_ _) bk_X11_rowAt_5 bs_X11_rowAt_5 hz (fun K hK => ?_)
      refine And.intro (fun c1 => ?_) (fun c1 => ?_)
      · refine hK 24 _ [] T ?_
        refine j_blx (F := fX11) tb_X11 (nn_ _) bk_X11_rowAt_24 bs_X11_rowAt_24 hz (fun K hK => ?_)
        refine (show po_X11_rowAt T l f k T (some (vI w)) from ?_)
        exact ⟨rfl, _, rfl, lk_g (by omega) (by omega) (by rw [show k = i by omega]; exact i2)⟩
      · have hw := lk_s i1.1 (by omega) i2
        refine ix_i (by omega) ?_
        intro b2 b2b
        refine rg_i (by omega) ?_
        refine hK 5 [some (vR 111 0), some (vI f), some (vI k), some (vI (T 252 0 w)), some (vI (i + 1))] [] T ?_
        refine ih_5 _ ?_ (T 252 0 w) (i + 1) (Nat.le_refl _) ?_ ?_
        · omega
        · omega
        · exact hw.2
  refine j_blx (F := fX11) tb_X11 (nn_ _) bk_X11_rowAt_0 bs_X11_rowAt_0 hz (fun K hK => ?_)
  refine hK 5 [some (vR 111 0), some (vI f), some (vI k), some (vI f), some (vI 0)] [] T ?_
  refine c_5 _ f 0 (Nat.le_refl _) ?_ ?_
  · omega
  · exact hl
abbrev cX11_putBehind : ByteArray := prog_13_method_73_code
def yX11_putBehind : MethodName := ⟨RX11, "putBehind", "(IIZ)V"⟩
def zX11_putBehind : Zm := (RX11, cX11_putBehind, 5, none, { frames := 1, cells := 0, slots := 0, locals := 24 })
theorem bk_X11_putBehind_0 : ck_ fX11 none cX11_putBehind 0 [.iload 3, .ifCond .eq 13, .aload 0, .tableswitch 0 11 56 #[], .iload 1, .iaload, .goto 19] 13 = true := qck_r (nn_ _) (by decide +kernel)
theorem bs_X11_putBehind_0 {P : Zt → Option Zv → Prop} (K : Int → Zl → List Zv → Zt → Prop) : sx_ K P [.iload 3, .ifCond .eq 13, .aload 0, .tableswitch 0 11 56 #[], .iload 1, .iaload, .goto 19] 13 = x_iload 3 (x_ifCond .eq 13 K (x_aload 0 (x_g1 111 256 (x_iload 1 (x_iaload (x_goto 19 K)))))) := ((xe_iload 3).trans (congrArg (x_iload 3) ((xe_ifCond .eq 13).trans (congrArg (x_ifCond .eq 13 K) ((xe_aload 0).trans (congrArg (x_aload 0) ((xe_g1 (kk := 111) rfl tl_11_56).trans (congrArg (x_g1 111 256) ((xe_iload 1).trans (congrArg (x_iload 1) ((xe_iaload).trans (congrArg (x_iaload) (xe_goto 19)))))))))))))
theorem bk_X11_putBehind_13 : ck_ fX11 none cX11_putBehind 13 [.aload 0, .tableswitch 0 11 54 #[], .iload 1, .iaload, .istore 4, .aload 0, .tableswitch 0 11 52 #[], .iload 2, .iconst (-1), .iastore, .iload 4, .ifCond .le 69, .aload 0, .tableswitch 0 11 52 #[], .aload 0, .iload 3, .ifCond .eq 51, .aload 0, .tableswitch 0 11 55 #[], .iload 1, .iaload, .goto 57] 51 = true := qck_r (nn_ _) (by decide +kernel)
theorem bs_X11_putBehind_13 {P : Zt → Option Zv → Prop} (K : Int → Zl → List Zv → Zt → Prop) : sx_ K P [.aload 0, .tableswitch 0 11 54 #[], .iload 1, .iaload, .istore 4, .aload 0, .tableswitch 0 11 52 #[], .iload 2, .iconst (-1), .iastore, .iload 4, .ifCond .le 69, .aload 0, .tableswitch 0 11 52 #[], .aload 0, .iload 3, .ifCond .eq 51, .aload 0, .tableswitch 0 11 55 #[], .iload 1, .iaload, .goto 57] 51 = x_aload 0 (x_g1 111 254 (x_iload 1 (x_iaload (x_istore 4 (x_aload 0 (x_g1 111 252 (x_iload 2 (x_iconst (-1) (x_iastore (x_iload 4 (x_ifCond .le 69 K (x_aload 0 (x_g1 111 252 (x_aload 0 (x_iload 3 (x_ifCond .eq 51 K (x_aload 0 (x_g1 111 255 (x_iload 1 (x_iaload (x_goto 57 K))))))))))))))))))))) := ((xe_aload 0).trans (congrArg (x_aload 0) ((xe_g1 (kk := 111) rfl tl_11_54).trans (congrArg (x_g1 111 254) ((xe_iload 1).trans (congrArg (x_iload 1) ((xe_iaload).trans (congrArg (x_iaload) ((xe_istore 4).trans (congrArg (x_istore 4) ((xe_aload 0).trans (congrArg (x_aload 0) ((xe_g1 (kk := 111) rfl tl_11_52).trans (congrArg (x_g1 111 252) ((xe_iload 2).trans (congrArg (x_iload 2) ((xe_iconst (-1)).trans (congrArg (x_iconst (-1)) ((xe_iastore).trans (congrArg (x_iastore) ((xe_iload 4).trans (congrArg (x_iload 4) ((xe_ifCond .le 69).trans (congrArg (x_ifCond .le 69 K) ((xe_aload 0).trans (congrArg (x_aload 0) ((xe_g1 (kk := 111) rfl tl_11_52).trans (congrArg (x_g1 111 252) ((xe_aload 0).trans (congrArg (x_aload 0) ((xe_iload 3).trans (congrArg (x_iload 3) ((xe_ifCond .eq 51).trans (congrArg (x_ifCond .eq 51 K) ((xe_aload 0).trans (congrArg (x_aload 0) ((xe_g1 (kk := 111) rfl tl_11_55).trans (congrArg (x_g1 111 255) ((xe_iload 1).trans (congrArg (x_iload 1) ((xe_iaload).trans (congrArg (x_iaload) (xe_goto 57)))))))))))))))))))))))))))))))))))))))))))
theorem bk_X11_putBehind_69 : ck_ fX11 none cX11_putBehind 69 [.iload 3, .ifCond .eq 83, .aload 0, .tableswitch 0 11 55 #[], .iload 1, .iload 2, .iastore, .goto 90] 83 = true := qck_r (nn_ _) (by decide +kernel)
theorem bs_X11_putBehind_69 {P : Zt → Option Zv → Prop} (K : Int → Zl → List Zv → Zt → Prop) : sx_ K P [.iload 3, .ifCond .eq 83, .aload 0, .tableswitch 0 11 55 #[], .iload 1, .iload 2, .iastore, .goto 90] 83 = x_iload 3 (x_ifCond .eq 83 K (x_aload 0 (x_g1 111 255 (x_iload 1 (x_iload 2 (x_iastore (x_goto 90 K))))))) := ((xe_iload 3).trans (congrArg (x_iload 3) ((xe_ifCond .eq 83).trans (congrArg (x_ifCond .eq 83 K) ((xe_aload 0).trans (congrArg (x_aload 0) ((xe_g1 (kk := 111) rfl tl_11_55).trans (congrArg (x_g1 111 255) ((xe_iload 1).trans (congrArg (x_iload 1) ((xe_iload 2).trans (congrArg (x_iload 2) ((xe_iastore).trans (congrArg (x_iastore) (xe_goto 90)))))))))))))))
theorem bk_X11_putBehind_83 : ck_ fX11 none cX11_putBehind 83 [.aload 0, .tableswitch 0 11 53 #[], .iload 1, .iload 2, .iastore, .aload 0, .tableswitch 0 11 56 #[], .iload 1, .dup2, .iaload, .iload 3, .ifCond .eq 105, .iconst 1, .goto 106] 105 = true := qck_r (nn_ _) (by decide +kernel)
theorem bs_X11_putBehind_83 {P : Zt → Option Zv → Prop} (K : Int → Zl → List Zv → Zt → Prop) : sx_ K P [.aload 0, .tableswitch 0 11 53 #[], .iload 1, .iload 2, .iastore, .aload 0, .tableswitch 0 11 56 #[], .iload 1, .dup2, .iaload, .iload 3, .ifCond .eq 105, .iconst 1, .goto 106] 105 = x_aload 0 (x_g1 111 253 (x_iload 1 (x_iload 2 (x_iastore (x_aload 0 (x_g1 111 256 (x_iload 1 (x_dup2 (x_iaload (x_iload 3 (x_ifCond .eq 105 K (x_iconst 1 (x_goto 106 K))))))))))))) := ((xe_aload 0).trans (congrArg (x_aload 0) ((xe_g1 (kk := 111) rfl tl_11_53).trans (congrArg (x_g1 111 253) ((xe_iload 1).trans (congrArg (x_iload 1) ((xe_iload 2).trans (congrArg (x_iload 2) ((xe_iastore).trans (congrArg (x_iastore) ((xe_aload 0).trans (congrArg (x_aload 0) ((xe_g1 (kk := 111) rfl tl_11_56).trans (congrArg (x_g1 111 256) ((xe_iload 1).trans (congrArg (x_iload 1) ((xe_dup2).trans (congrArg (x_dup2) ((xe_iaload).trans (congrArg (x_iaload) ((xe_iload 3).trans (congrArg (x_iload 3) ((xe_ifCond .eq 105).trans (congrArg (x_ifCond .eq 105 K) ((xe_iconst 1).trans (congrArg (x_iconst 1) (xe_goto 106)))))))))))))))))))))))))))
theorem bk_X11_putBehind_105 : ck_ fX11 none cX11_putBehind 105 [.iconst 0, .iadd, .iastore, .aload 0, .tableswitch 0 11 54 #[], .iload 1, .dup2, .iaload, .iload 3, .ifCond .eq 123, .iconst 0, .goto 124] 123 = true := qck_r (nn_ _) (by decide +kernel)
theorem bs_X11_putBehind_105 {P : Zt → Option Zv → Prop} (K : Int → Zl → List Zv → Zt → Prop) : sx_ K P [.iconst 0, .iadd, .iastore, .aload 0, .tableswitch 0 11 54 #[], .iload 1, .dup2, .iaload, .iload 3, .ifCond .eq 123, .iconst 0, .goto 124] 123 = x_iconst 0 (x_iadd (x_iastore (x_aload 0 (x_g1 111 254 (x_iload 1 (x_dup2 (x_iaload (x_iload 3 (x_ifCond .eq 123 K (x_iconst 0 (x_goto 124 K))))))))))) := ((xe_iconst 0).trans (congrArg (x_iconst 0) ((xe_iadd).trans (congrArg (x_iadd) ((xe_iastore).trans (congrArg (x_iastore) ((xe_aload 0).trans (congrArg (x_aload 0) ((xe_g1 (kk := 111) rfl tl_11_54).trans (congrArg (x_g1 111 254) ((xe_iload 1).trans (congrArg (x_iload 1) ((xe_dup2).trans (congrArg (x_dup2) ((xe_iaload).trans (congrArg (x_iaload) ((xe_iload 3).trans (congrArg (x_iload 3) ((xe_ifCond .eq 123).trans (congrArg (x_ifCond .eq 123 K) ((xe_iconst 0).trans (congrArg (x_iconst 0) (xe_goto 124)))))))))))))))))))))))
theorem bk_X11_putBehind_123 : ck_ fX11 none cX11_putBehind 123 [.iconst 1, .iadd, .iastore, .return_] 127 = true := qck_r (nn_ _) (by decide +kernel)
theorem bs_X11_putBehind_123 {P : Zt → Option Zv → Prop} (K : Int → Zl → List Zv → Zt → Prop) : sx_ K P [.iconst 1, .iadd, .iastore, .return_] 127 = x_iconst 1 (x_iadd (x_iastore (x_return_ P))) := ((xe_iconst 1).trans (congrArg (x_iconst 1) ((xe_iadd).trans (congrArg (x_iadd) ((xe_iastore).trans (congrArg (x_iastore) (xe_return_)))))))
theorem bk_X11_putBehind_51 : ck_ fX11 none cX11_putBehind 51 [.aload 0, .tableswitch 0 11 53 #[], .iload 1, .iaload, .iload 4, .iconst 1, .isub] 61 = true := qck_r (nn_ _) (by decide +kernel)
theorem bs_X11_putBehind_51 {P : Zt → Option Zv → Prop} (K : Int → Zl → List Zv → Zt → Prop) : sx_ K P [.aload 0, .tableswitch 0 11 53 #[], .iload 1, .iaload, .iload 4, .iconst 1, .isub] 61 = x_aload 0 (x_g1 111 253 (x_iload 1 (x_iaload (x_iload 4 (x_iconst 1 (x_isub (K 61))))))) := ((xe_aload 0).trans (congrArg (x_aload 0) ((xe_g1 (kk := 111) rfl tl_11_53).trans (congrArg (x_g1 111 253) ((xe_iload 1).trans (congrArg (x_iload 1) ((xe_iaload).trans (congrArg (x_iaload) ((xe_iload 4).trans (congrArg (x_iload 4) ((xe_iconst 1).trans (congrArg (x_iconst 1) ((xe_isub).trans (congrArg (x_isub) xe_nil))))))))))))))
set_option maxRecDepth 100000 in
theorem cl_X11_456 : cv_ RX11 456 yX11_rowAt zX11_rowAt 11 2 := ⟨gi_V (lw_b9 66 (by decide +kernel) rfl : Cond.methodLink RX11 456 yX11_rowAt ∈ lw_g) (lw_b9 68 (by decide +kernel) rfl : Cond.instanceMethod yX11_rowAt ∈ lw_g) (lw_sel 58 rfl : Cond.selects yX11_rowAt.cls yX11_rowAt yX11_rowAt ∈ lw_g) (lw_b1 10 (by decide +kernel) rfl : Cond.initialized yX11_rowAt.cls ∈ lw_g) (lw_b9 69 rfl rfl : Cond.code yX11_rowAt cX11_rowAt 5 (some .int) ∈ lw_g), ⟨by decide, by decide, by decide +kernel⟩, ⟨_, _, rfl⟩⟩
theorem bk_X11_putBehind_64 : ck_ fX11 none cX11_putBehind 64 [.iload 2, .iastore, .goto 90] 69 = true := qck_r (nn_ _) (by decide +kernel)
theorem bs_X11_putBehind_64 {P : Zt → Option Zv → Prop} (K : Int → Zl → List Zv → Zt → Prop) : sx_ K P [.iload 2, .iastore, .goto 90] 69 = x_iload 2 (x_iastore (x_goto 90 K)) := ((xe_iload 2).trans (congrArg (x_iload 2) ((xe_iastore).trans (congrArg (x_iastore) (xe_goto 90)))))
theorem bk_X11_putBehind_90 : ck_ fX11 none cX11_putBehind 90 [.aload 0, .tableswitch 0 11 56 #[], .iload 1, .dup2, .iaload, .iload 3, .ifCond .eq 105, .iconst 1, .goto 106] 105 = true := qck_r (nn_ _) (by decide +kernel)
theorem bs_X11_putBehind_90 {P : Zt → Option Zv → Prop} (K : Int → Zl → List Zv → Zt → Prop) : sx_ K P [.aload 0, .tableswitch 0 11 56 #[], .iload 1, .dup2, .iaload, .iload 3, .ifCond .eq 105, .iconst 1, .goto 106] 105 = x_aload 0 (x_g1 111 256 (x_iload 1 (x_dup2 (x_iaload (x_iload 3 (x_ifCond .eq 105 K (x_iconst 1 (x_goto 106 K)))))))) := ((xe_aload 0).trans (congrArg (x_aload 0) ((xe_g1 (kk := 111) rfl tl_11_56).trans (congrArg (x_g1 111 256) ((xe_iload 1).trans (congrArg (x_iload 1) ((xe_dup2).trans (congrArg (x_dup2) ((xe_iaload).trans (congrArg (x_iaload) ((xe_iload 3).trans (congrArg (x_iload 3) ((xe_ifCond .eq 105).trans (congrArg (x_ifCond .eq 105 K) ((xe_iconst 1).trans (congrArg (x_iconst 1) (xe_goto 106)))))))))))))))))
abbrev po_X11_putBehind_0 (T : Zt) (rest : List Int) (m x : Int) : Zt → Option Zv → Prop := fun T' r => r = none ∧ fr_ [(252, []), (253, []), (254, []), (256, [])] T T' ∧ (RX_ T' rest ∧ (∀ z ∈ rest, T' 252 0 z = T 252 0 z) ∧ T' 254 0 m = T 254 0 m + 1 ∧ (∀ j, j ≠ m → T' 254 0 j = T 254 0 j) ∧ T' 254 0 m ≤ 3000 ∧ ∀ j, j ≠ m → T' 256 0 j = T 256 0 j)
set_option maxHeartbeats 4000000 in
theorem ct_X11_putBehind_0 {T : Zt} {rest : List Int} {m x : Int} (h1 : 0 ≤ m ∧ m < T 111 0 29) (hx : RX_ T (x :: rest)) : Ct_ yX11_putBehind zX11_putBehind T [vR 111 0, vI m, vI x, vI 0] (po_X11_putBehind_0 T rest m x) := by
  refine ct_of pn_11 rfl rfl (Nat.le_of_ble_eq_true rfl) (fun hT hav => ?_)
  have hr_m : -2147483648 ≤ m ∧ m ≤ 2147483647 := hav (vI m) (by simp)
  have hr_x : -2147483648 ≤ x ∧ x ≤ 2147483647 := hav (vI x) (by simp)
  have hz : zX11_putBehind.2.2.2.1 = some .boolean → ∀ (T' : Zt) (x : Int), po_X11_putBehind_0 T rest m x T' (some (vI x)) → 0 ≤ x ∧ x ≤ 1 := fun h => by cases h
  have hb_29 : 0 ≤ T 111 0 29 ∧ T 111 0 29 ≤ 400 := bd_f hT 111 29 (by decide +kernel : (tf_ 111)[29]? = some (0, 0, 0, 400)) 0
  have hb_47 : 0 ≤ T 111 0 47 ∧ T 111 0 47 ≤ 3000 := bd_f hT 111 47 (by decide +kernel : (tf_ 111)[47]? = some (0, 0, 0, 3000)) 0
  obtain ⟨L, hB, hR⟩ := hx
  have hlm : lk_ T (T 253 0 m) (L m 0) ∧ T 254 0 m = ((L m 0).length : Int) := hB.1 m 0 (by omega) (by omega) (by decide) (by decide)
  have hxx := hR.1 x List.mem_cons_self
  have hxn : x ∉ L m 0 := hR.2.2 m 0 x List.mem_cons_self
  have hln := nd_len (l := x :: L m 0) (by omega) (List.forall_mem_cons.mpr ⟨hxx, hB.2.1 m 0⟩) (List.nodup_cons.mpr ⟨hxn, hB.2.2.1 m 0⟩)
  rw [List.length_cons] at hln
  show J_ zX11_putBehind T (po_X11_putBehind_0 T rest m x) 0 0 0 [some (vR 111 0), some (vI m), some (vI x), some (vI 0), none] [] T
  refine j_blx (F := fX11) tb_X11 (nn_ _) bk_X11_putBehind_0 bs_X11_putBehind_0 hz (fun K hK => ?_)
  refine And.intro (fun c1 => ?_) (fun c1 => ?_)
  · refine hK 13 _ [] T ?_
    refine j_blx (F := fX11) tb_X11 (nn_ _) bk_X11_putBehind_13 bs_X11_putBehind_13 hz (fun K hK => ?_)
    refine ix_i (by omega) ?_
    intro b2 b2b
    refine iy_i (by omega) (by omega) ?_
    refine x_nm (fun U3 hU3 => ?_)
    have e4 := up_f hU3
    refine And.intro (fun c5 => ?_) (fun c5 => ?_)
    · refine hK 69 [some (vR 111 0), some (vI m), some (vI x), some (vI 0), some (vI (T 254 0 m))] [] U3 ?_
      refine j_blx (F := fX11) tb_X11 (nn_ _) bk_X11_putBehind_69 bs_X11_putBehind_69 hz (fun K hK => ?_)
      refine And.intro (fun c6 => ?_) (fun c6 => ?_)
      · refine hK 83 _ [] U3 ?_
        refine j_blx (F := fX11) tb_X11 (nn_ _) bk_X11_putBehind_83 bs_X11_putBehind_83 hz (fun K hK => ?_)
        refine iy_i (by omega) (by omega) ?_
        refine x_nm (fun U7 hU7 => ?_)
        have e8 := up_f hU7
        refine ix_i (by omega) ?_
        intro b9 b9b
        have e10 : U7 256 0 m = T 256 0 m := (up_k hU7 (by exact Nat.ne_of_beq_eq_false rfl) 0 m).trans (up_k hU3 (by exact Nat.ne_of_beq_eq_false rfl) 0 m)
        rw [e10] at b9 b9b ⊢
        refine And.intro (fun c11 => ?_) (fun c11 => ?_)
        · refine hK 105 _ [vI (T 256 0 m), vI m, vR 256 0] U7 ?_
          refine j_blx (F := fX11) tb_X11 (nn_ _) bk_X11_putBehind_105 bs_X11_putBehind_105 hz (fun K hK => ?_)
          refine rg_i (by omega) ?_
          refine iy_i (by omega) (by omega) ?_
          refine x_nm (fun U12 hU12 => ?_)
          have e13 := up_f hU12
          refine ix_i (by omega) ?_
          intro b14 b14b
          have e15 : U12 254 0 m = T 254 0 m := (up_k hU12 (by exact Nat.ne_of_beq_eq_false rfl) 0 m).trans ((up_k hU7 (by exact Nat.ne_of_beq_eq_false rfl) 0 m).trans (up_k hU3 (by exact Nat.ne_of_beq_eq_false rfl) 0 m))
          rw [e15] at b14 b14b ⊢
          refine And.intro (fun c16 => ?_) (fun c16 => ?_)
          · refine hK 123 _ [vI (T 254 0 m), vI m, vR 254 0] U12 ?_
            refine j_blx (F := fX11) tb_X11 (nn_ _) bk_X11_putBehind_123 bs_X11_putBehind_123 hz (fun K hK => ?_)
            refine rg_i (by omega) ?_
            refine iy_i (by omega) (by omega) ?_
            refine x_nm (fun U17 hU17 => ?_)
            have e18 := up_f hU17
            refine (show po_X11_putBehind_0 T rest m x U17 (none) from ?_)
            have e19 : U17 254 0 m = (T 254 0 m) + 1 := up_f hU17
            have fz : fr_ [(254, []), (256, []), (253, []), (252, [])] T U17 := fr_u (fr_u (fr_u (fr_u (fr_0 _ _) hU3 rfl) hU7 rfl) hU12 rfl) hU17 rfl
            have eo : ∀ j, U17 256 0 j = T 256 0 j := fun j => by
              by_cases z : j = m
              · rw [z, up_k hU17 (by exact Nat.ne_of_beq_eq_false rfl) 0 m, up_f hU12]; omega
              · exact (up_k hU17 (by exact Nat.ne_of_beq_eq_false rfl) 0 j).trans ((up_g hU12 (fun q => z q.2.2)).trans ((up_k hU7 (by exact Nat.ne_of_beq_eq_false rfl) 0 j).trans (up_k hU3 (by exact Nat.ne_of_beq_eq_false rfl) 0 j)))
            have ek : U17 254 0 m = T 254 0 m + 1 := by
              rw [up_f hU17]
            have e3 : U17 252 0 x = -1 := ((up_k hU17 (by exact Nat.ne_of_beq_eq_false rfl) 0 x).trans ((up_k hU12 (by exact Nat.ne_of_beq_eq_false rfl) 0 x).trans (up_k hU7 (by exact Nat.ne_of_beq_eq_false rfl) 0 x))).trans (up_f hU3)
            have ef : ∀ m' b', 0 ≤ b' → b' ≤ 1 → ¬ (m' = m ∧ b' = 0) → U17 (kf_ b') 0 m' = T (kf_ b') 0 m' ∧ U17 (km_ b') 0 m' = T (km_ b') 0 m' := by
              intro m' b' a c n
              rcases (by omega : b' = 0 ∨ b' = 1) with z | z
              · subst z; exact ⟨(up_k hU17 (by exact Nat.ne_of_beq_eq_false rfl) 0 (m')).trans ((up_k hU12 (by exact Nat.ne_of_beq_eq_false rfl) 0 (m')).trans ((up_g hU7 (fun q => n ⟨q.2.2, rfl⟩)).trans (up_k hU3 (by exact Nat.ne_of_beq_eq_false rfl) 0 (m')))), (up_g hU17 (fun q => n ⟨q.2.2, rfl⟩)).trans ((up_k hU12 (by exact Nat.ne_of_beq_eq_false rfl) 0 (m')).trans ((up_k hU7 (by exact Nat.ne_of_beq_eq_false rfl) 0 (m')).trans (up_k hU3 (by exact Nat.ne_of_beq_eq_false rfl) 0 (m'))))⟩
              · subst z; exact ⟨(up_k hU17 (by exact Nat.ne_of_beq_eq_false rfl) 0 (m')).trans ((up_k hU12 (by exact Nat.ne_of_beq_eq_false rfl) 0 (m')).trans ((up_k hU7 (by exact Nat.ne_of_beq_eq_false rfl) 0 (m')).trans (up_k hU3 (by exact Nat.ne_of_beq_eq_false rfl) 0 (m')))), eo m'⟩
            have hrp := rx_put (b := 0) (by decide) h1 hb_47.2 hB hR (fz 111 0 29 rfl) (fz 111 0 47 rfl) ef ek e3 (Or.inl ⟨List.eq_nil_of_length_eq_zero (by omega), ((up_k hU17 (by exact Nat.ne_of_beq_eq_false rfl) 0 m).trans (up_k hU12 (by exact Nat.ne_of_beq_eq_false rfl) 0 m)).trans (up_f hU7), fun z a => (up_k hU17 (by exact Nat.ne_of_beq_eq_false rfl) 0 z).trans ((up_k hU12 (by exact Nat.ne_of_beq_eq_false rfl) 0 z).trans ((up_k hU7 (by exact Nat.ne_of_beq_eq_false rfl) 0 z).trans (up_g hU3 (fun q => a q.2.2))))⟩)
            exact ⟨rfl, fr_s fz rfl, hrp.1, hrp.2, ek, fun j hj => (up_g hU17 (fun q => hj q.2.2)).trans ((up_k hU12 (by exact Nat.ne_of_beq_eq_false rfl) 0 j).trans ((up_k hU7 (by exact Nat.ne_of_beq_eq_false rfl) 0 j).trans (up_k hU3 (by exact Nat.ne_of_beq_eq_false rfl) 0 j))), by omega, fun j _ => eo j⟩
          · exact absurd c16 (by decide)
        · exact absurd c11 (by decide)
      · exact absurd c6 (by decide)
    · refine And.intro (fun c20 => ?_) (fun c20 => ?_)
      · refine hK 51 _ [vR 111 0, vR 252 0] U3 ?_
        refine j_blx (F := fX11) tb_X11 (nn_ _) bk_X11_putBehind_51 bs_X11_putBehind_51 hz (fun K hK => ?_)
        refine ix_i (by omega) ?_
        intro b21 b21b
        have e22 : U3 253 0 m = T 253 0 m := up_k hU3 (by exact Nat.ne_of_beq_eq_false rfl) 0 m
        rw [e22] at b21 b21b ⊢
        refine rg_i (by omega) ?_
        refine hK 61 _ [vI ((T 254 0 m) - 1), vI (T 253 0 m), vR 111 0, vR 252 0] U3 ?_
        refine j_callV (y := yX11_rowAt) (Yc := zX11_rowAt) (rest := [vR 252 0]) [vI (T 253 0 m), vI ((T 254 0 m) - 1)] (ct_X11_rowAt (T := U3) (l := L m 0) (by exact lk_e hlm.1 (fun z hz => up_g hU3 (fun q => hxn (q.2.2 ▸ hz)))) (by omega)) cl_X11_456 (qd_c (by decide +kernel)) (nn_ _) rfl (rf_of rfl) (Nat.le_of_ble_eq_true rfl) (Nat.le_of_ble_eq_true rfl) (Nat.le_of_ble_eq_true rfl) rfl ?_
        rintro _ _ ⟨rfl, x23, rfl, hx23⟩
        show J_ zX11_putBehind T (po_X11_putBehind_0 T rest m x) 0 0 64 _ [vI x23, vR 252 0] U3
        have hyl : (L m 0).getLast? = some x23 := by
          rw [List.getLast?_eq_getElem?, show (L m 0).length - 1 = (T 254 0 m - 1).toNat by omega]; exact hx23.1
        have hyn : x ≠ x23 := fun e => hxn (by rw [e]; exact List.mem_of_getLast? hyl)
        refine j_blx (F := fX11) tb_X11 (nn_ _) bk_X11_putBehind_64 bs_X11_putBehind_64 hz (fun K hK => ?_)
        refine iy_i (by omega) (by omega) ?_
        refine x_nm (fun U24 hU24 => ?_)
        have e25 := up_f hU24
        refine hK 90 _ [] U24 ?_
        refine j_blx (F := fX11) tb_X11 (nn_ _) bk_X11_putBehind_90 bs_X11_putBehind_90 hz (fun K hK => ?_)
        refine ix_i (by omega) ?_
        intro b26 b26b
        have e27 : U24 256 0 m = T 256 0 m := (up_k hU24 (by exact Nat.ne_of_beq_eq_false rfl) 0 m).trans (up_k hU3 (by exact Nat.ne_of_beq_eq_false rfl) 0 m)
        rw [e27] at b26 b26b ⊢
        refine And.intro (fun c28 => ?_) (fun c28 => ?_)
        · refine hK 105 _ [vI (T 256 0 m), vI m, vR 256 0] U24 ?_
          refine j_blx (F := fX11) tb_X11 (nn_ _) bk_X11_putBehind_105 bs_X11_putBehind_105 hz (fun K hK => ?_)
          refine rg_i (by omega) ?_
          refine iy_i (by omega) (by omega) ?_
          refine x_nm (fun U29 hU29 => ?_)
          have e30 := up_f hU29
          refine ix_i (by omega) ?_
          intro b31 b31b
          have e32 : U29 254 0 m = T 254 0 m := (up_k hU29 (by exact Nat.ne_of_beq_eq_false rfl) 0 m).trans ((up_k hU24 (by exact Nat.ne_of_beq_eq_false rfl) 0 m).trans (up_k hU3 (by exact Nat.ne_of_beq_eq_false rfl) 0 m))
          rw [e32] at b31 b31b ⊢
          refine And.intro (fun c33 => ?_) (fun c33 => ?_)
          · refine hK 123 _ [vI (T 254 0 m), vI m, vR 254 0] U29 ?_
            refine j_blx (F := fX11) tb_X11 (nn_ _) bk_X11_putBehind_123 bs_X11_putBehind_123 hz (fun K hK => ?_)
            refine rg_i (by omega) ?_
            refine iy_i (by omega) (by omega) ?_
            refine x_nm (fun U34 hU34 => ?_)
            have e35 := up_f hU34
            refine (show po_X11_putBehind_0 T rest m x U34 (none) from ?_)
            have e36 : U34 254 0 m = (T 254 0 m) + 1 := up_f hU34
            have fz : fr_ [(254, []), (256, []), (252, [])] T U34 := fr_u (fr_u (fr_u (fr_u (fr_0 _ _) hU3 rfl) hU24 rfl) hU29 rfl) hU34 rfl
            have eo : ∀ j, U34 256 0 j = T 256 0 j := fun j => by
              by_cases z : j = m
              · rw [z, up_k hU34 (by exact Nat.ne_of_beq_eq_false rfl) 0 m, up_f hU29]; omega
              · exact (up_k hU34 (by exact Nat.ne_of_beq_eq_false rfl) 0 j).trans ((up_g hU29 (fun q => z q.2.2)).trans ((up_k hU24 (by exact Nat.ne_of_beq_eq_false rfl) 0 j).trans (up_k hU3 (by exact Nat.ne_of_beq_eq_false rfl) 0 j)))
            have ek : U34 254 0 m = T 254 0 m + 1 := by
              rw [up_f hU34]
            have e3 : U34 252 0 x = -1 := ((up_k hU34 (by exact Nat.ne_of_beq_eq_false rfl) 0 x).trans ((up_k hU29 (by exact Nat.ne_of_beq_eq_false rfl) 0 x).trans (up_g hU24 (fun q => hyn q.2.2)))).trans (up_f hU3)
            have ef : ∀ m' b', 0 ≤ b' → b' ≤ 1 → ¬ (m' = m ∧ b' = 0) → U34 (kf_ b') 0 m' = T (kf_ b') 0 m' ∧ U34 (km_ b') 0 m' = T (km_ b') 0 m' := by
              intro m' b' a c n
              rcases (by omega : b' = 0 ∨ b' = 1) with z | z
              · subst z; exact ⟨(up_k hU34 (by exact Nat.ne_of_beq_eq_false rfl) 0 (m')).trans ((up_k hU29 (by exact Nat.ne_of_beq_eq_false rfl) 0 (m')).trans ((up_k hU24 (by exact Nat.ne_of_beq_eq_false rfl) 0 (m')).trans (up_k hU3 (by exact Nat.ne_of_beq_eq_false rfl) 0 (m')))), (up_g hU34 (fun q => n ⟨q.2.2, rfl⟩)).trans ((up_k hU29 (by exact Nat.ne_of_beq_eq_false rfl) 0 (m')).trans ((up_k hU24 (by exact Nat.ne_of_beq_eq_false rfl) 0 (m')).trans (up_k hU3 (by exact Nat.ne_of_beq_eq_false rfl) 0 (m'))))⟩
              · subst z; exact ⟨(up_k hU34 (by exact Nat.ne_of_beq_eq_false rfl) 0 (m')).trans ((up_k hU29 (by exact Nat.ne_of_beq_eq_false rfl) 0 (m')).trans ((up_k hU24 (by exact Nat.ne_of_beq_eq_false rfl) 0 (m')).trans (up_k hU3 (by exact Nat.ne_of_beq_eq_false rfl) 0 (m')))), eo m'⟩
            have hrp := rx_put (b := 0) (by decide) h1 hb_47.2 hB hR (fz 111 0 29 rfl) (fz 111 0 47 rfl) ef ek e3 (Or.inr ⟨fz 253 0 m rfl, x23, hyl, ((up_k hU34 (by exact Nat.ne_of_beq_eq_false rfl) 0 x23).trans (up_k hU29 (by exact Nat.ne_of_beq_eq_false rfl) 0 x23)).trans (up_f hU24), fun z a b => (up_k hU34 (by exact Nat.ne_of_beq_eq_false rfl) 0 z).trans ((up_k hU29 (by exact Nat.ne_of_beq_eq_false rfl) 0 z).trans ((up_g hU24 (fun q => b q.2.2)).trans (up_g hU3 (fun q => a q.2.2))))⟩)
            exact ⟨rfl, fr_s fz rfl, hrp.1, hrp.2, ek, fun j hj => (up_g hU34 (fun q => hj q.2.2)).trans ((up_k hU29 (by exact Nat.ne_of_beq_eq_false rfl) 0 j).trans ((up_k hU24 (by exact Nat.ne_of_beq_eq_false rfl) 0 j).trans (up_k hU3 (by exact Nat.ne_of_beq_eq_false rfl) 0 j))), by omega, fun j _ => eo j⟩
          · exact absurd c33 (by decide)
        · exact absurd c28 (by decide)
      · exact absurd c20 (by decide)
  · exact absurd c1 (by decide)
theorem bk_X11_putBehind_19 : ck_ fX11 none cX11_putBehind 19 [.istore 4, .aload 0, .tableswitch 0 11 52 #[], .iload 2, .iconst (-1), .iastore, .iload 4, .ifCond .le 69, .aload 0, .tableswitch 0 11 52 #[], .aload 0, .iload 3, .ifCond .eq 51, .aload 0, .tableswitch 0 11 55 #[], .iload 1, .iaload, .goto 57] 51 = true := qck_r (nn_ _) (by decide +kernel)
theorem bs_X11_putBehind_19 {P : Zt → Option Zv → Prop} (K : Int → Zl → List Zv → Zt → Prop) : sx_ K P [.istore 4, .aload 0, .tableswitch 0 11 52 #[], .iload 2, .iconst (-1), .iastore, .iload 4, .ifCond .le 69, .aload 0, .tableswitch 0 11 52 #[], .aload 0, .iload 3, .ifCond .eq 51, .aload 0, .tableswitch 0 11 55 #[], .iload 1, .iaload, .goto 57] 51 = x_istore 4 (x_aload 0 (x_g1 111 252 (x_iload 2 (x_iconst (-1) (x_iastore (x_iload 4 (x_ifCond .le 69 K (x_aload 0 (x_g1 111 252 (x_aload 0 (x_iload 3 (x_ifCond .eq 51 K (x_aload 0 (x_g1 111 255 (x_iload 1 (x_iaload (x_goto 57 K))))))))))))))))) := ((xe_istore 4).trans (congrArg (x_istore 4) ((xe_aload 0).trans (congrArg (x_aload 0) ((xe_g1 (kk := 111) rfl tl_11_52).trans (congrArg (x_g1 111 252) ((xe_iload 2).trans (congrArg (x_iload 2) ((xe_iconst (-1)).trans (congrArg (x_iconst (-1)) ((xe_iastore).trans (congrArg (x_iastore) ((xe_iload 4).trans (congrArg (x_iload 4) ((xe_ifCond .le 69).trans (congrArg (x_ifCond .le 69 K) ((xe_aload 0).trans (congrArg (x_aload 0) ((xe_g1 (kk := 111) rfl tl_11_52).trans (congrArg (x_g1 111 252) ((xe_aload 0).trans (congrArg (x_aload 0) ((xe_iload 3).trans (congrArg (x_iload 3) ((xe_ifCond .eq 51).trans (congrArg (x_ifCond .eq 51 K) ((xe_aload 0).trans (congrArg (x_aload 0) ((xe_g1 (kk := 111) rfl tl_11_55).trans (congrArg (x_g1 111 255) ((xe_iload 1).trans (congrArg (x_iload 1) ((xe_iaload).trans (congrArg (x_iaload) (xe_goto 57)))))))))))))))))))))))))))))))))))
theorem bk_X11_putBehind_106 : ck_ fX11 none cX11_putBehind 106 [.iadd, .iastore, .aload 0, .tableswitch 0 11 54 #[], .iload 1, .dup2, .iaload, .iload 3, .ifCond .eq 123, .iconst 0, .goto 124] 123 = true := qck_r (nn_ _) (by decide +kernel)
theorem bs_X11_putBehind_106 {P : Zt → Option Zv → Prop} (K : Int → Zl → List Zv → Zt → Prop) : sx_ K P [.iadd, .iastore, .aload 0, .tableswitch 0 11 54 #[], .iload 1, .dup2, .iaload, .iload 3, .ifCond .eq 123, .iconst 0, .goto 124] 123 = x_iadd (x_iastore (x_aload 0 (x_g1 111 254 (x_iload 1 (x_dup2 (x_iaload (x_iload 3 (x_ifCond .eq 123 K (x_iconst 0 (x_goto 124 K)))))))))) := ((xe_iadd).trans (congrArg (x_iadd) ((xe_iastore).trans (congrArg (x_iastore) ((xe_aload 0).trans (congrArg (x_aload 0) ((xe_g1 (kk := 111) rfl tl_11_54).trans (congrArg (x_g1 111 254) ((xe_iload 1).trans (congrArg (x_iload 1) ((xe_dup2).trans (congrArg (x_dup2) ((xe_iaload).trans (congrArg (x_iaload) ((xe_iload 3).trans (congrArg (x_iload 3) ((xe_ifCond .eq 123).trans (congrArg (x_ifCond .eq 123 K) ((xe_iconst 0).trans (congrArg (x_iconst 0) (xe_goto 124)))))))))))))))))))))
theorem bk_X11_putBehind_124 : ck_ fX11 none cX11_putBehind 124 [.iadd, .iastore, .return_] 127 = true := qck_r (nn_ _) (by decide +kernel)
theorem bs_X11_putBehind_124 {P : Zt → Option Zv → Prop} (K : Int → Zl → List Zv → Zt → Prop) : sx_ K P [.iadd, .iastore, .return_] 127 = x_iadd (x_iastore (x_return_ P)) := ((xe_iadd).trans (congrArg (x_iadd) ((xe_iastore).trans (congrArg (x_iastore) (xe_return_)))))
theorem bk_X11_putBehind_57 : ck_ fX11 none cX11_putBehind 57 [.iload 4, .iconst 1, .isub] 61 = true := qck_r (nn_ _) (by decide +kernel)
theorem bs_X11_putBehind_57 {P : Zt → Option Zv → Prop} (K : Int → Zl → List Zv → Zt → Prop) : sx_ K P [.iload 4, .iconst 1, .isub] 61 = x_iload 4 (x_iconst 1 (x_isub (K 61))) := ((xe_iload 4).trans (congrArg (x_iload 4) ((xe_iconst 1).trans (congrArg (x_iconst 1) ((xe_isub).trans (congrArg (x_isub) xe_nil))))))
abbrev po_X11_putBehind_1 (T : Zt) (rest : List Int) (m x : Int) : Zt → Option Zv → Prop := fun T' r => r = none ∧ fr_ [(252, []), (255, []), (254, []), (256, [])] T T' ∧ (RX_ T' rest ∧ (∀ z ∈ rest, T' 252 0 z = T 252 0 z) ∧ T' 254 0 m = T 254 0 m + 0 ∧ (∀ j, j ≠ m → T' 254 0 j = T 254 0 j) ∧ T' 254 0 m ≤ 3000 ∧ ∀ j, j ≠ m → T' 256 0 j = T 256 0 j)
set_option maxHeartbeats 4000000 in
theorem ct_X11_putBehind_1 {T : Zt} {rest : List Int} {m x : Int} (h1 : 0 ≤ m ∧ m < T 111 0 29) (hx : RX_ T (x :: rest)) : Ct_ yX11_putBehind zX11_putBehind T [vR 111 0, vI m, vI x, vI 1] (po_X11_putBehind_1 T rest m x) := by
  refine ct_of pn_11 rfl rfl (Nat.le_of_ble_eq_true rfl) (fun hT hav => ?_)
  have hr_m : -2147483648 ≤ m ∧ m ≤ 2147483647 := hav (vI m) (by simp)
  have hr_x : -2147483648 ≤ x ∧ x ≤ 2147483647 := hav (vI x) (by simp)
  have hz : zX11_putBehind.2.2.2.1 = some .boolean → ∀ (T' : Zt) (x : Int), po_X11_putBehind_1 T rest m x T' (some (vI x)) → 0 ≤ x ∧ x ≤ 1 := fun h => by cases h
  have hb_29 : 0 ≤ T 111 0 29 ∧ T 111 0 29 ≤ 400 := bd_f hT 111 29 (by decide +kernel : (tf_ 111)[29]? = some (0, 0, 0, 400)) 0
  have hb_47 : 0 ≤ T 111 0 47 ∧ T 111 0 47 ≤ 3000 := bd_f hT 111 47 (by decide +kernel : (tf_ 111)[47]? = some (0, 0, 0, 3000)) 0
  obtain ⟨L, hB, hR⟩ := hx
  have hlm : lk_ T (T 255 0 m) (L m 1) ∧ T 256 0 m = ((L m 1).length : Int) := hB.1 m 1 (by omega) (by omega) (by decide) (by decide)
  have hxx := hR.1 x List.mem_cons_self
  have hxn : x ∉ L m 1 := hR.2.2 m 1 x List.mem_cons_self
  have hln := nd_len (l := x :: L m 1) (by omega) (List.forall_mem_cons.mpr ⟨hxx, hB.2.1 m 1⟩) (List.nodup_cons.mpr ⟨hxn, hB.2.2.1 m 1⟩)
  rw [List.length_cons] at hln
  show J_ zX11_putBehind T (po_X11_putBehind_1 T rest m x) 0 0 0 [some (vR 111 0), some (vI m), some (vI x), some (vI 1), none] [] T
  refine j_blx (F := fX11) tb_X11 (nn_ _) bk_X11_putBehind_0 bs_X11_putBehind_0 hz (fun K hK => ?_)
  refine And.intro (fun c1 => ?_) (fun c1 => ?_)
  · exact absurd c1 (by decide)
  · refine ix_i (by omega) ?_
    intro b2 b2b
    refine hK 19 _ [vI (T 256 0 m)] T ?_
    refine j_blx (F := fX11) tb_X11 (nn_ _) bk_X11_putBehind_19 bs_X11_putBehind_19 hz (fun K hK => ?_)
    refine iy_i (by omega) (by omega) ?_
    refine x_nm (fun U3 hU3 => ?_)
    have e4 := up_f hU3
    refine And.intro (fun c5 => ?_) (fun c5 => ?_)
    · refine hK 69 [some (vR 111 0), some (vI m), some (vI x), some (vI 1), some (vI (T 256 0 m))] [] U3 ?_
      refine j_blx (F := fX11) tb_X11 (nn_ _) bk_X11_putBehind_69 bs_X11_putBehind_69 hz (fun K hK => ?_)
      refine And.intro (fun c6 => ?_) (fun c6 => ?_)
      · exact absurd c6 (by decide)
      · refine iy_i (by omega) (by omega) ?_
        refine x_nm (fun U7 hU7 => ?_)
        have e8 := up_f hU7
        refine hK 90 _ [] U7 ?_
        refine j_blx (F := fX11) tb_X11 (nn_ _) bk_X11_putBehind_90 bs_X11_putBehind_90 hz (fun K hK => ?_)
        refine ix_i (by omega) ?_
        intro b9 b9b
        have e10 : U7 256 0 m = T 256 0 m := (up_k hU7 (by exact Nat.ne_of_beq_eq_false rfl) 0 m).trans (up_k hU3 (by exact Nat.ne_of_beq_eq_false rfl) 0 m)
        rw [e10] at b9 b9b ⊢
        refine And.intro (fun c11 => ?_) (fun c11 => ?_)
        · exact absurd c11 (by decide)
        · refine hK 106 _ [vI 1, vI (T 256 0 m), vI m, vR 256 0] U7 ?_
          refine j_blx (F := fX11) tb_X11 (nn_ _) bk_X11_putBehind_106 bs_X11_putBehind_106 hz (fun K hK => ?_)
          refine rg_i (by omega) ?_
          refine iy_i (by omega) (by omega) ?_
          refine x_nm (fun U12 hU12 => ?_)
          have e13 := up_f hU12
          refine ix_i (by omega) ?_
          intro b14 b14b
          have e15 : U12 254 0 m = T 254 0 m := (up_k hU12 (by exact Nat.ne_of_beq_eq_false rfl) 0 m).trans ((up_k hU7 (by exact Nat.ne_of_beq_eq_false rfl) 0 m).trans (up_k hU3 (by exact Nat.ne_of_beq_eq_false rfl) 0 m))
          rw [e15] at b14 b14b ⊢
          refine And.intro (fun c16 => ?_) (fun c16 => ?_)
          · exact absurd c16 (by decide)
          · refine hK 124 _ [vI 0, vI (T 254 0 m), vI m, vR 254 0] U12 ?_
            refine j_blx (F := fX11) tb_X11 (nn_ _) bk_X11_putBehind_124 bs_X11_putBehind_124 hz (fun K hK => ?_)
            refine rg_i (by omega) ?_
            refine iy_i (by omega) (by omega) ?_
            refine x_nm (fun U17 hU17 => ?_)
            have e18 := up_f hU17
            refine (show po_X11_putBehind_1 T rest m x U17 (none) from ?_)
            have e19 : U17 254 0 m = (T 254 0 m) + 0 := up_f hU17
            have fz : fr_ [(254, []), (256, []), (255, []), (252, [])] T U17 := fr_u (fr_u (fr_u (fr_u (fr_0 _ _) hU3 rfl) hU7 rfl) hU12 rfl) hU17 rfl
            have eo : ∀ j, U17 254 0 j = T 254 0 j := fun j => by
              by_cases z : j = m
              · rw [z, up_f hU17]; omega
              · exact (up_g hU17 (fun q => z q.2.2)).trans ((up_k hU12 (by exact Nat.ne_of_beq_eq_false rfl) 0 j).trans ((up_k hU7 (by exact Nat.ne_of_beq_eq_false rfl) 0 j).trans (up_k hU3 (by exact Nat.ne_of_beq_eq_false rfl) 0 j)))
            have ek : U17 256 0 m = T 256 0 m + 1 := by
              rw [up_k hU17 (by exact Nat.ne_of_beq_eq_false rfl) 0 m, up_f hU12]
            have e3 : U17 252 0 x = -1 := ((up_k hU17 (by exact Nat.ne_of_beq_eq_false rfl) 0 x).trans ((up_k hU12 (by exact Nat.ne_of_beq_eq_false rfl) 0 x).trans (up_k hU7 (by exact Nat.ne_of_beq_eq_false rfl) 0 x))).trans (up_f hU3)
            have ef : ∀ m' b', 0 ≤ b' → b' ≤ 1 → ¬ (m' = m ∧ b' = 1) → U17 (kf_ b') 0 m' = T (kf_ b') 0 m' ∧ U17 (km_ b') 0 m' = T (km_ b') 0 m' := by
              intro m' b' a c n
              rcases (by omega : b' = 0 ∨ b' = 1) with z | z
              · subst z; exact ⟨(up_k hU17 (by exact Nat.ne_of_beq_eq_false rfl) 0 (m')).trans ((up_k hU12 (by exact Nat.ne_of_beq_eq_false rfl) 0 (m')).trans ((up_k hU7 (by exact Nat.ne_of_beq_eq_false rfl) 0 (m')).trans (up_k hU3 (by exact Nat.ne_of_beq_eq_false rfl) 0 (m')))), eo m'⟩
              · subst z; exact ⟨(up_k hU17 (by exact Nat.ne_of_beq_eq_false rfl) 0 (m')).trans ((up_k hU12 (by exact Nat.ne_of_beq_eq_false rfl) 0 (m')).trans ((up_g hU7 (fun q => n ⟨q.2.2, rfl⟩)).trans (up_k hU3 (by exact Nat.ne_of_beq_eq_false rfl) 0 (m')))), (up_k hU17 (by exact Nat.ne_of_beq_eq_false rfl) 0 (m')).trans ((up_g hU12 (fun q => n ⟨q.2.2, rfl⟩)).trans ((up_k hU7 (by exact Nat.ne_of_beq_eq_false rfl) 0 (m')).trans (up_k hU3 (by exact Nat.ne_of_beq_eq_false rfl) 0 (m'))))⟩
            have hrp := rx_put (b := 1) (by decide) h1 hb_47.2 hB hR (fz 111 0 29 rfl) (fz 111 0 47 rfl) ef ek e3 (Or.inl ⟨List.eq_nil_of_length_eq_zero (by omega), ((up_k hU17 (by exact Nat.ne_of_beq_eq_false rfl) 0 m).trans (up_k hU12 (by exact Nat.ne_of_beq_eq_false rfl) 0 m)).trans (up_f hU7), fun z a => (up_k hU17 (by exact Nat.ne_of_beq_eq_false rfl) 0 z).trans ((up_k hU12 (by exact Nat.ne_of_beq_eq_false rfl) 0 z).trans ((up_k hU7 (by exact Nat.ne_of_beq_eq_false rfl) 0 z).trans (up_g hU3 (fun q => a q.2.2))))⟩)
            have hrn : 0 ≤ T 254 0 m ∧ T 254 0 m ≤ 3000 := bd_a hT 254 (by decide +kernel : ta_ 254 = some (1, some 400, 0, 3000)) 0 (by omega)
            exact ⟨rfl, fr_s fz rfl, hrp.1, hrp.2, by rw [eo m]; omega, fun j _ => eo j, by rw [eo m]; omega, fun j hj => (up_k hU17 (by exact Nat.ne_of_beq_eq_false rfl) 0 j).trans ((up_g hU12 (fun q => hj q.2.2)).trans ((up_k hU7 (by exact Nat.ne_of_beq_eq_false rfl) 0 j).trans (up_k hU3 (by exact Nat.ne_of_beq_eq_false rfl) 0 j)))⟩
    · refine And.intro (fun c20 => ?_) (fun c20 => ?_)
      · exact absurd c20 (by decide)
      · refine ix_i (by omega) ?_
        intro b21 b21b
        have e22 : U3 255 0 m = T 255 0 m := up_k hU3 (by exact Nat.ne_of_beq_eq_false rfl) 0 m
        rw [e22] at b21 b21b ⊢
        refine hK 57 _ [vI (T 255 0 m), vR 111 0, vR 252 0] U3 ?_
        refine j_blx (F := fX11) tb_X11 (nn_ _) bk_X11_putBehind_57 bs_X11_putBehind_57 hz (fun K hK => ?_)
        refine rg_i (by omega) ?_
        refine hK 61 _ [vI ((T 256 0 m) - 1), vI (T 255 0 m), vR 111 0, vR 252 0] U3 ?_
        refine j_callV (y := yX11_rowAt) (Yc := zX11_rowAt) (rest := [vR 252 0]) [vI (T 255 0 m), vI ((T 256 0 m) - 1)] (ct_X11_rowAt (T := U3) (l := L m 1) (by exact lk_e hlm.1 (fun z hz => up_g hU3 (fun q => hxn (q.2.2 ▸ hz)))) (by omega)) cl_X11_456 (qd_c (by decide +kernel)) (nn_ _) rfl (rf_of rfl) (Nat.le_of_ble_eq_true rfl) (Nat.le_of_ble_eq_true rfl) (Nat.le_of_ble_eq_true rfl) rfl ?_
        rintro _ _ ⟨rfl, x23, rfl, hx23⟩
        show J_ zX11_putBehind T (po_X11_putBehind_1 T rest m x) 0 0 64 _ [vI x23, vR 252 0] U3
        have hyl : (L m 1).getLast? = some x23 := by
          rw [List.getLast?_eq_getElem?, show (L m 1).length - 1 = (T 256 0 m - 1).toNat by omega]; exact hx23.1
        have hyn : x ≠ x23 := fun e => hxn (by rw [e]; exact List.mem_of_getLast? hyl)
        refine j_blx (F := fX11) tb_X11 (nn_ _) bk_X11_putBehind_64 bs_X11_putBehind_64 hz (fun K hK => ?_)
        refine iy_i (by omega) (by omega) ?_
        refine x_nm (fun U24 hU24 => ?_)
        have e25 := up_f hU24
        refine hK 90 _ [] U24 ?_
        refine j_blx (F := fX11) tb_X11 (nn_ _) bk_X11_putBehind_90 bs_X11_putBehind_90 hz (fun K hK => ?_)
        refine ix_i (by omega) ?_
        intro b26 b26b
        have e27 : U24 256 0 m = T 256 0 m := (up_k hU24 (by exact Nat.ne_of_beq_eq_false rfl) 0 m).trans (up_k hU3 (by exact Nat.ne_of_beq_eq_false rfl) 0 m)
        rw [e27] at b26 b26b ⊢
        refine And.intro (fun c28 => ?_) (fun c28 => ?_)
        · exact absurd c28 (by decide)
        · refine hK 106 _ [vI 1, vI (T 256 0 m), vI m, vR 256 0] U24 ?_
          refine j_blx (F := fX11) tb_X11 (nn_ _) bk_X11_putBehind_106 bs_X11_putBehind_106 hz (fun K hK => ?_)
          refine rg_i (by omega) ?_
          refine iy_i (by omega) (by omega) ?_
          refine x_nm (fun U29 hU29 => ?_)
          have e30 := up_f hU29
          refine ix_i (by omega) ?_
          intro b31 b31b
          have e32 : U29 254 0 m = T 254 0 m := (up_k hU29 (by exact Nat.ne_of_beq_eq_false rfl) 0 m).trans ((up_k hU24 (by exact Nat.ne_of_beq_eq_false rfl) 0 m).trans (up_k hU3 (by exact Nat.ne_of_beq_eq_false rfl) 0 m))
          rw [e32] at b31 b31b ⊢
          refine And.intro (fun c33 => ?_) (fun c33 => ?_)
          · exact absurd c33 (by decide)
          · refine hK 124 _ [vI 0, vI (T 254 0 m), vI m, vR 254 0] U29 ?_
            refine j_blx (F := fX11) tb_X11 (nn_ _) bk_X11_putBehind_124 bs_X11_putBehind_124 hz (fun K hK => ?_)
            refine rg_i (by omega) ?_
            refine iy_i (by omega) (by omega) ?_
            refine x_nm (fun U34 hU34 => ?_)
            have e35 := up_f hU34
            refine (show po_X11_putBehind_1 T rest m x U34 (none) from ?_)
            have e36 : U34 254 0 m = (T 254 0 m) + 0 := up_f hU34
            have fz : fr_ [(254, []), (256, []), (252, [])] T U34 := fr_u (fr_u (fr_u (fr_u (fr_0 _ _) hU3 rfl) hU24 rfl) hU29 rfl) hU34 rfl
            have eo : ∀ j, U34 254 0 j = T 254 0 j := fun j => by
              by_cases z : j = m
              · rw [z, up_f hU34]; omega
              · exact (up_g hU34 (fun q => z q.2.2)).trans ((up_k hU29 (by exact Nat.ne_of_beq_eq_false rfl) 0 j).trans ((up_k hU24 (by exact Nat.ne_of_beq_eq_false rfl) 0 j).trans (up_k hU3 (by exact Nat.ne_of_beq_eq_false rfl) 0 j)))
            have ek : U34 256 0 m = T 256 0 m + 1 := by
              rw [up_k hU34 (by exact Nat.ne_of_beq_eq_false rfl) 0 m, up_f hU29]
            have e3 : U34 252 0 x = -1 := ((up_k hU34 (by exact Nat.ne_of_beq_eq_false rfl) 0 x).trans ((up_k hU29 (by exact Nat.ne_of_beq_eq_false rfl) 0 x).trans (up_g hU24 (fun q => hyn q.2.2)))).trans (up_f hU3)
            have ef : ∀ m' b', 0 ≤ b' → b' ≤ 1 → ¬ (m' = m ∧ b' = 1) → U34 (kf_ b') 0 m' = T (kf_ b') 0 m' ∧ U34 (km_ b') 0 m' = T (km_ b') 0 m' := by
              intro m' b' a c n
              rcases (by omega : b' = 0 ∨ b' = 1) with z | z
              · subst z; exact ⟨(up_k hU34 (by exact Nat.ne_of_beq_eq_false rfl) 0 (m')).trans ((up_k hU29 (by exact Nat.ne_of_beq_eq_false rfl) 0 (m')).trans ((up_k hU24 (by exact Nat.ne_of_beq_eq_false rfl) 0 (m')).trans (up_k hU3 (by exact Nat.ne_of_beq_eq_false rfl) 0 (m')))), eo m'⟩
              · subst z; exact ⟨(up_k hU34 (by exact Nat.ne_of_beq_eq_false rfl) 0 (m')).trans ((up_k hU29 (by exact Nat.ne_of_beq_eq_false rfl) 0 (m')).trans ((up_k hU24 (by exact Nat.ne_of_beq_eq_false rfl) 0 (m')).trans (up_k hU3 (by exact Nat.ne_of_beq_eq_false rfl) 0 (m')))), (up_k hU34 (by exact Nat.ne_of_beq_eq_false rfl) 0 (m')).trans ((up_g hU29 (fun q => n ⟨q.2.2, rfl⟩)).trans ((up_k hU24 (by exact Nat.ne_of_beq_eq_false rfl) 0 (m')).trans (up_k hU3 (by exact Nat.ne_of_beq_eq_false rfl) 0 (m'))))⟩
            have hrp := rx_put (b := 1) (by decide) h1 hb_47.2 hB hR (fz 111 0 29 rfl) (fz 111 0 47 rfl) ef ek e3 (Or.inr ⟨fz 255 0 m rfl, x23, hyl, ((up_k hU34 (by exact Nat.ne_of_beq_eq_false rfl) 0 x23).trans (up_k hU29 (by exact Nat.ne_of_beq_eq_false rfl) 0 x23)).trans (up_f hU24), fun z a b => (up_k hU34 (by exact Nat.ne_of_beq_eq_false rfl) 0 z).trans ((up_k hU29 (by exact Nat.ne_of_beq_eq_false rfl) 0 z).trans ((up_g hU24 (fun q => b q.2.2)).trans (up_g hU3 (fun q => a q.2.2))))⟩)
            have hrn : 0 ≤ T 254 0 m ∧ T 254 0 m ≤ 3000 := bd_a hT 254 (by decide +kernel : ta_ 254 = some (1, some 400, 0, 3000)) 0 (by omega)
            exact ⟨rfl, fr_s fz rfl, hrp.1, hrp.2, by rw [eo m]; omega, fun j _ => eo j, by rw [eo m]; omega, fun j hj => (up_k hU34 (by exact Nat.ne_of_beq_eq_false rfl) 0 j).trans ((up_g hU29 (fun q => hj q.2.2)).trans ((up_k hU24 (by exact Nat.ne_of_beq_eq_false rfl) 0 j).trans (up_k hU3 (by exact Nat.ne_of_beq_eq_false rfl) 0 j)))⟩
abbrev cX11_event : ByteArray := prog_13_method_74_code
def yX11_event : MethodName := ⟨RX11, "event", "(IIIII)I"⟩
def zX11_event : Zm := (RX11, cX11_event, 8, (some .int), { frames := 5, cells := 0, slots := 0, locals := 123 })
theorem bk_X11_event_0 : ck_ fX11 (some .int) cX11_event 0 [.iload 1, .aload 0, .tableswitch 0 11 29 #[]] 5 = true := qck_r (nn_ _) (by decide +kernel)
theorem bs_X11_event_0 {P : Zt → Option Zv → Prop} (K : Int → Zl → List Zv → Zt → Prop) : sx_ K P [.iload 1, .aload 0, .tableswitch 0 11 29 #[]] 5 = x_iload 1 (x_aload 0 (x_g0 111 29 0 400 (K 5))) := ((xe_iload 1).trans (congrArg (x_iload 1) ((xe_aload 0).trans (congrArg (x_aload 0) ((xe_g0 (kk := 111) rfl tl_11_29).trans (congrArg (x_g0 111 29 0 400) xe_nil))))))
theorem bk_X11_event_8 : ck_ fX11 (some .int) cX11_event 8 [.ifCond .ne 14, .iconst (-2), .ireturn] 14 = true := qck_r (nn_ _) (by decide +kernel)
theorem bs_X11_event_8 {P : Zt → Option Zv → Prop} (K : Int → Zl → List Zv → Zt → Prop) : sx_ K P [.ifCond .ne 14, .iconst (-2), .ireturn] 14 = x_ifCond .ne 14 K (x_iconst (-2) (x_ireturn P)) := ((xe_ifCond .ne 14).trans (congrArg (x_ifCond .ne 14 K) ((xe_iconst (-2)).trans (congrArg (x_iconst (-2)) (xe_ireturn)))))
theorem bk_X11_event_14 : ck_ fX11 (some .int) cX11_event 14 [.aload 0, .iload 1, .iload 2, .iload 3, .iload 4, .iload 5] 22 = true := qck_r (nn_ _) (by decide +kernel)
theorem bs_X11_event_14 {P : Zt → Option Zv → Prop} (K : Int → Zl → List Zv → Zt → Prop) : sx_ K P [.aload 0, .iload 1, .iload 2, .iload 3, .iload 4, .iload 5] 22 = x_aload 0 (x_iload 1 (x_iload 2 (x_iload 3 (x_iload 4 (x_iload 5 (K 22)))))) := ((xe_aload 0).trans (congrArg (x_aload 0) ((xe_iload 1).trans (congrArg (x_iload 1) ((xe_iload 2).trans (congrArg (x_iload 2) ((xe_iload 3).trans (congrArg (x_iload 3) ((xe_iload 4).trans (congrArg (x_iload 4) ((xe_iload 5).trans (congrArg (x_iload 5) xe_nil))))))))))))
set_option maxRecDepth 100000 in
theorem cl_X11_459 : cv_ RX11 459 yX11_lawOf zX11_lawOf 11 5 := ⟨gi_V (lw_b9 39 (by decide +kernel) rfl : Cond.methodLink RX11 459 yX11_lawOf ∈ lw_g) (lw_b9 41 (by decide +kernel) rfl : Cond.instanceMethod yX11_lawOf ∈ lw_g) (lw_sel 29 rfl : Cond.selects yX11_lawOf.cls yX11_lawOf yX11_lawOf ∈ lw_g) (lw_b1 10 (by decide +kernel) rfl : Cond.initialized yX11_lawOf.cls ∈ lw_g) (lw_b9 42 rfl rfl : Cond.code yX11_lawOf cX11_lawOf 9 (some .int) ∈ lw_g), ⟨by decide, by decide, by decide +kernel⟩, ⟨_, _, rfl⟩⟩
theorem bk_X11_event_25 : ck_ fX11 (some .int) cX11_event 25 [.istore 6, .iload 6, .ifCond .eq 38, .iconst (-10), .iload 6, .isub, .ireturn] 38 = true := qck_r (nn_ _) (by decide +kernel)
theorem bs_X11_event_25 {P : Zt → Option Zv → Prop} (K : Int → Zl → List Zv → Zt → Prop) : sx_ K P [.istore 6, .iload 6, .ifCond .eq 38, .iconst (-10), .iload 6, .isub, .ireturn] 38 = x_istore 6 (x_iload 6 (x_ifCond .eq 38 K (x_iconst (-10) (x_iload 6 (x_isub (x_ireturn P)))))) := ((xe_istore 6).trans (congrArg (x_istore 6) ((xe_iload 6).trans (congrArg (x_iload 6) ((xe_ifCond .eq 38).trans (congrArg (x_ifCond .eq 38 K) ((xe_iconst (-10)).trans (congrArg (x_iconst (-10)) ((xe_iload 6).trans (congrArg (x_iload 6) ((xe_isub).trans (congrArg (x_isub) (xe_ireturn)))))))))))))
theorem bk_X11_event_38 : ck_ fX11 (some .int) cX11_event 38 [.aload 0, .tableswitch 0 11 47 #[], .iconst 3000, .if_icmp .ne 51, .iconst (-5), .ireturn] 51 = true := qck_r (nn_ _) (by decide +kernel)
theorem bs_X11_event_38 {P : Zt → Option Zv → Prop} (K : Int → Zl → List Zv → Zt → Prop) : sx_ K P [.aload 0, .tableswitch 0 11 47 #[], .iconst 3000, .if_icmp .ne 51, .iconst (-5), .ireturn] 51 = x_aload 0 (x_g0 111 47 0 3000 (x_iconst 3000 (x_if_icmp .ne 51 K (x_iconst (-5) (x_ireturn P))))) := ((xe_aload 0).trans (congrArg (x_aload 0) ((xe_g0 (kk := 111) rfl tl_11_47).trans (congrArg (x_g0 111 47 0 3000) ((xe_iconst 3000).trans (congrArg (x_iconst 3000) ((xe_if_icmp .ne 51).trans (congrArg (x_if_icmp .ne 51 K) ((xe_iconst (-5)).trans (congrArg (x_iconst (-5)) (xe_ireturn)))))))))))
theorem bk_X11_event_51 : ck_ fX11 (some .int) cX11_event 51 [.aload 0, .tableswitch 0 11 47 #[], .istore 7, .aload 0, .dup, .tableswitch 0 11 47 #[], .iconst 1, .iadd, .tableswitch 1 11 47 #[], .aload 0, .tableswitch 0 11 48 #[], .iload 7, .iload 2, .iastore, .aload 0, .tableswitch 0 11 49 #[], .iload 7, .iload 3, .iastore, .aload 0, .tableswitch 0 11 50 #[], .iload 7, .iload 4, .iastore, .aload 0, .tableswitch 0 11 51 #[], .iload 7, .iload 5, .iastore, .aload 0, .iload 1, .iload 7, .iconst 0] 106 = true := qck_r (nn_ _) (by decide +kernel)
theorem bs_X11_event_51 {P : Zt → Option Zv → Prop} (K : Int → Zl → List Zv → Zt → Prop) : sx_ K P [.aload 0, .tableswitch 0 11 47 #[], .istore 7, .aload 0, .dup, .tableswitch 0 11 47 #[], .iconst 1, .iadd, .tableswitch 1 11 47 #[], .aload 0, .tableswitch 0 11 48 #[], .iload 7, .iload 2, .iastore, .aload 0, .tableswitch 0 11 49 #[], .iload 7, .iload 3, .iastore, .aload 0, .tableswitch 0 11 50 #[], .iload 7, .iload 4, .iastore, .aload 0, .tableswitch 0 11 51 #[], .iload 7, .iload 5, .iastore, .aload 0, .iload 1, .iload 7, .iconst 0] 106 = x_aload 0 (x_g0 111 47 0 3000 (x_istore 7 (x_aload 0 (x_dup (x_g0 111 47 0 3000 (x_iconst 1 (x_iadd (x_p 111 47 0 3000 (x_aload 0 (x_g1 111 248 (x_iload 7 (x_iload 2 (x_iastore (x_aload 0 (x_g1 111 249 (x_iload 7 (x_iload 3 (x_iastore (x_aload 0 (x_g1 111 250 (x_iload 7 (x_iload 4 (x_iastore (x_aload 0 (x_g1 111 251 (x_iload 7 (x_iload 5 (x_iastore (x_aload 0 (x_iload 1 (x_iload 7 (x_iconst 0 (K 106))))))))))))))))))))))))))))))))) := ((xe_aload 0).trans (congrArg (x_aload 0) ((xe_g0 (kk := 111) rfl tl_11_47).trans (congrArg (x_g0 111 47 0 3000) ((xe_istore 7).trans (congrArg (x_istore 7) ((xe_aload 0).trans (congrArg (x_aload 0) ((xe_dup).trans (congrArg (x_dup) ((xe_g0 (kk := 111) rfl tl_11_47).trans (congrArg (x_g0 111 47 0 3000) ((xe_iconst 1).trans (congrArg (x_iconst 1) ((xe_iadd).trans (congrArg (x_iadd) ((xe_p (kk := 111) rfl tl_11_47).trans (congrArg (x_p 111 47 0 3000) ((xe_aload 0).trans (congrArg (x_aload 0) ((xe_g1 (kk := 111) rfl tl_11_48).trans (congrArg (x_g1 111 248) ((xe_iload 7).trans (congrArg (x_iload 7) ((xe_iload 2).trans (congrArg (x_iload 2) ((xe_iastore).trans (congrArg (x_iastore) ((xe_aload 0).trans (congrArg (x_aload 0) ((xe_g1 (kk := 111) rfl tl_11_49).trans (congrArg (x_g1 111 249) ((xe_iload 7).trans (congrArg (x_iload 7) ((xe_iload 3).trans (congrArg (x_iload 3) ((xe_iastore).trans (congrArg (x_iastore) ((xe_aload 0).trans (congrArg (x_aload 0) ((xe_g1 (kk := 111) rfl tl_11_50).trans (congrArg (x_g1 111 250) ((xe_iload 7).trans (congrArg (x_iload 7) ((xe_iload 4).trans (congrArg (x_iload 4) ((xe_iastore).trans (congrArg (x_iastore) ((xe_aload 0).trans (congrArg (x_aload 0) ((xe_g1 (kk := 111) rfl tl_11_51).trans (congrArg (x_g1 111 251) ((xe_iload 7).trans (congrArg (x_iload 7) ((xe_iload 5).trans (congrArg (x_iload 5) ((xe_iastore).trans (congrArg (x_iastore) ((xe_aload 0).trans (congrArg (x_aload 0) ((xe_iload 1).trans (congrArg (x_iload 1) ((xe_iload 7).trans (congrArg (x_iload 7) ((xe_iconst 0).trans (congrArg (x_iconst 0) xe_nil))))))))))))))))))))))))))))))))))))))))))))))))))))))))))))))))))
set_option maxRecDepth 100000 in
theorem cl_X11_466 : cv_ RX11 466 yX11_putBehind zX11_putBehind 11 3 := ⟨gi_V (lw_b9 62 (by decide +kernel) rfl : Cond.methodLink RX11 466 yX11_putBehind ∈ lw_g) (lw_b9 64 (by decide +kernel) rfl : Cond.instanceMethod yX11_putBehind ∈ lw_g) (lw_sel 52 rfl : Cond.selects yX11_putBehind.cls yX11_putBehind yX11_putBehind ∈ lw_g) (lw_b1 10 (by decide +kernel) rfl : Cond.initialized yX11_putBehind.cls ∈ lw_g) (lw_b9 65 rfl rfl : Cond.code yX11_putBehind cX11_putBehind 5 none ∈ lw_g), ⟨by decide, by decide, by decide +kernel⟩, ⟨_, _, rfl⟩⟩
theorem bk_X11_event_109 : ck_ fX11 (some .int) cX11_event 109 [.aload 0, .iload 1, .iload 2, .iload 3, .iload 4, .iload 5] 117 = true := qck_r (nn_ _) (by decide +kernel)
theorem bs_X11_event_109 {P : Zt → Option Zv → Prop} (K : Int → Zl → List Zv → Zt → Prop) : sx_ K P [.aload 0, .iload 1, .iload 2, .iload 3, .iload 4, .iload 5] 117 = x_aload 0 (x_iload 1 (x_iload 2 (x_iload 3 (x_iload 4 (x_iload 5 (K 117)))))) := ((xe_aload 0).trans (congrArg (x_aload 0) ((xe_iload 1).trans (congrArg (x_iload 1) ((xe_iload 2).trans (congrArg (x_iload 2) ((xe_iload 3).trans (congrArg (x_iload 3) ((xe_iload 4).trans (congrArg (x_iload 4) ((xe_iload 5).trans (congrArg (x_iload 5) xe_nil))))))))))))
set_option maxRecDepth 100000 in
theorem cl_X11_470 : cv_ RX11 470 yX11_play zX11_play 11 5 := ⟨gi_V (lw_b9 70 (by decide +kernel) rfl : Cond.methodLink RX11 470 yX11_play ∈ lw_g) (lw_b9 72 (by decide +kernel) rfl : Cond.instanceMethod yX11_play ∈ lw_g) (lw_sel 46 rfl : Cond.selects yX11_play.cls yX11_play yX11_play ∈ lw_g) (lw_b1 10 (by decide +kernel) rfl : Cond.initialized yX11_play.cls ∈ lw_g) (lw_b9 73 rfl rfl : Cond.code yX11_play cX11_play 6 none ∈ lw_g), ⟨by decide, by decide, by decide +kernel⟩, ⟨_, _, rfl⟩⟩
theorem bk_X11_event_120 : ck_ fX11 (some .int) cX11_event 120 [.aload 0, .tableswitch 0 11 54 #[], .iload 1, .iaload, .ireturn] 127 = true := qck_r (nn_ _) (by decide +kernel)
theorem bs_X11_event_120 {P : Zt → Option Zv → Prop} (K : Int → Zl → List Zv → Zt → Prop) : sx_ K P [.aload 0, .tableswitch 0 11 54 #[], .iload 1, .iaload, .ireturn] 127 = x_aload 0 (x_g1 111 254 (x_iload 1 (x_iaload (x_ireturn P)))) := ((xe_aload 0).trans (congrArg (x_aload 0) ((xe_g1 (kk := 111) rfl tl_11_54).trans (congrArg (x_g1 111 254) ((xe_iload 1).trans (congrArg (x_iload 1) ((xe_iaload).trans (congrArg (x_iaload) (xe_ireturn)))))))))
abbrev po_X11_event (T : Zt) (m k s p q : Int) : Zt → Option Zv → Prop := fun T' r => ∃ x : Int, r = some (vI x) ∧ fr_ [(111, [47]), (248, []), (249, []), (250, []), (251, []), (252, []), (253, []), (254, []), (256, []), (244, []), (241, []), (242, []), (243, []), (245, []), (246, []), (236, []), (237, []), (235, [])] T T' ∧ (FM_ T' ∧ RX_ T' [] ∧ ZS_ T' ∧ GX_ T' (-1) ∧ ∀ j, j ≠ m ∨ T 111 0 29 ≤ j → T' 254 0 j = T 254 0 j ∧ T' 256 0 j = T 256 0 j)
set_option maxHeartbeats 4000000 in
theorem ct_X11_event {T : Zt} {m k s p q : Int} (hmc : MC_ T) (hri : RI_ T) (hfm : FM_ T) (hrx : RX_ T []) (hzs : ZS_ T) (hgs : GX_ T (-1)) : Ct_ yX11_event zX11_event T [vR 111 0, vI m, vI k, vI s, vI p, vI q] (po_X11_event T m k s p q) := by
  refine ct_of pn_11 rfl rfl (Nat.le_of_ble_eq_true rfl) (fun hT hav => ?_)
  have hr_m : -2147483648 ≤ m ∧ m ≤ 2147483647 := hav (vI m) (by simp)
  have hr_k : -2147483648 ≤ k ∧ k ≤ 2147483647 := hav (vI k) (by simp)
  have hr_s : -2147483648 ≤ s ∧ s ≤ 2147483647 := hav (vI s) (by simp)
  have hr_p : -2147483648 ≤ p ∧ p ≤ 2147483647 := hav (vI p) (by simp)
  have hr_q : -2147483648 ≤ q ∧ q ≤ 2147483647 := hav (vI q) (by simp)
  have hz : zX11_event.2.2.2.1 = some .boolean → ∀ (T' : Zt) (x : Int), po_X11_event T m k s p q T' (some (vI x)) → 0 ≤ x ∧ x ≤ 1 := fun h => by cases h
  have hb_29 : 0 ≤ T 111 0 29 ∧ T 111 0 29 ≤ 400 := bd_f hT 111 29 (by decide +kernel : (tf_ 111)[29]? = some (0, 0, 0, 400)) 0
  have hb_6 : 0 ≤ T 111 0 6 ∧ T 111 0 6 ≤ 4 := bd_f hT 111 6 (by decide +kernel : (tf_ 111)[6]? = some (0, 0, 0, 4)) 0
  have hb_47 : 0 ≤ T 111 0 47 ∧ T 111 0 47 ≤ 3000 := bd_f hT 111 47 (by decide +kernel : (tf_ 111)[47]? = some (0, 0, 0, 3000)) 0
  show J_ zX11_event T (po_X11_event T m k s p q) 0 0 0 [some (vR 111 0), some (vI m), some (vI k), some (vI s), some (vI p), some (vI q), none, none] [] T
  refine j_blx (F := fX11) tb_X11 (nn_ _) bk_X11_event_0 bs_X11_event_0 hz (fun K hK => ?_)
  intro b1 b1b
  refine hK 5 _ [vI (T 111 0 29), vI m] T ?_
  refine j_callS (y := yX11_isOf) (Yc := zX11_isOf) (rest := []) [vI m, vI (T 111 0 29)] (ct_X11_isOf (T := T) (by omega)) cl_X11_317 (qd_c (by decide +kernel)) (nn_ _) rfl (rf_of rfl) (Nat.le_of_ble_eq_true rfl) (Nat.le_of_ble_eq_true rfl) (Nat.le_of_ble_eq_true rfl) rfl ?_
  rintro _ _ ⟨rfl, x2, rfl, hx2⟩
  show J_ zX11_event T (po_X11_event T m k s p q) 0 0 8 _ [vI x2] T
  refine j_blx (F := fX11) tb_X11 (nn_ _) bk_X11_event_8 bs_X11_event_8 hz (fun K hK => ?_)
  refine And.intro (fun c3 => ?_) (fun c3 => ?_)
  · refine hK 14 _ [] T ?_
    refine j_blx (F := fX11) tb_X11 (nn_ _) bk_X11_event_14 bs_X11_event_14 hz (fun K hK => ?_)
    refine hK 22 _ [vI q, vI p, vI s, vI k, vI m, vR 111 0] T ?_
    refine j_callV (y := yX11_lawOf) (Yc := zX11_lawOf) (rest := []) [vI m, vI k, vI s, vI p, vI q] (ct_X11_lawOf (T := T) (by omega)) cl_X11_459 (qd_c (by decide +kernel)) (nn_ _) rfl (rf_of rfl) (Nat.le_of_ble_eq_true rfl) (Nat.le_of_ble_eq_true rfl) (Nat.le_of_ble_eq_true rfl) rfl ?_
    rintro _ _ ⟨rfl, x4, rfl, hx4⟩
    show J_ zX11_event T (po_X11_event T m k s p q) 0 0 25 _ [vI x4] T
    refine j_blx (F := fX11) tb_X11 (nn_ _) bk_X11_event_25 bs_X11_event_25 hz (fun K hK => ?_)
    refine And.intro (fun c5 => ?_) (fun c5 => ?_)
    · have hlw := hx4.2 (by omega)
      refine hK 38 [some (vR 111 0), some (vI m), some (vI k), some (vI s), some (vI p), some (vI q), some (vI x4), none] [] T ?_
      refine j_blx (F := fX11) tb_X11 (nn_ _) bk_X11_event_38 bs_X11_event_38 hz (fun K hK => ?_)
      intro b6 b6b
      refine And.intro (fun c7 => ?_) (fun c7 => ?_)
      · refine hK 51 _ [] T ?_
        refine j_blx (F := fX11) tb_X11 (nn_ _) bk_X11_event_51 bs_X11_event_51 hz (fun K hK => ?_)
        intro b8 b8b
        intro b9 b9b
        refine rg_i (by omega) ?_
        refine bd_i (by omega) ?_
        refine x_nm (fun U10 hU10 => ?_)
        have e11 := up_f hU10
        refine iy_i (by omega) (by omega) ?_
        refine x_nm (fun U12 hU12 => ?_)
        have e13 := up_f hU12
        refine iy_i (by omega) (by omega) ?_
        refine x_nm (fun U14 hU14 => ?_)
        have e15 := up_f hU14
        refine iy_i (by omega) (by omega) ?_
        refine x_nm (fun U16 hU16 => ?_)
        have e17 := up_f hU16
        refine iy_i (by omega) (by omega) ?_
        refine x_nm (fun U18 hU18 => ?_)
        have e19 := up_f hU18
        refine hK 106 [some (vR 111 0), some (vI m), some (vI k), some (vI s), some (vI p), some (vI q), some (vI x4), some (vI (T 111 0 47))] [vI 0, vI (T 111 0 47), vI m, vR 111 0] U18 ?_
        have fz : fr_ [(251, []), (250, []), (249, []), (248, []), (111, [47])] T U18 := fr_u (fr_u (fr_u (fr_u (fr_u (fr_0 _ _) hU10 rfl) hU12 rfl) hU14 rfl) hU16 rfl) hU18 rfl
        have hrn : 0 ≤ T 254 0 m ∧ T 254 0 m ≤ 3000 := bd_a hT 254 (by decide +kernel : ta_ 254 = some (1, some 400, 0, 3000)) 0 (by omega)
        have hsb : SB1_ T m (4 * T 254 0 m + 9) := hgs m (by omega) (by omega) (by omega)
        have e20 : U18 111 0 29 = T 111 0 29 := (up_k hU18 (by exact Nat.ne_of_beq_eq_false rfl) 0 29).trans ((up_k hU16 (by exact Nat.ne_of_beq_eq_false rfl) 0 29).trans ((up_k hU14 (by exact Nat.ne_of_beq_eq_false rfl) 0 29).trans ((up_k hU12 (by exact Nat.ne_of_beq_eq_false rfl) 0 29).trans (up_j hU10 (by exact ni_ rfl) 111 0))))
        have e21 : U18 111 0 47 = (T 111 0 47) + 1 := (up_k hU18 (by exact Nat.ne_of_beq_eq_false rfl) 0 47).trans ((up_k hU16 (by exact Nat.ne_of_beq_eq_false rfl) 0 47).trans ((up_k hU14 (by exact Nat.ne_of_beq_eq_false rfl) 0 47).trans ((up_k hU12 (by exact Nat.ne_of_beq_eq_false rfl) 0 47).trans (up_f hU10))))
        refine j_callV (y := yX11_putBehind) (Yc := zX11_putBehind) (rest := []) [vI m, vI (T 111 0 47), vI 0] (ct_X11_putBehind_0 (T := U18) (rest := []) (by omega) (rx_new hrx (by omega) (fz 111 0 29 rfl) (by omega) (fun k j h => fz k 0 j (by rcases h with rfl | rfl | rfl | rfl | rfl <;> rfl)))) cl_X11_466 (qd_c (by decide +kernel)) (nn_ _) rfl (rf_of rfl) (Nat.le_of_ble_eq_true rfl) (Nat.le_of_ble_eq_true rfl) (Nat.le_of_ble_eq_true rfl) rfl ?_
        rintro U22 _ ⟨rfl, fU22, qU22a, qU22b, qU22c, qU22d, qU22e, qU22g⟩
        show J_ zX11_event T (po_X11_event T m k s p q) 0 0 109 _ [] U22
        refine j_blx (F := fX11) tb_X11 (nn_ _) bk_X11_event_109 bs_X11_event_109 hz (fun K hK => ?_)
        refine hK 117 _ [vI q, vI p, vI s, vI k, vI m, vR 111 0] U22 ?_
        have e23 : U22 111 0 29 = T 111 0 29 := (fU22 111 0 29 rfl).trans ((up_k hU18 (by exact Nat.ne_of_beq_eq_false rfl) 0 29).trans ((up_k hU16 (by exact Nat.ne_of_beq_eq_false rfl) 0 29).trans ((up_k hU14 (by exact Nat.ne_of_beq_eq_false rfl) 0 29).trans ((up_k hU12 (by exact Nat.ne_of_beq_eq_false rfl) 0 29).trans (up_j hU10 (by exact ni_ rfl) 111 0)))))
        have fy : fr_ [(252, []), (253, []), (254, []), (256, []), (251, []), (250, []), (249, []), (248, []), (111, [47])] T U22 := fr_t (fr_u (fr_u (fr_u (fr_u (fr_u (fr_0 _ _) hU10 rfl) hU12 rfl) hU14 rfl) hU16 rfl) hU18 rfl) (fr_s fU22 rfl)
        refine j_callV (y := yX11_play) (Yc := zX11_play) (rest := []) [vI m, vI k, vI s, vI p, vI q] (ct_X11_play (T := U22) (bu := 4 * T 254 0 m + 9) (by omega) (by exact MC__f (ws := [(252, []), (253, []), (254, []), (256, []), (251, []), (250, []), (249, []), (248, []), (111, [47])]) hmc (fr_t (fr_u (fr_u (fr_u (fr_u (fr_u (fr_0 _ _) hU10 rfl) hU12 rfl) hU14 rfl) hU16 rfl) hU18 rfl) (fr_s fU22 rfl)) ⟨fun _ => rfl, rfl, rfl, trivial⟩) (by exact RI__f (ws := [(252, []), (253, []), (254, []), (256, []), (251, []), (250, []), (249, []), (248, []), (111, [47])]) hri (fr_t (fr_u (fr_u (fr_u (fr_u (fr_u (fr_0 _ _) hU10 rfl) hU12 rfl) hU14 rfl) hU16 rfl) hU18 rfl) (fr_s fU22 rfl)) ⟨fun _ => rfl, rfl, trivial⟩) (by exact FM__f (ws := [(252, []), (253, []), (254, []), (256, [])]) (FM__f (ws := [(251, [])]) (FM__f (ws := [(250, [])]) (FM__f (ws := [(249, [])]) (FM__f (ws := [(248, [])]) (FM__f (ws := [(111, [])]) (hfm) (fr_u (fr_0 _ _) hU10 rfl) ⟨fun _ => rfl, fun _ => rfl, trivial⟩) (fr_u (fr_0 _ _) hU12 rfl) ⟨fun _ => rfl, fun _ => rfl, trivial⟩) (fr_u (fr_0 _ _) hU14 rfl) ⟨fun _ => rfl, fun _ => rfl, trivial⟩) (fr_u (fr_0 _ _) hU16 rfl) ⟨fun _ => rfl, fun _ => rfl, trivial⟩) (fr_u (fr_0 _ _) hU18 rfl) ⟨fun _ => rfl, fun _ => rfl, trivial⟩) fU22 ⟨fun _ => rfl, fun _ => rfl, trivial⟩) (by exact LW_f hlw (fun k j h => fy k 0 j (by rcases h with rfl | rfl | rfl | rfl | rfl <;> rfl))) (by omega) (sb1_f (ws := [(252, []), (253, []), (254, []), (256, [])]) (sb1_f (ws := [(251, [])]) (sb1_f (ws := [(250, [])]) (sb1_f (ws := [(249, [])]) (sb1_f (ws := [(248, [])]) (sb1_f (ws := [(111, [])]) (hsb) (fr_u (fr_0 _ _) hU10 rfl) ⟨fun _ => rfl, fun _ => rfl, fun _ => rfl⟩) (fr_u (fr_0 _ _) hU12 rfl) ⟨fun _ => rfl, fun _ => rfl, fun _ => rfl⟩) (fr_u (fr_0 _ _) hU14 rfl) ⟨fun _ => rfl, fun _ => rfl, fun _ => rfl⟩) (fr_u (fr_0 _ _) hU16 rfl) ⟨fun _ => rfl, fun _ => rfl, fun _ => rfl⟩) (fr_u (fr_0 _ _) hU18 rfl) ⟨fun _ => rfl, fun _ => rfl, fun _ => rfl⟩) fU22 ⟨fun _ => rfl, fun _ => rfl, fun _ => rfl⟩)) cl_X11_470 (qd_c (by decide +kernel)) (nn_ _) rfl (rf_of rfl) (Nat.le_of_ble_eq_true rfl) (Nat.le_of_ble_eq_true rfl) (Nat.le_of_ble_eq_true rfl) rfl ?_
        rintro U24 _ ⟨rfl, fU24, ⟨qU24, qU24o, qU24b⟩⟩
        show J_ zX11_event T (po_X11_event T m k s p q) 0 0 120 _ [] U24
        refine j_blx (F := fX11) tb_X11 (nn_ _) bk_X11_event_120 bs_X11_event_120 hz (fun K hK => ?_)
        refine ix_i (by omega) ?_
        intro b25 b25b
        have e26 : U24 254 0 m = U22 254 0 m := fU24 254 0 m rfl
        rw [e26] at b25 b25b ⊢
        refine (show po_X11_event T m k s p q U24 (some (vI (U22 254 0 m))) from ?_)
        have fw : fr_ [(244, []), (241, []), (242, []), (243, []), (245, []), (246, []), (236, []), (237, []), (235, []), (252, []), (253, []), (254, []), (256, []), (251, []), (250, []), (249, []), (248, []), (111, [47])] T U24 := fr_t (fr_t (fr_u (fr_u (fr_u (fr_u (fr_u (fr_0 _ _) hU10 rfl) hU12 rfl) hU14 rfl) hU16 rfl) hU18 rfl) (fr_s fU22 rfl)) (fr_s fU24 rfl)
        have so5 : SO_ T U24 m := so_t (so_f (ws := [(252, []), (253, []), (254, []), (256, [])]) (so_f (ws := [(251, [])]) (so_f (ws := [(250, [])]) (so_f (ws := [(249, [])]) (so_f (ws := [(248, [])]) (so_f (ws := [(111, [])]) (so_r) (fr_u (fr_0 _ _) hU10 rfl) ⟨fun _ => rfl, fun _ => rfl, fun _ => rfl⟩) (fr_u (fr_0 _ _) hU12 rfl) ⟨fun _ => rfl, fun _ => rfl, fun _ => rfl⟩) (fr_u (fr_0 _ _) hU14 rfl) ⟨fun _ => rfl, fun _ => rfl, fun _ => rfl⟩) (fr_u (fr_0 _ _) hU16 rfl) ⟨fun _ => rfl, fun _ => rfl, fun _ => rfl⟩) (fr_u (fr_0 _ _) hU18 rfl) ⟨fun _ => rfl, fun _ => rfl, fun _ => rfl⟩) fU22 ⟨fun _ => rfl, fun _ => rfl, fun _ => rfl⟩) qU24o (fun j => (fU22 239 0 j rfl).trans ((up_k hU18 (by exact Nat.ne_of_beq_eq_false rfl) 0 j).trans ((up_k hU16 (by exact Nat.ne_of_beq_eq_false rfl) 0 j).trans ((up_k hU14 (by exact Nat.ne_of_beq_eq_false rfl) 0 j).trans ((up_k hU12 (by exact Nat.ne_of_beq_eq_false rfl) 0 j).trans (up_k hU10 (by exact Nat.ne_of_beq_eq_false rfl) 0 j))))))
        have er : ∀ j, U24 254 0 j = U22 254 0 j := fun j => fU24 254 0 j rfl
        have ep : ∀ j, U18 254 0 j = T 254 0 j := fun j => (up_k hU18 (by exact Nat.ne_of_beq_eq_false rfl) 0 j).trans ((up_k hU16 (by exact Nat.ne_of_beq_eq_false rfl) 0 j).trans ((up_k hU14 (by exact Nat.ne_of_beq_eq_false rfl) 0 j).trans ((up_k hU12 (by exact Nat.ne_of_beq_eq_false rfl) 0 j).trans (up_k hU10 (by exact Nat.ne_of_beq_eq_false rfl) 0 j))))
        have e1 : U24 254 0 m = T 254 0 m + 1 := by rw [er, qU22c, ep]
        exact ⟨_, rfl, fr_t (fr_t (fr_u (fr_u (fr_u (fr_u (fr_u (fr_0 _ _) hU10 rfl) hU12 rfl) hU14 rfl) hU16 rfl) hU18 rfl) (fr_s fU22 rfl)) (fr_s fU24 rfl), qU24, rx_f (qU22a) (fU24 111 0 29 rfl) (fU24 111 0 47 rfl) (fun k j h => fU24 k 0 j (by rcases h with rfl | rfl | rfl | rfl | rfl <;> rfl)), zs_o hzs so5 (fun j => fw 239 0 j rfl), gx_o (gx_x hgs) so5 (sb1_m (qU24b) (by omega)) (fun j hj => (er j).trans ((qU22d j hj).trans (ep j))), fun j hk => (fun (hj : j ≠ m) => ⟨(er j).trans ((qU22d j hj).trans (ep j)), (fU24 256 0 j rfl).trans ((qU22g j hj).trans ((up_k hU18 (by exact Nat.ne_of_beq_eq_false rfl) 0 j).trans ((up_k hU16 (by exact Nat.ne_of_beq_eq_false rfl) 0 j).trans ((up_k hU14 (by exact Nat.ne_of_beq_eq_false rfl) 0 j).trans ((up_k hU12 (by exact Nat.ne_of_beq_eq_false rfl) 0 j).trans (up_k hU10 (by exact Nat.ne_of_beq_eq_false rfl) 0 j))))))⟩) (by omega)⟩
      · refine (show po_X11_event T m k s p q T (some (vI (-5))) from ?_)
        exact ⟨_, rfl, fr_0 _ _, hfm, hrx, hzs, hgs, fun _ _ => ⟨rfl, rfl⟩⟩
    · refine rg_i (by omega) ?_
      refine (show po_X11_event T m k s p q T (some (vI ((-10) - x4))) from ?_)
      exact ⟨_, rfl, fr_0 _ _, hfm, hrx, hzs, hgs, fun _ _ => ⟨rfl, rfl⟩⟩
  · refine (show po_X11_event T m k s p q T (some (vI (-2))) from ?_)
    exact ⟨_, rfl, fr_0 _ _, hfm, hrx, hzs, hgs, fun _ _ => ⟨rfl, rfl⟩⟩
abbrev cX11_playAnew : ByteArray := prog_13_method_75_code
def yX11_playAnew : MethodName := ⟨RX11, "playAnew", "(I)I"⟩
def zX11_playAnew : Zm := (RX11, cX11_playAnew, 6, (some .int), { frames := 5, cells := 0, slots := 0, locals := 123 })
theorem bk_X11_playAnew_28 : ck_ fX11 (some .int) cX11_playAnew 28 [.iload 2, .iconst (-1), .if_icmp .eq 149, .aload 0, .tableswitch 0 11 52 #[], .iload 2, .iaload, .istore 4, .aload 0, .iload 1, .aload 0, .tableswitch 0 11 48 #[], .iload 2, .iaload, .aload 0, .tableswitch 0 11 49 #[], .iload 2, .iaload, .aload 0, .tableswitch 0 11 50 #[], .iload 2, .iaload, .aload 0, .tableswitch 0 11 51 #[], .iload 2, .iaload] 67 = true := qck_r (nn_ _) (by decide +kernel)
theorem bs_X11_playAnew_28 {P : Zt → Option Zv → Prop} (K : Int → Zl → List Zv → Zt → Prop) : sx_ K P [.iload 2, .iconst (-1), .if_icmp .eq 149, .aload 0, .tableswitch 0 11 52 #[], .iload 2, .iaload, .istore 4, .aload 0, .iload 1, .aload 0, .tableswitch 0 11 48 #[], .iload 2, .iaload, .aload 0, .tableswitch 0 11 49 #[], .iload 2, .iaload, .aload 0, .tableswitch 0 11 50 #[], .iload 2, .iaload, .aload 0, .tableswitch 0 11 51 #[], .iload 2, .iaload] 67 = x_iload 2 (x_iconst (-1) (x_if_icmp .eq 149 K (x_aload 0 (x_g1 111 252 (x_iload 2 (x_iaload (x_istore 4 (x_aload 0 (x_iload 1 (x_aload 0 (x_g1 111 248 (x_iload 2 (x_iaload (x_aload 0 (x_g1 111 249 (x_iload 2 (x_iaload (x_aload 0 (x_g1 111 250 (x_iload 2 (x_iaload (x_aload 0 (x_g1 111 251 (x_iload 2 (x_iaload (K 67)))))))))))))))))))))))))) := ((xe_iload 2).trans (congrArg (x_iload 2) ((xe_iconst (-1)).trans (congrArg (x_iconst (-1)) ((xe_if_icmp .eq 149).trans (congrArg (x_if_icmp .eq 149 K) ((xe_aload 0).trans (congrArg (x_aload 0) ((xe_g1 (kk := 111) rfl tl_11_52).trans (congrArg (x_g1 111 252) ((xe_iload 2).trans (congrArg (x_iload 2) ((xe_iaload).trans (congrArg (x_iaload) ((xe_istore 4).trans (congrArg (x_istore 4) ((xe_aload 0).trans (congrArg (x_aload 0) ((xe_iload 1).trans (congrArg (x_iload 1) ((xe_aload 0).trans (congrArg (x_aload 0) ((xe_g1 (kk := 111) rfl tl_11_48).trans (congrArg (x_g1 111 248) ((xe_iload 2).trans (congrArg (x_iload 2) ((xe_iaload).trans (congrArg (x_iaload) ((xe_aload 0).trans (congrArg (x_aload 0) ((xe_g1 (kk := 111) rfl tl_11_49).trans (congrArg (x_g1 111 249) ((xe_iload 2).trans (congrArg (x_iload 2) ((xe_iaload).trans (congrArg (x_iaload) ((xe_aload 0).trans (congrArg (x_aload 0) ((xe_g1 (kk := 111) rfl tl_11_50).trans (congrArg (x_g1 111 250) ((xe_iload 2).trans (congrArg (x_iload 2) ((xe_iaload).trans (congrArg (x_iaload) ((xe_aload 0).trans (congrArg (x_aload 0) ((xe_g1 (kk := 111) rfl tl_11_51).trans (congrArg (x_g1 111 251) ((xe_iload 2).trans (congrArg (x_iload 2) ((xe_iaload).trans (congrArg (x_iaload) xe_nil))))))))))))))))))))))))))))))))))))))))))))))))))))
theorem bk_X11_playAnew_149 : ck_ fX11 (some .int) cX11_playAnew 149 [.iload 3, .ireturn] 151 = true := qck_r (nn_ _) (by decide +kernel)
theorem bs_X11_playAnew_149 {P : Zt → Option Zv → Prop} (K : Int → Zl → List Zv → Zt → Prop) : sx_ K P [.iload 3, .ireturn] 151 = x_iload 3 (x_ireturn P) := ((xe_iload 3).trans (congrArg (x_iload 3) (xe_ireturn)))
theorem bk_X11_playAnew_70 : ck_ fX11 (some .int) cX11_playAnew 70 [.ifCond .ne 77, .iconst 1, .goto 78] 77 = true := qck_r (nn_ _) (by decide +kernel)
theorem bs_X11_playAnew_70 {P : Zt → Option Zv → Prop} (K : Int → Zl → List Zv → Zt → Prop) : sx_ K P [.ifCond .ne 77, .iconst 1, .goto 78] 77 = x_ifCond .ne 77 K (x_iconst 1 (x_goto 78 K)) := ((xe_ifCond .ne 77).trans (congrArg (x_ifCond .ne 77 K) ((xe_iconst 1).trans (congrArg (x_iconst 1) (xe_goto 78)))))
theorem bk_X11_playAnew_77 : ck_ fX11 (some .int) cX11_playAnew 77 [.iconst 0, .istore 5, .aload 0, .iload 1, .iload 2, .iload 5, .ifCond .ne 92, .iconst 1, .goto 93] 92 = true := qck_r (nn_ _) (by decide +kernel)
theorem bs_X11_playAnew_77 {P : Zt → Option Zv → Prop} (K : Int → Zl → List Zv → Zt → Prop) : sx_ K P [.iconst 0, .istore 5, .aload 0, .iload 1, .iload 2, .iload 5, .ifCond .ne 92, .iconst 1, .goto 93] 92 = x_iconst 0 (x_istore 5 (x_aload 0 (x_iload 1 (x_iload 2 (x_iload 5 (x_ifCond .ne 92 K (x_iconst 1 (x_goto 93 K)))))))) := ((xe_iconst 0).trans (congrArg (x_iconst 0) ((xe_istore 5).trans (congrArg (x_istore 5) ((xe_aload 0).trans (congrArg (x_aload 0) ((xe_iload 1).trans (congrArg (x_iload 1) ((xe_iload 2).trans (congrArg (x_iload 2) ((xe_iload 5).trans (congrArg (x_iload 5) ((xe_ifCond .ne 92).trans (congrArg (x_ifCond .ne 92 K) ((xe_iconst 1).trans (congrArg (x_iconst 1) (xe_goto 93)))))))))))))))))
theorem bk_X11_playAnew_96 : ck_ fX11 (some .int) cX11_playAnew 96 [.iload 5, .ifCond .eq 130, .aload 0, .iload 1, .aload 0, .tableswitch 0 11 48 #[], .iload 2, .iaload, .aload 0, .tableswitch 0 11 49 #[], .iload 2, .iaload, .aload 0, .tableswitch 0 11 50 #[], .iload 2, .iaload, .aload 0, .tableswitch 0 11 51 #[], .iload 2, .iaload] 127 = true := qck_r (nn_ _) (by decide +kernel)
theorem bs_X11_playAnew_96 {P : Zt → Option Zv → Prop} (K : Int → Zl → List Zv → Zt → Prop) : sx_ K P [.iload 5, .ifCond .eq 130, .aload 0, .iload 1, .aload 0, .tableswitch 0 11 48 #[], .iload 2, .iaload, .aload 0, .tableswitch 0 11 49 #[], .iload 2, .iaload, .aload 0, .tableswitch 0 11 50 #[], .iload 2, .iaload, .aload 0, .tableswitch 0 11 51 #[], .iload 2, .iaload] 127 = x_iload 5 (x_ifCond .eq 130 K (x_aload 0 (x_iload 1 (x_aload 0 (x_g1 111 248 (x_iload 2 (x_iaload (x_aload 0 (x_g1 111 249 (x_iload 2 (x_iaload (x_aload 0 (x_g1 111 250 (x_iload 2 (x_iaload (x_aload 0 (x_g1 111 251 (x_iload 2 (x_iaload (K 127)))))))))))))))))))) := ((xe_iload 5).trans (congrArg (x_iload 5) ((xe_ifCond .eq 130).trans (congrArg (x_ifCond .eq 130 K) ((xe_aload 0).trans (congrArg (x_aload 0) ((xe_iload 1).trans (congrArg (x_iload 1) ((xe_aload 0).trans (congrArg (x_aload 0) ((xe_g1 (kk := 111) rfl tl_11_48).trans (congrArg (x_g1 111 248) ((xe_iload 2).trans (congrArg (x_iload 2) ((xe_iaload).trans (congrArg (x_iaload) ((xe_aload 0).trans (congrArg (x_aload 0) ((xe_g1 (kk := 111) rfl tl_11_49).trans (congrArg (x_g1 111 249) ((xe_iload 2).trans (congrArg (x_iload 2) ((xe_iaload).trans (congrArg (x_iaload) ((xe_aload 0).trans (congrArg (x_aload 0) ((xe_g1 (kk := 111) rfl tl_11_50).trans (congrArg (x_g1 111 250) ((xe_iload 2).trans (congrArg (x_iload 2) ((xe_iaload).trans (congrArg (x_iaload) ((xe_aload 0).trans (congrArg (x_aload 0) ((xe_g1 (kk := 111) rfl tl_11_51).trans (congrArg (x_g1 111 251) ((xe_iload 2).trans (congrArg (x_iload 2) ((xe_iaload).trans (congrArg (x_iaload) xe_nil))))))))))))))))))))))))))))))))))))))))
theorem bk_X11_playAnew_130 : ck_ fX11 (some .int) cX11_playAnew 130 [.iload 3, .iload 5, .ifCond .eq 140, .iconst 0, .goto 141] 140 = true := qck_r (nn_ _) (by decide +kernel)
theorem bs_X11_playAnew_130 {P : Zt → Option Zv → Prop} (K : Int → Zl → List Zv → Zt → Prop) : sx_ K P [.iload 3, .iload 5, .ifCond .eq 140, .iconst 0, .goto 141] 140 = x_iload 3 (x_iload 5 (x_ifCond .eq 140 K (x_iconst 0 (x_goto 141 K)))) := ((xe_iload 3).trans (congrArg (x_iload 3) ((xe_iload 5).trans (congrArg (x_iload 5) ((xe_ifCond .eq 140).trans (congrArg (x_ifCond .eq 140 K) ((xe_iconst 0).trans (congrArg (x_iconst 0) (xe_goto 141)))))))))
theorem bk_X11_playAnew_140 : ck_ fX11 (some .int) cX11_playAnew 140 [.iconst 1, .fadd, .istore 3, .iload 4, .istore 2, .goto 28] 149 = true := qck_r (nn_ _) (by decide +kernel)
theorem bs_X11_playAnew_140 {P : Zt → Option Zv → Prop} (K : Int → Zl → List Zv → Zt → Prop) : sx_ K P [.iconst 1, .fadd, .istore 3, .iload 4, .istore 2, .goto 28] 149 = x_iconst 1 (x_fadd (x_istore 3 (x_iload 4 (x_istore 2 (x_goto 28 K))))) := ((xe_iconst 1).trans (congrArg (x_iconst 1) ((xe_fadd).trans (congrArg (x_fadd) ((xe_istore 3).trans (congrArg (x_istore 3) ((xe_iload 4).trans (congrArg (x_iload 4) ((xe_istore 2).trans (congrArg (x_istore 2) (xe_goto 28)))))))))))
theorem bk_X11_playAnew_78 : ck_ fX11 (some .int) cX11_playAnew 78 [.istore 5, .aload 0, .iload 1, .iload 2, .iload 5, .ifCond .ne 92, .iconst 1, .goto 93] 92 = true := qck_r (nn_ _) (by decide +kernel)
theorem bs_X11_playAnew_78 {P : Zt → Option Zv → Prop} (K : Int → Zl → List Zv → Zt → Prop) : sx_ K P [.istore 5, .aload 0, .iload 1, .iload 2, .iload 5, .ifCond .ne 92, .iconst 1, .goto 93] 92 = x_istore 5 (x_aload 0 (x_iload 1 (x_iload 2 (x_iload 5 (x_ifCond .ne 92 K (x_iconst 1 (x_goto 93 K))))))) := ((xe_istore 5).trans (congrArg (x_istore 5) ((xe_aload 0).trans (congrArg (x_aload 0) ((xe_iload 1).trans (congrArg (x_iload 1) ((xe_iload 2).trans (congrArg (x_iload 2) ((xe_iload 5).trans (congrArg (x_iload 5) ((xe_ifCond .ne 92).trans (congrArg (x_ifCond .ne 92 K) ((xe_iconst 1).trans (congrArg (x_iconst 1) (xe_goto 93)))))))))))))))
theorem bk_X11_playAnew_92 : ck_ fX11 (some .int) cX11_playAnew 92 [.iconst 0] 93 = true := qck_r (nn_ _) (by decide +kernel)
theorem bs_X11_playAnew_92 {P : Zt → Option Zv → Prop} (K : Int → Zl → List Zv → Zt → Prop) : sx_ K P [.iconst 0] 93 = x_iconst 0 (K 93) := ((xe_iconst 0).trans (congrArg (x_iconst 0) xe_nil))
theorem bk_X11_playAnew_141 : ck_ fX11 (some .int) cX11_playAnew 141 [.fadd, .istore 3, .iload 4, .istore 2, .goto 28] 149 = true := qck_r (nn_ _) (by decide +kernel)
theorem bs_X11_playAnew_141 {P : Zt → Option Zv → Prop} (K : Int → Zl → List Zv → Zt → Prop) : sx_ K P [.fadd, .istore 3, .iload 4, .istore 2, .goto 28] 149 = x_fadd (x_istore 3 (x_iload 4 (x_istore 2 (x_goto 28 K)))) := ((xe_fadd).trans (congrArg (x_fadd) ((xe_istore 3).trans (congrArg (x_istore 3) ((xe_iload 4).trans (congrArg (x_iload 4) ((xe_istore 2).trans (congrArg (x_istore 2) (xe_goto 28)))))))))
theorem bk_X11_playAnew_0 : ck_ fX11 (some .int) cX11_playAnew 0 [.aload 0, .tableswitch 0 11 53 #[], .iload 1, .iaload, .istore 2, .aload 0, .tableswitch 0 11 53 #[], .iload 1, .iconst (-1), .iastore, .aload 0, .tableswitch 0 11 54 #[], .iload 1, .iconst 0, .iastore, .iconst 0, .istore 3, .aload 0, .iload 1] 25 = true := qck_r (nn_ _) (by decide +kernel)
theorem bs_X11_playAnew_0 {P : Zt → Option Zv → Prop} (K : Int → Zl → List Zv → Zt → Prop) : sx_ K P [.aload 0, .tableswitch 0 11 53 #[], .iload 1, .iaload, .istore 2, .aload 0, .tableswitch 0 11 53 #[], .iload 1, .iconst (-1), .iastore, .aload 0, .tableswitch 0 11 54 #[], .iload 1, .iconst 0, .iastore, .iconst 0, .istore 3, .aload 0, .iload 1] 25 = x_aload 0 (x_g1 111 253 (x_iload 1 (x_iaload (x_istore 2 (x_aload 0 (x_g1 111 253 (x_iload 1 (x_iconst (-1) (x_iastore (x_aload 0 (x_g1 111 254 (x_iload 1 (x_iconst 0 (x_iastore (x_iconst 0 (x_istore 3 (x_aload 0 (x_iload 1 (K 25))))))))))))))))))) := ((xe_aload 0).trans (congrArg (x_aload 0) ((xe_g1 (kk := 111) rfl tl_11_53).trans (congrArg (x_g1 111 253) ((xe_iload 1).trans (congrArg (x_iload 1) ((xe_iaload).trans (congrArg (x_iaload) ((xe_istore 2).trans (congrArg (x_istore 2) ((xe_aload 0).trans (congrArg (x_aload 0) ((xe_g1 (kk := 111) rfl tl_11_53).trans (congrArg (x_g1 111 253) ((xe_iload 1).trans (congrArg (x_iload 1) ((xe_iconst (-1)).trans (congrArg (x_iconst (-1)) ((xe_iastore).trans (congrArg (x_iastore) ((xe_aload 0).trans (congrArg (x_aload 0) ((xe_g1 (kk := 111) rfl tl_11_54).trans (congrArg (x_g1 111 254) ((xe_iload 1).trans (congrArg (x_iload 1) ((xe_iconst 0).trans (congrArg (x_iconst 0) ((xe_iastore).trans (congrArg (x_iastore) ((xe_iconst 0).trans (congrArg (x_iconst 0) ((xe_istore 3).trans (congrArg (x_istore 3) ((xe_aload 0).trans (congrArg (x_aload 0) ((xe_iload 1).trans (congrArg (x_iload 1) xe_nil))))))))))))))))))))))))))))))))))))))
abbrev po_X11_playAnew (T : Zt) (m : Int) : Zt → Option Zv → Prop := fun T' r => ∃ x : Int, r = some (vI x) ∧ fr_ [(252, []), (253, []), (255, []), (254, []), (256, []), (244, []), (241, []), (242, []), (243, []), (245, []), (246, []), (236, []), (237, []), (235, [])] T T' ∧ (FM_ T' ∧ RX_ T' [] ∧ ZS_ T' ∧ GX_ T' (-1) ∧ ∀ j, j ≠ m → T' 254 0 j = T 254 0 j ∧ T' 256 0 j = T 256 0 j)
set_option maxHeartbeats 4000000 in
theorem ct_X11_playAnew {T : Zt} {m : Int} (h1 : 0 ≤ m ∧ m < T 111 0 29) (hmc : MC_ T) (hri : RI_ T) (hfm : FM_ T) (hrx : RX_ T []) (hzs : ZS_ T) (hgx : GX_ T m) : Ct_ yX11_playAnew zX11_playAnew T [vR 111 0, vI m] (po_X11_playAnew T m) := by
  refine ct_of pn_11 rfl rfl (Nat.le_of_ble_eq_true rfl) (fun hT hav => ?_)
  have hr_m : -2147483648 ≤ m ∧ m ≤ 2147483647 := hav (vI m) (by simp)
  have hz : zX11_playAnew.2.2.2.1 = some .boolean → ∀ (T' : Zt) (x : Int), po_X11_playAnew T m T' (some (vI x)) → 0 ≤ x ∧ x ≤ 1 := fun h => by cases h
  have hb_29 : 0 ≤ T 111 0 29 ∧ T 111 0 29 ≤ 400 := bd_f hT 111 29 (by decide +kernel : (tf_ 111)[29]? = some (0, 0, 0, 400)) 0
  have hb_6 : 0 ≤ T 111 0 6 ∧ T 111 0 6 ≤ 4 := bd_f hT 111 6 (by decide +kernel : (tf_ 111)[6]? = some (0, 0, 0, 4)) 0
  show J_ zX11_playAnew T (po_X11_playAnew T m) 0 0 0 [some (vR 111 0), some (vI m), none, none, none, none] [] T
  have c_28 : ∀ (nn : Nat) (w : Int) (cn : Int) (l : List Int) (T1 : Zt), (l.length) ≤ nn → (fr_ [(252, []), (253, []), (255, []), (254, []), (256, []), (244, []), (241, []), (242, []), (243, []), (245, []), (246, []), (236, []), (237, []), (235, [])] T T1) → (FM_ T1) → (RX_ T1 l) → (lk_ T1 w l) → (SO_ T T1 m) → (0 ≤ T1 254 0 m ∧ T1 254 0 m ≤ 3000) → (SB1_ T1 m (4 * T1 254 0 m + 9)) → (∀ j, j ≠ m → T1 254 0 j = T 254 0 j) → (∀ j, j ≠ m → T1 256 0 j = T 256 0 j) → J_ zX11_playAnew T (po_X11_playAnew T m) 0 0 28 [some (vR 111 0), some (vI m), some (vI w), some (vI cn), none, none] [] T1 := by
    intro nn
    induction nn using Nat.strongRecOn with
    | _ nn ih_28 =>
      intro w cn l T1 hm_28 hf_28 fm1 rx1 lk1 so1 rm1 sb1 ro1 ao1
      refine j_blx (F := fX11) tb_X11 (nn_ _) bk_X11_playAnew_28 bs_X11_playAnew_28 hz (fun K hK => ?_)
      refine And.intro (fun c1 => ?_) (fun c1 => ?_)
      · refine hK 149 _ [] T1 ?_
        refine j_blx (F := fX11) tb_X11 (nn_ _) bk_X11_playAnew_149 bs_X11_playAnew_149 hz (fun K hK => ?_)
        refine (show po_X11_playAnew T m T1 (some (vI cn)) from ?_)
        exact ⟨_, rfl, fr_t (fr_0 _ _) (fr_s hf_28 rfl), fm1, rx_nil rx1, zs_o hzs so1 (fun j => hf_28 239 0 j rfl), gx_o hgx so1 sb1 ro1, fun j hj => ⟨ro1 j hj, ao1 j hj⟩⟩
      · obtain ⟨lt, el, hw, hlt⟩ := lk_c lk1 (by omega)
        subst el
        refine ix_i (by omega) ?_
        intro b2 b2b
        refine ix_i (by omega) ?_
        intro b3 b3b
        have e4 : T1 248 0 w = T 248 0 w := hf_28 248 0 w rfl
        rw [e4] at b3 b3b ⊢
        refine ix_i (by omega) ?_
        intro b5 b5b
        have e6 : T1 249 0 w = T 249 0 w := hf_28 249 0 w rfl
        rw [e6] at b5 b5b ⊢
        refine ix_i (by omega) ?_
        intro b7 b7b
        have e8 : T1 250 0 w = T 250 0 w := hf_28 250 0 w rfl
        rw [e8] at b7 b7b ⊢
        refine ix_i (by omega) ?_
        intro b9 b9b
        have e10 : T1 251 0 w = T 251 0 w := hf_28 251 0 w rfl
        rw [e10] at b9 b9b ⊢
        refine hK 67 [some (vR 111 0), some (vI m), some (vI w), some (vI cn), some (vI (T1 252 0 w)), none] [vI (T 251 0 w), vI (T 250 0 w), vI (T 249 0 w), vI (T 248 0 w), vI m, vR 111 0] T1 ?_
        refine j_callV (y := yX11_lawOf) (Yc := zX11_lawOf) (rest := []) [vI m, vI (T 248 0 w), vI (T 249 0 w), vI (T 250 0 w), vI (T 251 0 w)] (ct_X11_lawOf (T := T1) (by omega)) cl_X11_459 (qd_c (by decide +kernel)) (nn_ _) rfl (rf_of rfl) (Nat.le_of_ble_eq_true rfl) (Nat.le_of_ble_eq_true rfl) (Nat.le_of_ble_eq_true rfl) rfl ?_
        rintro _ _ ⟨rfl, x11, rfl, hx11⟩
        show J_ zX11_playAnew T (po_X11_playAnew T m) 0 0 70 _ [vI x11] T1
        refine j_blx (F := fX11) tb_X11 (nn_ _) bk_X11_playAnew_70 bs_X11_playAnew_70 hz (fun K hK => ?_)
        refine And.intro (fun c12 => ?_) (fun c12 => ?_)
        · refine hK 77 _ [] T1 ?_
          refine j_blx (F := fX11) tb_X11 (nn_ _) bk_X11_playAnew_77 bs_X11_playAnew_77 hz (fun K hK => ?_)
          refine And.intro (fun c13 => ?_) (fun c13 => ?_)
          · exact absurd c13 (by decide)
          · refine hK 93 [some (vR 111 0), some (vI m), some (vI w), some (vI cn), some (vI (T1 252 0 w)), some (vI 0)] [vI 1, vI w, vI m, vR 111 0] T1 ?_
            have e14 : T1 111 0 29 = T 111 0 29 := hf_28 111 0 29 rfl
            refine j_callV (y := yX11_putBehind) (Yc := zX11_putBehind) (rest := []) [vI m, vI w, vI 1] (ct_X11_putBehind_1 (T := T1) (rest := lt) (by omega) (rx1)) cl_X11_466 (qd_c (by decide +kernel)) (nn_ _) rfl (rf_of rfl) (Nat.le_of_ble_eq_true rfl) (Nat.le_of_ble_eq_true rfl) (Nat.le_of_ble_eq_true rfl) rfl ?_
            rintro U15 _ ⟨rfl, fU15, qU15a, qU15b, qU15c, qU15d, qU15e, qU15g⟩
            show J_ zX11_playAnew T (po_X11_playAnew T m) 0 0 96 _ [] U15
            refine j_blx (F := fX11) tb_X11 (nn_ _) bk_X11_playAnew_96 bs_X11_playAnew_96 hz (fun K hK => ?_)
            refine And.intro (fun c16 => ?_) (fun c16 => ?_)
            · refine hK 130 _ [] U15 ?_
              refine j_blx (F := fX11) tb_X11 (nn_ _) bk_X11_playAnew_130 bs_X11_playAnew_130 hz (fun K hK => ?_)
              refine And.intro (fun c17 => ?_) (fun c17 => ?_)
              · refine hK 140 _ [vI cn] U15 ?_
                refine j_blx (F := fX11) tb_X11 (nn_ _) bk_X11_playAnew_140 bs_X11_playAnew_140 hz (fun K hK => ?_)
                intro w18 w18b
                refine hK 28 [some (vR 111 0), some (vI m), some (vI (T1 252 0 w)), some (vI (wr_ (cn + 1))), some (vI (T1 252 0 w)), some (vI 0)] [] U15 ?_
                refine j_drop [some (vR 111 0), some (vI m), some (vI (T1 252 0 w)), some (vI (wr_ (cn + 1))), none, none] (fun k v hk => ?_) rfl ?_
                · match k, hk with
                  | 0, hk => exact hk
                  | 1, hk => exact hk
                  | 2, hk => exact hk
                  | 3, hk => exact hk
                  | 4, hk => cases hk
                  | 5, hk => cases hk
                  | k + 6, hk => cases hk
                refine ih_28 _ ?_ (T1 252 0 w) (wr_ (cn + 1)) lt U15 (Nat.le_refl _) ?_ ?_ ?_ ?_ ?_ ?_ ?_ ?_ ?_
                · simp only [List.length_cons] at hm_28; omega
                · exact fr_t (fr_t (fr_0 _ _) (fr_s hf_28 rfl)) (fr_s fU15 rfl)
                · exact FM__f (ws := [(252, []), (255, []), (254, []), (256, [])]) (fm1) fU15 ⟨fun _ => rfl, fun _ => rfl, trivial⟩
                · exact qU15a
                · exact lk_e hlt qU15b
                · exact so_f (ws := [(252, []), (255, []), (254, []), (256, [])]) (so1) fU15 ⟨fun _ => rfl, fun _ => rfl, fun _ => rfl⟩
                · have e7 := qU15c
                  have e8 := qU15e
                  omega
                · have e7 := qU15c
                  exact sb1_m (sb1_f (ws := [(252, []), (255, []), (254, []), (256, [])]) (sb1) fU15 ⟨fun _ => rfl, fun _ => rfl, fun _ => rfl⟩) (by omega)
                · intro j hj
                  exact (qU15d j hj).trans (ro1 j hj)
                · intro j hj
                  exact (qU15g j hj).trans (ao1 j hj)
              · exact absurd c17 (by decide)
            · exact absurd c16 (by decide)
        · have hlw := hx11.2 (by omega)
          refine hK 78 _ [vI 1] T1 ?_
          refine j_blx (F := fX11) tb_X11 (nn_ _) bk_X11_playAnew_78 bs_X11_playAnew_78 hz (fun K hK => ?_)
          refine And.intro (fun c19 => ?_) (fun c19 => ?_)
          · refine hK 92 [some (vR 111 0), some (vI m), some (vI w), some (vI cn), some (vI (T1 252 0 w)), some (vI 1)] [vI w, vI m, vR 111 0] T1 ?_
            refine j_blx (F := fX11) tb_X11 (nn_ _) bk_X11_playAnew_92 bs_X11_playAnew_92 hz (fun K hK => ?_)
            refine hK 93 _ [vI 0, vI w, vI m, vR 111 0] T1 ?_
            have e20 : T1 111 0 29 = T 111 0 29 := hf_28 111 0 29 rfl
            refine j_callV (y := yX11_putBehind) (Yc := zX11_putBehind) (rest := []) [vI m, vI w, vI 0] (ct_X11_putBehind_0 (T := T1) (rest := lt) (by omega) (rx1)) cl_X11_466 (qd_c (by decide +kernel)) (nn_ _) rfl (rf_of rfl) (Nat.le_of_ble_eq_true rfl) (Nat.le_of_ble_eq_true rfl) (Nat.le_of_ble_eq_true rfl) rfl ?_
            rintro U21 _ ⟨rfl, fU21, qU21a, qU21b, qU21c, qU21d, qU21e, qU21g⟩
            show J_ zX11_playAnew T (po_X11_playAnew T m) 0 0 96 _ [] U21
            refine j_blx (F := fX11) tb_X11 (nn_ _) bk_X11_playAnew_96 bs_X11_playAnew_96 hz (fun K hK => ?_)
            refine And.intro (fun c22 => ?_) (fun c22 => ?_)
            · exact absurd c22 (by decide)
            · refine ix_i (by omega) ?_
              intro b23 b23b
              have e24 : U21 248 0 w = T 248 0 w := (fU21 248 0 w rfl).trans (hf_28 248 0 w rfl)
              rw [e24] at b23 b23b ⊢
              refine ix_i (by omega) ?_
              intro b25 b25b
              have e26 : U21 249 0 w = T 249 0 w := (fU21 249 0 w rfl).trans (hf_28 249 0 w rfl)
              rw [e26] at b25 b25b ⊢
              refine ix_i (by omega) ?_
              intro b27 b27b
              have e28 : U21 250 0 w = T 250 0 w := (fU21 250 0 w rfl).trans (hf_28 250 0 w rfl)
              rw [e28] at b27 b27b ⊢
              refine ix_i (by omega) ?_
              intro b29 b29b
              have e30 : U21 251 0 w = T 251 0 w := (fU21 251 0 w rfl).trans (hf_28 251 0 w rfl)
              rw [e30] at b29 b29b ⊢
              refine hK 127 _ [vI (T 251 0 w), vI (T 250 0 w), vI (T 249 0 w), vI (T 248 0 w), vI m, vR 111 0] U21 ?_
              have e31 : U21 111 0 29 = T 111 0 29 := (fU21 111 0 29 rfl).trans (hf_28 111 0 29 rfl)
              have fy : fr_ [(252, []), (253, []), (254, []), (256, [])] T1 U21 := fr_t (fr_0 _ _) (fr_s fU21 rfl)
              refine j_callV (y := yX11_play) (Yc := zX11_play) (rest := []) [vI m, vI (T 248 0 w), vI (T 249 0 w), vI (T 250 0 w), vI (T 251 0 w)] (ct_X11_play (T := U21) (bu := 4 * T1 254 0 m + 9) (by omega) (by exact MC__f (ws := [(252, []), (253, []), (254, []), (256, []), (255, []), (244, []), (241, []), (242, []), (243, []), (245, []), (246, []), (236, []), (237, []), (235, [])]) hmc (fr_t (fr_t (fr_0 _ _) (fr_s hf_28 rfl)) (fr_s fU21 rfl)) ⟨fun _ => rfl, rfl, rfl, trivial⟩) (by exact RI__f (ws := [(252, []), (253, []), (254, []), (256, []), (255, []), (244, []), (241, []), (242, []), (243, []), (245, []), (246, []), (236, []), (237, []), (235, [])]) hri (fr_t (fr_t (fr_0 _ _) (fr_s hf_28 rfl)) (fr_s fU21 rfl)) ⟨fun _ => rfl, rfl, trivial⟩) (by exact FM__f (ws := [(252, []), (253, []), (254, []), (256, [])]) (fm1) fU21 ⟨fun _ => rfl, fun _ => rfl, trivial⟩) (by exact LW_f hlw (fun k j h => fy k 0 j (by rcases h with rfl | rfl | rfl | rfl | rfl <;> rfl))) (by omega) (sb1_f (ws := [(252, []), (253, []), (254, []), (256, [])]) (sb1) fU21 ⟨fun _ => rfl, fun _ => rfl, fun _ => rfl⟩)) cl_X11_470 (qd_c (by decide +kernel)) (nn_ _) rfl (rf_of rfl) (Nat.le_of_ble_eq_true rfl) (Nat.le_of_ble_eq_true rfl) (Nat.le_of_ble_eq_true rfl) rfl ?_
              rintro U32 _ ⟨rfl, fU32, ⟨qU32, qU32o, qU32b⟩⟩
              show J_ zX11_playAnew T (po_X11_playAnew T m) 0 0 130 _ [] U32
              refine j_blx (F := fX11) tb_X11 (nn_ _) bk_X11_playAnew_130 bs_X11_playAnew_130 hz (fun K hK => ?_)
              refine And.intro (fun c33 => ?_) (fun c33 => ?_)
              · exact absurd c33 (by decide)
              · refine hK 141 _ [vI 0, vI cn] U32 ?_
                refine j_blx (F := fX11) tb_X11 (nn_ _) bk_X11_playAnew_141 bs_X11_playAnew_141 hz (fun K hK => ?_)
                intro w34 w34b
                refine hK 28 [some (vR 111 0), some (vI m), some (vI (T1 252 0 w)), some (vI (wr_ (cn + 0))), some (vI (T1 252 0 w)), some (vI 1)] [] U32 ?_
                refine j_drop [some (vR 111 0), some (vI m), some (vI (T1 252 0 w)), some (vI (wr_ (cn + 0))), none, none] (fun k v hk => ?_) rfl ?_
                · match k, hk with
                  | 0, hk => exact hk
                  | 1, hk => exact hk
                  | 2, hk => exact hk
                  | 3, hk => exact hk
                  | 4, hk => cases hk
                  | 5, hk => cases hk
                  | k + 6, hk => cases hk
                have e35 : U32 254 0 m = U21 254 0 m := fU32 254 0 m rfl
                refine ih_28 _ ?_ (T1 252 0 w) (wr_ (cn + 0)) lt U32 (Nat.le_refl _) ?_ ?_ ?_ ?_ ?_ ?_ ?_ ?_ ?_
                · simp only [List.length_cons] at hm_28; omega
                · exact fr_t (fr_t (fr_t (fr_0 _ _) (fr_s hf_28 rfl)) (fr_s fU21 rfl)) (fr_s fU32 rfl)
                · exact qU32
                · exact rx_f (qU21a) (fU32 111 0 29 rfl) (fU32 111 0 47 rfl) (fun k j h => fU32 k 0 j (by rcases h with rfl | rfl | rfl | rfl | rfl <;> rfl))
                · exact lk_e (lk_e hlt qU21b) (fun x _ => fU32 252 0 x rfl)
                · exact so_t (so_f (ws := [(252, []), (253, []), (254, []), (256, [])]) (so1) fU21 ⟨fun _ => rfl, fun _ => rfl, fun _ => rfl⟩) qU32o (fun j => (fU21 239 0 j rfl).trans (hf_28 239 0 j rfl))
                · have e7 := (fU32 254 0 m rfl).trans qU21c
                  have e8 := qU21e
                  have e9 := fU32 254 0 m rfl
                  omega
                · have e7 := (fU32 254 0 m rfl).trans qU21c
                  exact sb1_m (qU32b) (by omega)
                · intro j hj
                  exact (fU32 254 0 j rfl).trans ((qU21d j hj).trans (ro1 j hj))
                · intro j hj
                  exact (fU32 256 0 j rfl).trans ((qU21g j hj).trans (ao1 j hj))
          · exact absurd c19 (by decide)
  refine j_blx (F := fX11) tb_X11 (nn_ _) bk_X11_playAnew_0 bs_X11_playAnew_0 hz (fun K hK => ?_)
  refine ix_i (by omega) ?_
  intro b36 b36b
  refine iy_i (by omega) (by omega) ?_
  refine x_nm (fun U37 hU37 => ?_)
  have e38 := up_f hU37
  refine iy_i (by omega) (by omega) ?_
  refine x_nm (fun U39 hU39 => ?_)
  have e40 := up_f hU39
  refine hK 25 [some (vR 111 0), some (vI m), some (vI (T 253 0 m)), some (vI 0), none, none] [vI m, vR 111 0] U39 ?_
  have fz : fr_ [(254, []), (253, [])] T U39 := fr_u (fr_u (fr_0 _ _) hU37 rfl) hU39 rfl
  obtain ⟨l0, rx0, lk0⟩ := rx_take (T' := U39) hrx h1 (fz 111 0 29 rfl) (fz 111 0 47 rfl) (fun z => fz 252 0 z rfl) (fun j hj => (up_k hU39 (by exact Nat.ne_of_beq_eq_false rfl) 0 j).trans (up_g hU37 (fun q => hj q.2.2))) (fun j hj => (up_g hU39 (fun q => hj q.2.2)).trans (up_k hU37 (by exact Nat.ne_of_beq_eq_false rfl) 0 j)) (fun j => fz 255 0 j rfl) (fun j => fz 256 0 j rfl) ((up_k hU39 (by exact Nat.ne_of_beq_eq_false rfl) 0 m).trans (up_f hU37)) (up_f hU39)
  have e41 : U39 111 0 29 = T 111 0 29 := (up_k hU39 (by exact Nat.ne_of_beq_eq_false rfl) 0 29).trans (up_k hU37 (by exact Nat.ne_of_beq_eq_false rfl) 0 29)
  refine j_callV (y := yX11_layBeginning) (Yc := zX11_layBeginning) (rest := []) [vI m] (ct_X11_layBeginning (T := U39) (by omega) (MC__f (ws := [(254, []), (253, [])]) hmc (fr_u (fr_u (fr_0 _ _) hU37 rfl) hU39 rfl) ⟨fun _ => rfl, rfl, rfl, trivial⟩) (RI__f (ws := [(254, []), (253, [])]) hri (fr_u (fr_u (fr_0 _ _) hU37 rfl) hU39 rfl) ⟨fun _ => rfl, rfl, trivial⟩) (FM__f (ws := [(254, [])]) (FM__f (ws := [(253, [])]) (hfm) (fr_u (fr_0 _ _) hU37 rfl) ⟨fun _ => rfl, fun _ => rfl, trivial⟩) (fr_u (fr_0 _ _) hU39 rfl) ⟨fun _ => rfl, fun _ => rfl, trivial⟩) (ZS__f (ws := [(254, []), (253, [])]) hzs (fr_u (fr_u (fr_0 _ _) hU37 rfl) hU39 rfl) ⟨fun _ => rfl, fun _ => rfl, trivial⟩)) cl_X11_390 (qd_c (by decide +kernel)) (nn_ _) rfl (rf_of rfl) (Nat.le_of_ble_eq_true rfl) (Nat.le_of_ble_eq_true rfl) (Nat.le_of_ble_eq_true rfl) rfl ?_
  rintro U42 _ ⟨rfl, fU42, ⟨qU42, qU42o, qU42b⟩⟩
  show J_ zX11_playAnew T (po_X11_playAnew T m) 0 0 28 _ [] U42
  have e43 : U42 254 0 m = 0 := (fU42 254 0 m rfl).trans (up_f hU39)
  refine c_28 _ (T 253 0 m) 0 l0 U42 (Nat.le_refl _) ?_ ?_ ?_ ?_ ?_ ?_ ?_ ?_ ?_
  · exact fr_t (fr_u (fr_u (fr_0 _ _) hU37 rfl) hU39 rfl) (fr_s fU42 rfl)
  · exact qU42
  · exact rx_f (rx0) (fU42 111 0 29 rfl) (fU42 111 0 47 rfl) (fun k j h => fU42 k 0 j (by rcases h with rfl | rfl | rfl | rfl | rfl <;> rfl))
  · exact lk_e lk0 (fun x _ => fU42 252 0 x rfl)
  · exact so_t (so_f (ws := [(254, [])]) (so_f (ws := [(253, [])]) (so_r) (fr_u (fr_0 _ _) hU37 rfl) ⟨fun _ => rfl, fun _ => rfl, fun _ => rfl⟩) (fr_u (fr_0 _ _) hU39 rfl) ⟨fun _ => rfl, fun _ => rfl, fun _ => rfl⟩) qU42o (fun j => (up_k hU39 (by exact Nat.ne_of_beq_eq_false rfl) 0 j).trans (up_k hU37 (by exact Nat.ne_of_beq_eq_false rfl) 0 j))
  · have e7 : U42 254 0 m = 0 := (fU42 254 0 m rfl).trans (up_f hU39)
    omega
  · have e7 : U42 254 0 m = 0 := (fU42 254 0 m rfl).trans (up_f hU39)
    exact sb1_m qU42b (by omega)
  · intro j hj
    exact (fU42 254 0 j rfl).trans ((up_g hU39 (fun q => hj q.2.2)).trans (up_k hU37 (by exact Nat.ne_of_beq_eq_false rfl) 0 j))
  · intro j hj
    exact (fU42 256 0 j rfl).trans ((up_k hU39 (by exact Nat.ne_of_beq_eq_false rfl) 0 j).trans (up_k hU37 (by exact Nat.ne_of_beq_eq_false rfl) 0 j))
abbrev cX11_review : ByteArray := prog_13_method_76_code
def yX11_review : MethodName := ⟨RX11, "review", "(IIIIII)I"⟩
def zX11_review : Zm := (RX11, cX11_review, 9, (some .int), { frames := 6, cells := 0, slots := 0, locals := 148 })
theorem bk_X11_review_0 : ck_ fX11 (some .int) cX11_review 0 [.iload 1, .aload 0, .tableswitch 0 11 29 #[]] 5 = true := qck_r (nn_ _) (by decide +kernel)
theorem bs_X11_review_0 {P : Zt → Option Zv → Prop} (K : Int → Zl → List Zv → Zt → Prop) : sx_ K P [.iload 1, .aload 0, .tableswitch 0 11 29 #[]] 5 = x_iload 1 (x_aload 0 (x_g0 111 29 0 400 (K 5))) := ((xe_iload 1).trans (congrArg (x_iload 1) ((xe_aload 0).trans (congrArg (x_aload 0) ((xe_g0 (kk := 111) rfl tl_11_29).trans (congrArg (x_g0 111 29 0 400) xe_nil))))))
theorem bk_X11_review_8 : ck_ fX11 (some .int) cX11_review 8 [.ifCond .eq 24, .iload 2, .aload 0, .tableswitch 0 11 54 #[], .iload 1, .iaload] 18 = true := qck_r (nn_ _) (by decide +kernel)
theorem bs_X11_review_8 {P : Zt → Option Zv → Prop} (K : Int → Zl → List Zv → Zt → Prop) : sx_ K P [.ifCond .eq 24, .iload 2, .aload 0, .tableswitch 0 11 54 #[], .iload 1, .iaload] 18 = x_ifCond .eq 24 K (x_iload 2 (x_aload 0 (x_g1 111 254 (x_iload 1 (x_iaload (K 18)))))) := ((xe_ifCond .eq 24).trans (congrArg (x_ifCond .eq 24 K) ((xe_iload 2).trans (congrArg (x_iload 2) ((xe_aload 0).trans (congrArg (x_aload 0) ((xe_g1 (kk := 111) rfl tl_11_54).trans (congrArg (x_g1 111 254) ((xe_iload 1).trans (congrArg (x_iload 1) ((xe_iaload).trans (congrArg (x_iaload) xe_nil))))))))))))
theorem bk_X11_review_24 : ck_ fX11 (some .int) cX11_review 24 [.iconst (-2), .ireturn] 27 = true := qck_r (nn_ _) (by decide +kernel)
theorem bs_X11_review_24 {P : Zt → Option Zv → Prop} (K : Int → Zl → List Zv → Zt → Prop) : sx_ K P [.iconst (-2), .ireturn] 27 = x_iconst (-2) (x_ireturn P) := ((xe_iconst (-2)).trans (congrArg (x_iconst (-2)) (xe_ireturn)))
theorem bk_X11_review_21 : ck_ fX11 (some .int) cX11_review 21 [.ifCond .ne 27, .iconst (-2), .ireturn] 27 = true := qck_r (nn_ _) (by decide +kernel)
theorem bs_X11_review_21 {P : Zt → Option Zv → Prop} (K : Int → Zl → List Zv → Zt → Prop) : sx_ K P [.ifCond .ne 27, .iconst (-2), .ireturn] 27 = x_ifCond .ne 27 K (x_iconst (-2) (x_ireturn P)) := ((xe_ifCond .ne 27).trans (congrArg (x_ifCond .ne 27 K) ((xe_iconst (-2)).trans (congrArg (x_iconst (-2)) (xe_ireturn)))))
theorem bk_X11_review_27 : ck_ fX11 (some .int) cX11_review 27 [.aload 0, .aload 0, .tableswitch 0 11 30 #[], .iload 1, .iaload, .iconst 0] 35 = true := qck_r (nn_ _) (by decide +kernel)
theorem bs_X11_review_27 {P : Zt → Option Zv → Prop} (K : Int → Zl → List Zv → Zt → Prop) : sx_ K P [.aload 0, .aload 0, .tableswitch 0 11 30 #[], .iload 1, .iaload, .iconst 0] 35 = x_aload 0 (x_aload 0 (x_g1 111 230 (x_iload 1 (x_iaload (x_iconst 0 (K 35)))))) := ((xe_aload 0).trans (congrArg (x_aload 0) ((xe_aload 0).trans (congrArg (x_aload 0) ((xe_g1 (kk := 111) rfl tl_11_30).trans (congrArg (x_g1 111 230) ((xe_iload 1).trans (congrArg (x_iload 1) ((xe_iaload).trans (congrArg (x_iaload) ((xe_iconst 0).trans (congrArg (x_iconst 0) xe_nil))))))))))))
theorem bk_X11_review_38 : ck_ fX11 (some .int) cX11_review 38 [.istore 7, .aload 0, .aload 0, .tableswitch 0 11 53 #[], .iload 1, .iaload, .iload 2] 48 = true := qck_r (nn_ _) (by decide +kernel)
theorem bs_X11_review_38 {P : Zt → Option Zv → Prop} (K : Int → Zl → List Zv → Zt → Prop) : sx_ K P [.istore 7, .aload 0, .aload 0, .tableswitch 0 11 53 #[], .iload 1, .iaload, .iload 2] 48 = x_istore 7 (x_aload 0 (x_aload 0 (x_g1 111 253 (x_iload 1 (x_iaload (x_iload 2 (K 48))))))) := ((xe_istore 7).trans (congrArg (x_istore 7) ((xe_aload 0).trans (congrArg (x_aload 0) ((xe_aload 0).trans (congrArg (x_aload 0) ((xe_g1 (kk := 111) rfl tl_11_53).trans (congrArg (x_g1 111 253) ((xe_iload 1).trans (congrArg (x_iload 1) ((xe_iaload).trans (congrArg (x_iaload) ((xe_iload 2).trans (congrArg (x_iload 2) xe_nil))))))))))))))
theorem bk_X11_review_51 : ck_ fX11 (some .int) cX11_review 51 [.istore 8, .iload 3, .iconst (-1), .if_icmp .ne 119, .iload 2, .ifCond .ne 78, .aload 0, .tableswitch 0 11 53 #[], .iload 1, .aload 0, .tableswitch 0 11 52 #[], .iload 8, .iaload, .iastore, .goto 103] 78 = true := qck_r (nn_ _) (by decide +kernel)
theorem bs_X11_review_51 {P : Zt → Option Zv → Prop} (K : Int → Zl → List Zv → Zt → Prop) : sx_ K P [.istore 8, .iload 3, .iconst (-1), .if_icmp .ne 119, .iload 2, .ifCond .ne 78, .aload 0, .tableswitch 0 11 53 #[], .iload 1, .aload 0, .tableswitch 0 11 52 #[], .iload 8, .iaload, .iastore, .goto 103] 78 = x_istore 8 (x_iload 3 (x_iconst (-1) (x_if_icmp .ne 119 K (x_iload 2 (x_ifCond .ne 78 K (x_aload 0 (x_g1 111 253 (x_iload 1 (x_aload 0 (x_g1 111 252 (x_iload 8 (x_iaload (x_iastore (x_goto 103 K)))))))))))))) := ((xe_istore 8).trans (congrArg (x_istore 8) ((xe_iload 3).trans (congrArg (x_iload 3) ((xe_iconst (-1)).trans (congrArg (x_iconst (-1)) ((xe_if_icmp .ne 119).trans (congrArg (x_if_icmp .ne 119 K) ((xe_iload 2).trans (congrArg (x_iload 2) ((xe_ifCond .ne 78).trans (congrArg (x_ifCond .ne 78 K) ((xe_aload 0).trans (congrArg (x_aload 0) ((xe_g1 (kk := 111) rfl tl_11_53).trans (congrArg (x_g1 111 253) ((xe_iload 1).trans (congrArg (x_iload 1) ((xe_aload 0).trans (congrArg (x_aload 0) ((xe_g1 (kk := 111) rfl tl_11_52).trans (congrArg (x_g1 111 252) ((xe_iload 8).trans (congrArg (x_iload 8) ((xe_iaload).trans (congrArg (x_iaload) ((xe_iastore).trans (congrArg (x_iastore) (xe_goto 103)))))))))))))))))))))))))))))
theorem bk_X11_review_119 : ck_ fX11 (some .int) cX11_review 119 [.aload 0, .iload 7, .iload 3, .iload 4] 125 = true := qck_r (nn_ _) (by decide +kernel)
theorem bs_X11_review_119 {P : Zt → Option Zv → Prop} (K : Int → Zl → List Zv → Zt → Prop) : sx_ K P [.aload 0, .iload 7, .iload 3, .iload 4] 125 = x_aload 0 (x_iload 7 (x_iload 3 (x_iload 4 (K 125)))) := ((xe_aload 0).trans (congrArg (x_aload 0) ((xe_iload 7).trans (congrArg (x_iload 7) ((xe_iload 3).trans (congrArg (x_iload 3) ((xe_iload 4).trans (congrArg (x_iload 4) xe_nil))))))))
theorem bk_X11_review_128 : ck_ fX11 (some .int) cX11_review 128 [.ifCond .ne 134, .iconst (-12), .ireturn] 134 = true := qck_r (nn_ _) (by decide +kernel)
theorem bs_X11_review_128 {P : Zt → Option Zv → Prop} (K : Int → Zl → List Zv → Zt → Prop) : sx_ K P [.ifCond .ne 134, .iconst (-12), .ireturn] 134 = x_ifCond .ne 134 K (x_iconst (-12) (x_ireturn P)) := ((xe_ifCond .ne 134).trans (congrArg (x_ifCond .ne 134 K) ((xe_iconst (-12)).trans (congrArg (x_iconst (-12)) (xe_ireturn)))))
theorem bk_X11_review_134 : ck_ fX11 (some .int) cX11_review 134 [.iload 7, .iload 3, .iload 6] 139 = true := qck_r (nn_ _) (by decide +kernel)
theorem bs_X11_review_134 {P : Zt → Option Zv → Prop} (K : Int → Zl → List Zv → Zt → Prop) : sx_ K P [.iload 7, .iload 3, .iload 6] 139 = x_iload 7 (x_iload 3 (x_iload 6 (K 139))) := ((xe_iload 7).trans (congrArg (x_iload 7) ((xe_iload 3).trans (congrArg (x_iload 3) ((xe_iload 6).trans (congrArg (x_iload 6) xe_nil))))))
theorem bk_X11_review_142 : ck_ fX11 (some .int) cX11_review 142 [.ifCond .ne 148, .iconst (-17), .ireturn] 148 = true := qck_r (nn_ _) (by decide +kernel)
theorem bs_X11_review_142 {P : Zt → Option Zv → Prop} (K : Int → Zl → List Zv → Zt → Prop) : sx_ K P [.ifCond .ne 148, .iconst (-17), .ireturn] 148 = x_ifCond .ne 148 K (x_iconst (-17) (x_ireturn P)) := ((xe_ifCond .ne 148).trans (congrArg (x_ifCond .ne 148 K) ((xe_iconst (-17)).trans (congrArg (x_iconst (-17)) (xe_ireturn)))))
theorem bk_X11_review_148 : ck_ fX11 (some .int) cX11_review 148 [.aload 0, .tableswitch 0 11 48 #[], .iload 8, .iaload, .iload 3, .if_icmp .ne 198, .aload 0, .tableswitch 0 11 49 #[], .iload 8, .iaload, .iload 4, .if_icmp .ne 198, .aload 0, .tableswitch 0 11 50 #[], .iload 8, .iaload, .iload 5, .if_icmp .ne 198, .aload 0, .tableswitch 0 11 51 #[], .iload 8, .iaload, .iload 6, .if_icmp .ne 198, .iconst (-20), .ireturn] 198 = true := qck_r (nn_ _) (by decide +kernel)
theorem bs_X11_review_148 {P : Zt → Option Zv → Prop} (K : Int → Zl → List Zv → Zt → Prop) : sx_ K P [.aload 0, .tableswitch 0 11 48 #[], .iload 8, .iaload, .iload 3, .if_icmp .ne 198, .aload 0, .tableswitch 0 11 49 #[], .iload 8, .iaload, .iload 4, .if_icmp .ne 198, .aload 0, .tableswitch 0 11 50 #[], .iload 8, .iaload, .iload 5, .if_icmp .ne 198, .aload 0, .tableswitch 0 11 51 #[], .iload 8, .iaload, .iload 6, .if_icmp .ne 198, .iconst (-20), .ireturn] 198 = x_aload 0 (x_g1 111 248 (x_iload 8 (x_iaload (x_iload 3 (x_if_icmp .ne 198 K (x_aload 0 (x_g1 111 249 (x_iload 8 (x_iaload (x_iload 4 (x_if_icmp .ne 198 K (x_aload 0 (x_g1 111 250 (x_iload 8 (x_iaload (x_iload 5 (x_if_icmp .ne 198 K (x_aload 0 (x_g1 111 251 (x_iload 8 (x_iaload (x_iload 6 (x_if_icmp .ne 198 K (x_iconst (-20) (x_ireturn P))))))))))))))))))))))))) := ((xe_aload 0).trans (congrArg (x_aload 0) ((xe_g1 (kk := 111) rfl tl_11_48).trans (congrArg (x_g1 111 248) ((xe_iload 8).trans (congrArg (x_iload 8) ((xe_iaload).trans (congrArg (x_iaload) ((xe_iload 3).trans (congrArg (x_iload 3) ((xe_if_icmp .ne 198).trans (congrArg (x_if_icmp .ne 198 K) ((xe_aload 0).trans (congrArg (x_aload 0) ((xe_g1 (kk := 111) rfl tl_11_49).trans (congrArg (x_g1 111 249) ((xe_iload 8).trans (congrArg (x_iload 8) ((xe_iaload).trans (congrArg (x_iaload) ((xe_iload 4).trans (congrArg (x_iload 4) ((xe_if_icmp .ne 198).trans (congrArg (x_if_icmp .ne 198 K) ((xe_aload 0).trans (congrArg (x_aload 0) ((xe_g1 (kk := 111) rfl tl_11_50).trans (congrArg (x_g1 111 250) ((xe_iload 8).trans (congrArg (x_iload 8) ((xe_iaload).trans (congrArg (x_iaload) ((xe_iload 5).trans (congrArg (x_iload 5) ((xe_if_icmp .ne 198).trans (congrArg (x_if_icmp .ne 198 K) ((xe_aload 0).trans (congrArg (x_aload 0) ((xe_g1 (kk := 111) rfl tl_11_51).trans (congrArg (x_g1 111 251) ((xe_iload 8).trans (congrArg (x_iload 8) ((xe_iaload).trans (congrArg (x_iaload) ((xe_iload 6).trans (congrArg (x_iload 6) ((xe_if_icmp .ne 198).trans (congrArg (x_if_icmp .ne 198 K) ((xe_iconst (-20)).trans (congrArg (x_iconst (-20)) (xe_ireturn)))))))))))))))))))))))))))))))))))))))))))))))))))
theorem bk_X11_review_198 : ck_ fX11 (some .int) cX11_review 198 [.aload 0, .tableswitch 0 11 48 #[], .iload 8, .iload 3, .iastore, .aload 0, .tableswitch 0 11 49 #[], .iload 8, .iload 4, .iastore, .aload 0, .tableswitch 0 11 50 #[], .iload 8, .iload 5, .iastore, .aload 0, .tableswitch 0 11 51 #[], .iload 8, .iload 6, .iastore, .aload 0, .iload 1] 235 = true := qck_r (nn_ _) (by decide +kernel)
theorem bs_X11_review_198 {P : Zt → Option Zv → Prop} (K : Int → Zl → List Zv → Zt → Prop) : sx_ K P [.aload 0, .tableswitch 0 11 48 #[], .iload 8, .iload 3, .iastore, .aload 0, .tableswitch 0 11 49 #[], .iload 8, .iload 4, .iastore, .aload 0, .tableswitch 0 11 50 #[], .iload 8, .iload 5, .iastore, .aload 0, .tableswitch 0 11 51 #[], .iload 8, .iload 6, .iastore, .aload 0, .iload 1] 235 = x_aload 0 (x_g1 111 248 (x_iload 8 (x_iload 3 (x_iastore (x_aload 0 (x_g1 111 249 (x_iload 8 (x_iload 4 (x_iastore (x_aload 0 (x_g1 111 250 (x_iload 8 (x_iload 5 (x_iastore (x_aload 0 (x_g1 111 251 (x_iload 8 (x_iload 6 (x_iastore (x_aload 0 (x_iload 1 (K 235)))))))))))))))))))))) := ((xe_aload 0).trans (congrArg (x_aload 0) ((xe_g1 (kk := 111) rfl tl_11_48).trans (congrArg (x_g1 111 248) ((xe_iload 8).trans (congrArg (x_iload 8) ((xe_iload 3).trans (congrArg (x_iload 3) ((xe_iastore).trans (congrArg (x_iastore) ((xe_aload 0).trans (congrArg (x_aload 0) ((xe_g1 (kk := 111) rfl tl_11_49).trans (congrArg (x_g1 111 249) ((xe_iload 8).trans (congrArg (x_iload 8) ((xe_iload 4).trans (congrArg (x_iload 4) ((xe_iastore).trans (congrArg (x_iastore) ((xe_aload 0).trans (congrArg (x_aload 0) ((xe_g1 (kk := 111) rfl tl_11_50).trans (congrArg (x_g1 111 250) ((xe_iload 8).trans (congrArg (x_iload 8) ((xe_iload 5).trans (congrArg (x_iload 5) ((xe_iastore).trans (congrArg (x_iastore) ((xe_aload 0).trans (congrArg (x_aload 0) ((xe_g1 (kk := 111) rfl tl_11_51).trans (congrArg (x_g1 111 251) ((xe_iload 8).trans (congrArg (x_iload 8) ((xe_iload 6).trans (congrArg (x_iload 6) ((xe_iastore).trans (congrArg (x_iastore) ((xe_aload 0).trans (congrArg (x_aload 0) ((xe_iload 1).trans (congrArg (x_iload 1) xe_nil))))))))))))))))))))))))))))))))))))))))))))
set_option maxRecDepth 100000 in
theorem cl_X11_473 : cv_ RX11 473 yX11_playAnew zX11_playAnew 11 1 := ⟨gi_V (lw_b9 138 (by decide +kernel) rfl : Cond.methodLink RX11 473 yX11_playAnew ∈ lw_g) (lw_b9 140 (by decide +kernel) rfl : Cond.instanceMethod yX11_playAnew ∈ lw_g) (lw_sel 47 rfl : Cond.selects yX11_playAnew.cls yX11_playAnew yX11_playAnew ∈ lw_g) (lw_b1 10 (by decide +kernel) rfl : Cond.initialized yX11_playAnew.cls ∈ lw_g) (lw_b9 141 rfl rfl : Cond.code yX11_playAnew cX11_playAnew 6 (some .int) ∈ lw_g), ⟨by decide, by decide, by decide +kernel⟩, ⟨_, _, rfl⟩⟩
theorem bk_X11_review_238 : ck_ fX11 (some .int) cX11_review 238 [.ireturn] 239 = true := qck_r (nn_ _) (by decide +kernel)
theorem bs_X11_review_238 {P : Zt → Option Zv → Prop} (K : Int → Zl → List Zv → Zt → Prop) : sx_ K P [.ireturn] 239 = x_ireturn P := (xe_ireturn)
theorem bk_X11_review_78 : ck_ fX11 (some .int) cX11_review 78 [.aload 0, .tableswitch 0 11 52 #[], .aload 0, .aload 0, .tableswitch 0 11 53 #[], .iload 1, .iaload, .iload 2, .iconst 1, .isub] 92 = true := qck_r (nn_ _) (by decide +kernel)
theorem bs_X11_review_78 {P : Zt → Option Zv → Prop} (K : Int → Zl → List Zv → Zt → Prop) : sx_ K P [.aload 0, .tableswitch 0 11 52 #[], .aload 0, .aload 0, .tableswitch 0 11 53 #[], .iload 1, .iaload, .iload 2, .iconst 1, .isub] 92 = x_aload 0 (x_g1 111 252 (x_aload 0 (x_aload 0 (x_g1 111 253 (x_iload 1 (x_iaload (x_iload 2 (x_iconst 1 (x_isub (K 92)))))))))) := ((xe_aload 0).trans (congrArg (x_aload 0) ((xe_g1 (kk := 111) rfl tl_11_52).trans (congrArg (x_g1 111 252) ((xe_aload 0).trans (congrArg (x_aload 0) ((xe_aload 0).trans (congrArg (x_aload 0) ((xe_g1 (kk := 111) rfl tl_11_53).trans (congrArg (x_g1 111 253) ((xe_iload 1).trans (congrArg (x_iload 1) ((xe_iaload).trans (congrArg (x_iaload) ((xe_iload 2).trans (congrArg (x_iload 2) ((xe_iconst 1).trans (congrArg (x_iconst 1) ((xe_isub).trans (congrArg (x_isub) xe_nil))))))))))))))))))))
theorem bk_X11_review_95 : ck_ fX11 (some .int) cX11_review 95 [.aload 0, .tableswitch 0 11 52 #[], .iload 8, .iaload, .iastore, .aload 0, .tableswitch 0 11 54 #[], .iload 1, .dup2, .iaload, .iconst 1, .isub, .iastore, .aload 0, .iload 1] 115 = true := qck_r (nn_ _) (by decide +kernel)
theorem bs_X11_review_95 {P : Zt → Option Zv → Prop} (K : Int → Zl → List Zv → Zt → Prop) : sx_ K P [.aload 0, .tableswitch 0 11 52 #[], .iload 8, .iaload, .iastore, .aload 0, .tableswitch 0 11 54 #[], .iload 1, .dup2, .iaload, .iconst 1, .isub, .iastore, .aload 0, .iload 1] 115 = x_aload 0 (x_g1 111 252 (x_iload 8 (x_iaload (x_iastore (x_aload 0 (x_g1 111 254 (x_iload 1 (x_dup2 (x_iaload (x_iconst 1 (x_isub (x_iastore (x_aload 0 (x_iload 1 (K 115))))))))))))))) := ((xe_aload 0).trans (congrArg (x_aload 0) ((xe_g1 (kk := 111) rfl tl_11_52).trans (congrArg (x_g1 111 252) ((xe_iload 8).trans (congrArg (x_iload 8) ((xe_iaload).trans (congrArg (x_iaload) ((xe_iastore).trans (congrArg (x_iastore) ((xe_aload 0).trans (congrArg (x_aload 0) ((xe_g1 (kk := 111) rfl tl_11_54).trans (congrArg (x_g1 111 254) ((xe_iload 1).trans (congrArg (x_iload 1) ((xe_dup2).trans (congrArg (x_dup2) ((xe_iaload).trans (congrArg (x_iaload) ((xe_iconst 1).trans (congrArg (x_iconst 1) ((xe_isub).trans (congrArg (x_isub) ((xe_iastore).trans (congrArg (x_iastore) ((xe_aload 0).trans (congrArg (x_aload 0) ((xe_iload 1).trans (congrArg (x_iload 1) xe_nil))))))))))))))))))))))))))))))
theorem bk_X11_review_118 : ck_ fX11 (some .int) cX11_review 118 [.ireturn] 119 = true := qck_r (nn_ _) (by decide +kernel)
theorem bs_X11_review_118 {P : Zt → Option Zv → Prop} (K : Int → Zl → List Zv → Zt → Prop) : sx_ K P [.ireturn] 119 = x_ireturn P := (xe_ireturn)
theorem bk_X11_review_103 : ck_ fX11 (some .int) cX11_review 103 [.aload 0, .tableswitch 0 11 54 #[], .iload 1, .dup2, .iaload, .iconst 1, .isub, .iastore, .aload 0, .iload 1] 115 = true := qck_r (nn_ _) (by decide +kernel)
theorem bs_X11_review_103 {P : Zt → Option Zv → Prop} (K : Int → Zl → List Zv → Zt → Prop) : sx_ K P [.aload 0, .tableswitch 0 11 54 #[], .iload 1, .dup2, .iaload, .iconst 1, .isub, .iastore, .aload 0, .iload 1] 115 = x_aload 0 (x_g1 111 254 (x_iload 1 (x_dup2 (x_iaload (x_iconst 1 (x_isub (x_iastore (x_aload 0 (x_iload 1 (K 115)))))))))) := ((xe_aload 0).trans (congrArg (x_aload 0) ((xe_g1 (kk := 111) rfl tl_11_54).trans (congrArg (x_g1 111 254) ((xe_iload 1).trans (congrArg (x_iload 1) ((xe_dup2).trans (congrArg (x_dup2) ((xe_iaload).trans (congrArg (x_iaload) ((xe_iconst 1).trans (congrArg (x_iconst 1) ((xe_isub).trans (congrArg (x_isub) ((xe_iastore).trans (congrArg (x_iastore) ((xe_aload 0).trans (congrArg (x_aload 0) ((xe_iload 1).trans (congrArg (x_iload 1) xe_nil))))))))))))))))))))
abbrev po_X11_review (T : Zt) (m i k s p q : Int) : Zt → Option Zv → Prop := fun T' r => ∃ x : Int, r = some (vI x) ∧ fr_ [(252, []), (253, []), (255, []), (254, []), (256, []), (244, []), (241, []), (242, []), (243, []), (245, []), (246, []), (236, []), (237, []), (235, []), (248, []), (249, []), (250, []), (251, [])] T T' ∧ (FM_ T' ∧ RX_ T' [] ∧ ZS_ T' ∧ GX_ T' (-1) ∧ ∀ j, j ≠ m ∨ T 111 0 29 ≤ j → T' 254 0 j = T 254 0 j ∧ T' 256 0 j = T 256 0 j)
set_option maxHeartbeats 4000000 in
theorem ct_X11_review {T : Zt} {m i k s p q : Int} (hmc : MC_ T) (hri : RI_ T) (hfm : FM_ T) (hrx : RX_ T []) (hzs : ZS_ T) (hgs : GX_ T (-1)) : Ct_ yX11_review zX11_review T [vR 111 0, vI m, vI i, vI k, vI s, vI p, vI q] (po_X11_review T m i k s p q) := by
  refine ct_of pn_11 rfl rfl (Nat.le_of_ble_eq_true rfl) (fun hT hav => ?_)
  have hr_m : -2147483648 ≤ m ∧ m ≤ 2147483647 := hav (vI m) (by simp)
  have hr_i : -2147483648 ≤ i ∧ i ≤ 2147483647 := hav (vI i) (by simp)
  have hr_k : -2147483648 ≤ k ∧ k ≤ 2147483647 := hav (vI k) (by simp)
  have hr_s : -2147483648 ≤ s ∧ s ≤ 2147483647 := hav (vI s) (by simp)
  have hr_p : -2147483648 ≤ p ∧ p ≤ 2147483647 := hav (vI p) (by simp)
  have hr_q : -2147483648 ≤ q ∧ q ≤ 2147483647 := hav (vI q) (by simp)
  have hz : zX11_review.2.2.2.1 = some .boolean → ∀ (T' : Zt) (x : Int), po_X11_review T m i k s p q T' (some (vI x)) → 0 ≤ x ∧ x ≤ 1 := fun h => by cases h
  have hb_29 : 0 ≤ T 111 0 29 ∧ T 111 0 29 ≤ 400 := bd_f hT 111 29 (by decide +kernel : (tf_ 111)[29]? = some (0, 0, 0, 400)) 0
  have hb_6 : 0 ≤ T 111 0 6 ∧ T 111 0 6 ≤ 4 := bd_f hT 111 6 (by decide +kernel : (tf_ 111)[6]? = some (0, 0, 0, 4)) 0
  show J_ zX11_review T (po_X11_review T m i k s p q) 0 0 0 [some (vR 111 0), some (vI m), some (vI i), some (vI k), some (vI s), some (vI p), some (vI q), none, none] [] T
  refine j_blx (F := fX11) tb_X11 (nn_ _) bk_X11_review_0 bs_X11_review_0 hz (fun K hK => ?_)
  intro b1 b1b
  refine hK 5 _ [vI (T 111 0 29), vI m] T ?_
  refine j_callS (y := yX11_isOf) (Yc := zX11_isOf) (rest := []) [vI m, vI (T 111 0 29)] (ct_X11_isOf (T := T) (by omega)) cl_X11_317 (qd_c (by decide +kernel)) (nn_ _) rfl (rf_of rfl) (Nat.le_of_ble_eq_true rfl) (Nat.le_of_ble_eq_true rfl) (Nat.le_of_ble_eq_true rfl) rfl ?_
  rintro _ _ ⟨rfl, x2, rfl, hx2⟩
  show J_ zX11_review T (po_X11_review T m i k s p q) 0 0 8 _ [vI x2] T
  refine j_blx (F := fX11) tb_X11 (nn_ _) bk_X11_review_8 bs_X11_review_8 hz (fun K hK => ?_)
  refine And.intro (fun c3 => ?_) (fun c3 => ?_)
  · refine hK 24 _ [] T ?_
    refine j_blx (F := fX11) tb_X11 (nn_ _) bk_X11_review_24 bs_X11_review_24 hz (fun K hK => ?_)
    refine (show po_X11_review T m i k s p q T (some (vI (-2))) from ?_)
    exact ⟨_, rfl, fr_0 _ _, hfm, hrx, hzs, hgs, fun _ _ => ⟨rfl, rfl⟩⟩
  · refine ix_i (by omega) ?_
    intro b4 b4b
    refine hK 18 _ [vI (T 254 0 m), vI i] T ?_
    refine j_callS (y := yX11_isOf) (Yc := zX11_isOf) (rest := []) [vI i, vI (T 254 0 m)] (ct_X11_isOf (T := T) (by omega)) cl_X11_317 (qd_c (by decide +kernel)) (nn_ _) rfl (rf_of rfl) (Nat.le_of_ble_eq_true rfl) (Nat.le_of_ble_eq_true rfl) (Nat.le_of_ble_eq_true rfl) rfl ?_
    rintro _ _ ⟨rfl, x5, rfl, hx5⟩
    show J_ zX11_review T (po_X11_review T m i k s p q) 0 0 21 _ [vI x5] T
    refine j_blx (F := fX11) tb_X11 (nn_ _) bk_X11_review_21 bs_X11_review_21 hz (fun K hK => ?_)
    refine And.intro (fun c6 => ?_) (fun c6 => ?_)
    · refine hK 27 _ [] T ?_
      have hry := hrx
      obtain ⟨L, hB, hR⟩ := hry
      have hl : lk_ T (T 253 0 m) (L m 0) ∧ T 254 0 m = ((L m 0).length : Int) := hB.1 m 0 (by omega) (by omega) (by decide) (by decide)
      refine j_blx (F := fX11) tb_X11 (nn_ _) bk_X11_review_27 bs_X11_review_27 hz (fun K hK => ?_)
      refine ix_i (by omega) ?_
      intro b7 b7b
      refine hK 35 _ [vI 0, vI (T 230 0 m), vR 111 0] T ?_
      refine j_callV (y := yX11_rule0) (Yc := zX11_rule0) (rest := []) [vI (T 230 0 m), vI 0] (ct_X11_rule0 (T := T) (by omega) (by omega)) cl_X11_321 (qd_c (by decide +kernel)) (nn_ _) rfl (rf_of rfl) (Nat.le_of_ble_eq_true rfl) (Nat.le_of_ble_eq_true rfl) (Nat.le_of_ble_eq_true rfl) rfl ?_
      rintro _ _ ⟨rfl, rfl⟩
      show J_ zX11_review T (po_X11_review T m i k s p q) 0 0 38 _ [vI (T 205 0 (23 * (T 230 0 m) + 0))] T
      refine j_blx (F := fX11) tb_X11 (nn_ _) bk_X11_review_38 bs_X11_review_38 hz (fun K hK => ?_)
      refine ix_i (by omega) ?_
      intro b8 b8b
      refine hK 48 [some (vR 111 0), some (vI m), some (vI i), some (vI k), some (vI s), some (vI p), some (vI q), some (vI (T 205 0 (23 * (T 230 0 m) + 0))), none] [vI i, vI (T 253 0 m), vR 111 0] T ?_
      refine j_callV (y := yX11_rowAt) (Yc := zX11_rowAt) (rest := []) [vI (T 253 0 m), vI i] (ct_X11_rowAt (T := T) (l := L m 0) (by exact hl.1) (by omega)) cl_X11_456 (qd_c (by decide +kernel)) (nn_ _) rfl (rf_of rfl) (Nat.le_of_ble_eq_true rfl) (Nat.le_of_ble_eq_true rfl) (Nat.le_of_ble_eq_true rfl) rfl ?_
      rintro _ _ ⟨rfl, x9, rfl, hx9⟩
      show J_ zX11_review T (po_X11_review T m i k s p q) 0 0 51 _ [vI x9] T
      refine j_blx (F := fX11) tb_X11 (nn_ _) bk_X11_review_51 bs_X11_review_51 hz (fun K hK => ?_)
      refine And.intro (fun c10 => ?_) (fun c10 => ?_)
      · refine hK 119 [some (vR 111 0), some (vI m), some (vI i), some (vI k), some (vI s), some (vI p), some (vI q), some (vI (T 205 0 (23 * (T 230 0 m) + 0))), some (vI x9)] [] T ?_
        refine j_blx (F := fX11) tb_X11 (nn_ _) bk_X11_review_119 bs_X11_review_119 hz (fun K hK => ?_)
        refine hK 125 _ [vI s, vI k, vI (T 205 0 (23 * (T 230 0 m) + 0)), vR 111 0] T ?_
        refine j_callV (y := yX11_isTold) (Yc := zX11_isTold) (rest := []) [vI (T 205 0 (23 * (T 230 0 m) + 0)), vI k, vI s] (ct_X11_isTold (T := T)) cl_X11_397 (qd_c (by decide +kernel)) (nn_ _) rfl (rf_of rfl) (Nat.le_of_ble_eq_true rfl) (Nat.le_of_ble_eq_true rfl) (Nat.le_of_ble_eq_true rfl) rfl ?_
        rintro _ _ ⟨rfl, x11, rfl, hx11⟩
        show J_ zX11_review T (po_X11_review T m i k s p q) 0 0 128 _ [vI x11] T
        refine j_blx (F := fX11) tb_X11 (nn_ _) bk_X11_review_128 bs_X11_review_128 hz (fun K hK => ?_)
        refine And.intro (fun c12 => ?_) (fun c12 => ?_)
        · refine hK 134 _ [] T ?_
          refine j_blx (F := fX11) tb_X11 (nn_ _) bk_X11_review_134 bs_X11_review_134 hz (fun K hK => ?_)
          refine hK 139 _ [vI q, vI k, vI (T 205 0 (23 * (T 230 0 m) + 0))] T ?_
          refine j_callS (y := yX11_isBounded) (Yc := zX11_isBounded) (rest := []) [vI (T 205 0 (23 * (T 230 0 m) + 0)), vI k, vI q] (ct_X11_isBounded (T := T)) cl_X11_407 (qd_c (by decide +kernel)) (nn_ _) rfl (rf_of rfl) (Nat.le_of_ble_eq_true rfl) (Nat.le_of_ble_eq_true rfl) (Nat.le_of_ble_eq_true rfl) rfl ?_
          rintro _ _ ⟨rfl, x13, rfl, hx13⟩
          show J_ zX11_review T (po_X11_review T m i k s p q) 0 0 142 _ [vI x13] T
          refine j_blx (F := fX11) tb_X11 (nn_ _) bk_X11_review_142 bs_X11_review_142 hz (fun K hK => ?_)
          refine And.intro (fun c14 => ?_) (fun c14 => ?_)
          · refine hK 148 _ [] T ?_
            refine j_blx (F := fX11) tb_X11 (nn_ _) bk_X11_review_148 bs_X11_review_148 hz (fun K hK => ?_)
            refine ix_i (by omega) ?_
            intro b15 b15b
            refine And.intro (fun c16 => ?_) (fun c16 => ?_)
            · refine hK 198 _ [] T ?_
              refine j_blx (F := fX11) tb_X11 (nn_ _) bk_X11_review_198 bs_X11_review_198 hz (fun K hK => ?_)
              refine iy_i (by omega) (by omega) ?_
              refine x_nm (fun U17 hU17 => ?_)
              have e18 := up_f hU17
              refine iy_i (by omega) (by omega) ?_
              refine x_nm (fun U19 hU19 => ?_)
              have e20 := up_f hU19
              refine iy_i (by omega) (by omega) ?_
              refine x_nm (fun U21 hU21 => ?_)
              have e22 := up_f hU21
              refine iy_i (by omega) (by omega) ?_
              refine x_nm (fun U23 hU23 => ?_)
              have e24 := up_f hU23
              refine hK 235 _ [vI m, vR 111 0] U23 ?_
              have e25 : U23 111 0 29 = T 111 0 29 := (up_k hU23 (by exact Nat.ne_of_beq_eq_false rfl) 0 29).trans ((up_k hU21 (by exact Nat.ne_of_beq_eq_false rfl) 0 29).trans ((up_k hU19 (by exact Nat.ne_of_beq_eq_false rfl) 0 29).trans (up_k hU17 (by exact Nat.ne_of_beq_eq_false rfl) 0 29)))
              have fz : fr_ [(251, []), (250, []), (249, []), (248, [])] T U23 := fr_u (fr_u (fr_u (fr_u (fr_0 _ _) hU17 rfl) hU19 rfl) hU21 rfl) hU23 rfl
              refine j_callV (y := yX11_playAnew) (Yc := zX11_playAnew) (rest := []) [vI m] (ct_X11_playAnew (T := U23) (by omega) (by exact MC__f (ws := [(251, []), (250, []), (249, []), (248, [])]) hmc (fr_u (fr_u (fr_u (fr_u (fr_0 _ _) hU17 rfl) hU19 rfl) hU21 rfl) hU23 rfl) ⟨fun _ => rfl, rfl, rfl, trivial⟩) (by exact RI__f (ws := [(251, []), (250, []), (249, []), (248, [])]) hri (fr_u (fr_u (fr_u (fr_u (fr_0 _ _) hU17 rfl) hU19 rfl) hU21 rfl) hU23 rfl) ⟨fun _ => rfl, rfl, trivial⟩) (by exact FM__f (ws := [(251, [])]) (FM__f (ws := [(250, [])]) (FM__f (ws := [(249, [])]) (FM__f (ws := [(248, [])]) (hfm) (fr_u (fr_0 _ _) hU17 rfl) ⟨fun _ => rfl, fun _ => rfl, trivial⟩) (fr_u (fr_0 _ _) hU19 rfl) ⟨fun _ => rfl, fun _ => rfl, trivial⟩) (fr_u (fr_0 _ _) hU21 rfl) ⟨fun _ => rfl, fun _ => rfl, trivial⟩) (fr_u (fr_0 _ _) hU23 rfl) ⟨fun _ => rfl, fun _ => rfl, trivial⟩) (by exact rx_f (hrx) (fz 111 0 29 rfl) (fz 111 0 47 rfl) (fun k j h => fz k 0 j (by rcases h with rfl | rfl | rfl | rfl | rfl <;> rfl))) (by exact ZS__f (ws := [(251, []), (250, []), (249, []), (248, [])]) hzs (fr_u (fr_u (fr_u (fr_u (fr_0 _ _) hU17 rfl) hU19 rfl) hU21 rfl) hU23 rfl) ⟨fun _ => rfl, fun _ => rfl, trivial⟩) (by exact gx_f hgs fz ⟨fun _ => rfl, fun _ => rfl, fun _ => rfl⟩ (fun j hj => (up_k hU23 (by exact Nat.ne_of_beq_eq_false rfl) 0 j).trans ((up_k hU21 (by exact Nat.ne_of_beq_eq_false rfl) 0 j).trans ((up_k hU19 (by exact Nat.ne_of_beq_eq_false rfl) 0 j).trans (up_k hU17 (by exact Nat.ne_of_beq_eq_false rfl) 0 j)))) (Or.inl rfl))) cl_X11_473 (qd_c (by decide +kernel)) (nn_ _) rfl (rf_of rfl) (Nat.le_of_ble_eq_true rfl) (Nat.le_of_ble_eq_true rfl) (Nat.le_of_ble_eq_true rfl) rfl ?_
              rintro U26 _ ⟨x27, rfl, fU26, ⟨qU26a, qU26b, qU26z, qU26g, qU26r⟩⟩
              show J_ zX11_review T (po_X11_review T m i k s p q) 0 0 238 _ [vI x27] U26
              refine j_blx (F := fX11) tb_X11 (nn_ _) bk_X11_review_238 bs_X11_review_238 hz (fun K hK => ?_)
              refine (show po_X11_review T m i k s p q U26 (some (vI x27)) from ?_)
              exact ⟨_, rfl, fr_t (fr_u (fr_u (fr_u (fr_u (fr_0 _ _) hU17 rfl) hU19 rfl) hU21 rfl) hU23 rfl) (fr_s fU26 rfl), qU26a, qU26b, qU26z, qU26g, fun j hk => (fun (hj : j ≠ m) => ⟨(qU26r j hj).1.trans ((up_k hU23 (by exact Nat.ne_of_beq_eq_false rfl) 0 j).trans ((up_k hU21 (by exact Nat.ne_of_beq_eq_false rfl) 0 j).trans ((up_k hU19 (by exact Nat.ne_of_beq_eq_false rfl) 0 j).trans (up_k hU17 (by exact Nat.ne_of_beq_eq_false rfl) 0 j)))), (qU26r j hj).2.trans ((up_k hU23 (by exact Nat.ne_of_beq_eq_false rfl) 0 j).trans ((up_k hU21 (by exact Nat.ne_of_beq_eq_false rfl) 0 j).trans ((up_k hU19 (by exact Nat.ne_of_beq_eq_false rfl) 0 j).trans (up_k hU17 (by exact Nat.ne_of_beq_eq_false rfl) 0 j))))⟩) (by omega)⟩
            · refine ix_i (by omega) ?_
              intro b28 b28b
              refine And.intro (fun c29 => ?_) (fun c29 => ?_)
              · refine hK 198 _ [] T ?_
                refine j_blx (F := fX11) tb_X11 (nn_ _) bk_X11_review_198 bs_X11_review_198 hz (fun K hK => ?_)
                refine iy_i (by omega) (by omega) ?_
                refine x_nm (fun U30 hU30 => ?_)
                have e31 := up_f hU30
                refine iy_i (by omega) (by omega) ?_
                refine x_nm (fun U32 hU32 => ?_)
                have e33 := up_f hU32
                refine iy_i (by omega) (by omega) ?_
                refine x_nm (fun U34 hU34 => ?_)
                have e35 := up_f hU34
                refine iy_i (by omega) (by omega) ?_
                refine x_nm (fun U36 hU36 => ?_)
                have e37 := up_f hU36
                refine hK 235 _ [vI m, vR 111 0] U36 ?_
                have e38 : U36 111 0 29 = T 111 0 29 := (up_k hU36 (by exact Nat.ne_of_beq_eq_false rfl) 0 29).trans ((up_k hU34 (by exact Nat.ne_of_beq_eq_false rfl) 0 29).trans ((up_k hU32 (by exact Nat.ne_of_beq_eq_false rfl) 0 29).trans (up_k hU30 (by exact Nat.ne_of_beq_eq_false rfl) 0 29)))
                have fz : fr_ [(251, []), (250, []), (249, []), (248, [])] T U36 := fr_u (fr_u (fr_u (fr_u (fr_0 _ _) hU30 rfl) hU32 rfl) hU34 rfl) hU36 rfl
                refine j_callV (y := yX11_playAnew) (Yc := zX11_playAnew) (rest := []) [vI m] (ct_X11_playAnew (T := U36) (by omega) (by exact MC__f (ws := [(251, []), (250, []), (249, []), (248, [])]) hmc (fr_u (fr_u (fr_u (fr_u (fr_0 _ _) hU30 rfl) hU32 rfl) hU34 rfl) hU36 rfl) ⟨fun _ => rfl, rfl, rfl, trivial⟩) (by exact RI__f (ws := [(251, []), (250, []), (249, []), (248, [])]) hri (fr_u (fr_u (fr_u (fr_u (fr_0 _ _) hU30 rfl) hU32 rfl) hU34 rfl) hU36 rfl) ⟨fun _ => rfl, rfl, trivial⟩) (by exact FM__f (ws := [(251, [])]) (FM__f (ws := [(250, [])]) (FM__f (ws := [(249, [])]) (FM__f (ws := [(248, [])]) (hfm) (fr_u (fr_0 _ _) hU30 rfl) ⟨fun _ => rfl, fun _ => rfl, trivial⟩) (fr_u (fr_0 _ _) hU32 rfl) ⟨fun _ => rfl, fun _ => rfl, trivial⟩) (fr_u (fr_0 _ _) hU34 rfl) ⟨fun _ => rfl, fun _ => rfl, trivial⟩) (fr_u (fr_0 _ _) hU36 rfl) ⟨fun _ => rfl, fun _ => rfl, trivial⟩) (by exact rx_f (hrx) (fz 111 0 29 rfl) (fz 111 0 47 rfl) (fun k j h => fz k 0 j (by rcases h with rfl | rfl | rfl | rfl | rfl <;> rfl))) (by exact ZS__f (ws := [(251, []), (250, []), (249, []), (248, [])]) hzs (fr_u (fr_u (fr_u (fr_u (fr_0 _ _) hU30 rfl) hU32 rfl) hU34 rfl) hU36 rfl) ⟨fun _ => rfl, fun _ => rfl, trivial⟩) (by exact gx_f hgs fz ⟨fun _ => rfl, fun _ => rfl, fun _ => rfl⟩ (fun j hj => (up_k hU36 (by exact Nat.ne_of_beq_eq_false rfl) 0 j).trans ((up_k hU34 (by exact Nat.ne_of_beq_eq_false rfl) 0 j).trans ((up_k hU32 (by exact Nat.ne_of_beq_eq_false rfl) 0 j).trans (up_k hU30 (by exact Nat.ne_of_beq_eq_false rfl) 0 j)))) (Or.inl rfl))) cl_X11_473 (qd_c (by decide +kernel)) (nn_ _) rfl (rf_of rfl) (Nat.le_of_ble_eq_true rfl) (Nat.le_of_ble_eq_true rfl) (Nat.le_of_ble_eq_true rfl) rfl ?_
                rintro U39 _ ⟨x40, rfl, fU39, ⟨qU39a, qU39b, qU39z, qU39g, qU39r⟩⟩
                show J_ zX11_review T (po_X11_review T m i k s p q) 0 0 238 _ [vI x40] U39
                refine j_blx (F := fX11) tb_X11 (nn_ _) bk_X11_review_238 bs_X11_review_238 hz (fun K hK => ?_)
                refine (show po_X11_review T m i k s p q U39 (some (vI x40)) from ?_)
                exact ⟨_, rfl, fr_t (fr_u (fr_u (fr_u (fr_u (fr_0 _ _) hU30 rfl) hU32 rfl) hU34 rfl) hU36 rfl) (fr_s fU39 rfl), qU39a, qU39b, qU39z, qU39g, fun j hk => (fun (hj : j ≠ m) => ⟨(qU39r j hj).1.trans ((up_k hU36 (by exact Nat.ne_of_beq_eq_false rfl) 0 j).trans ((up_k hU34 (by exact Nat.ne_of_beq_eq_false rfl) 0 j).trans ((up_k hU32 (by exact Nat.ne_of_beq_eq_false rfl) 0 j).trans (up_k hU30 (by exact Nat.ne_of_beq_eq_false rfl) 0 j)))), (qU39r j hj).2.trans ((up_k hU36 (by exact Nat.ne_of_beq_eq_false rfl) 0 j).trans ((up_k hU34 (by exact Nat.ne_of_beq_eq_false rfl) 0 j).trans ((up_k hU32 (by exact Nat.ne_of_beq_eq_false rfl) 0 j).trans (up_k hU30 (by exact Nat.ne_of_beq_eq_false rfl) 0 j))))⟩) (by omega)⟩
              · refine ix_i (by omega) ?_
                intro b41 b41b
                refine And.intro (fun c42 => ?_) (fun c42 => ?_)
                · refine hK 198 _ [] T ?_
                  refine j_blx (F := fX11) tb_X11 (nn_ _) bk_X11_review_198 bs_X11_review_198 hz (fun K hK => ?_)
                  refine iy_i (by omega) (by omega) ?_
                  refine x_nm (fun U43 hU43 => ?_)
                  have e44 := up_f hU43
                  refine iy_i (by omega) (by omega) ?_
                  refine x_nm (fun U45 hU45 => ?_)
                  have e46 := up_f hU45
                  refine iy_i (by omega) (by omega) ?_
                  refine x_nm (fun U47 hU47 => ?_)
                  have e48 := up_f hU47
                  refine iy_i (by omega) (by omega) ?_
                  refine x_nm (fun U49 hU49 => ?_)
                  have e50 := up_f hU49
                  refine hK 235 _ [vI m, vR 111 0] U49 ?_
                  have e51 : U49 111 0 29 = T 111 0 29 := (up_k hU49 (by exact Nat.ne_of_beq_eq_false rfl) 0 29).trans ((up_k hU47 (by exact Nat.ne_of_beq_eq_false rfl) 0 29).trans ((up_k hU45 (by exact Nat.ne_of_beq_eq_false rfl) 0 29).trans (up_k hU43 (by exact Nat.ne_of_beq_eq_false rfl) 0 29)))
                  have fz : fr_ [(251, []), (250, []), (249, []), (248, [])] T U49 := fr_u (fr_u (fr_u (fr_u (fr_0 _ _) hU43 rfl) hU45 rfl) hU47 rfl) hU49 rfl
                  refine j_callV (y := yX11_playAnew) (Yc := zX11_playAnew) (rest := []) [vI m] (ct_X11_playAnew (T := U49) (by omega) (by exact MC__f (ws := [(251, []), (250, []), (249, []), (248, [])]) hmc (fr_u (fr_u (fr_u (fr_u (fr_0 _ _) hU43 rfl) hU45 rfl) hU47 rfl) hU49 rfl) ⟨fun _ => rfl, rfl, rfl, trivial⟩) (by exact RI__f (ws := [(251, []), (250, []), (249, []), (248, [])]) hri (fr_u (fr_u (fr_u (fr_u (fr_0 _ _) hU43 rfl) hU45 rfl) hU47 rfl) hU49 rfl) ⟨fun _ => rfl, rfl, trivial⟩) (by exact FM__f (ws := [(251, [])]) (FM__f (ws := [(250, [])]) (FM__f (ws := [(249, [])]) (FM__f (ws := [(248, [])]) (hfm) (fr_u (fr_0 _ _) hU43 rfl) ⟨fun _ => rfl, fun _ => rfl, trivial⟩) (fr_u (fr_0 _ _) hU45 rfl) ⟨fun _ => rfl, fun _ => rfl, trivial⟩) (fr_u (fr_0 _ _) hU47 rfl) ⟨fun _ => rfl, fun _ => rfl, trivial⟩) (fr_u (fr_0 _ _) hU49 rfl) ⟨fun _ => rfl, fun _ => rfl, trivial⟩) (by exact rx_f (hrx) (fz 111 0 29 rfl) (fz 111 0 47 rfl) (fun k j h => fz k 0 j (by rcases h with rfl | rfl | rfl | rfl | rfl <;> rfl))) (by exact ZS__f (ws := [(251, []), (250, []), (249, []), (248, [])]) hzs (fr_u (fr_u (fr_u (fr_u (fr_0 _ _) hU43 rfl) hU45 rfl) hU47 rfl) hU49 rfl) ⟨fun _ => rfl, fun _ => rfl, trivial⟩) (by exact gx_f hgs fz ⟨fun _ => rfl, fun _ => rfl, fun _ => rfl⟩ (fun j hj => (up_k hU49 (by exact Nat.ne_of_beq_eq_false rfl) 0 j).trans ((up_k hU47 (by exact Nat.ne_of_beq_eq_false rfl) 0 j).trans ((up_k hU45 (by exact Nat.ne_of_beq_eq_false rfl) 0 j).trans (up_k hU43 (by exact Nat.ne_of_beq_eq_false rfl) 0 j)))) (Or.inl rfl))) cl_X11_473 (qd_c (by decide +kernel)) (nn_ _) rfl (rf_of rfl) (Nat.le_of_ble_eq_true rfl) (Nat.le_of_ble_eq_true rfl) (Nat.le_of_ble_eq_true rfl) rfl ?_
                  rintro U52 _ ⟨x53, rfl, fU52, ⟨qU52a, qU52b, qU52z, qU52g, qU52r⟩⟩
                  show J_ zX11_review T (po_X11_review T m i k s p q) 0 0 238 _ [vI x53] U52
                  refine j_blx (F := fX11) tb_X11 (nn_ _) bk_X11_review_238 bs_X11_review_238 hz (fun K hK => ?_)
                  refine (show po_X11_review T m i k s p q U52 (some (vI x53)) from ?_)
                  exact ⟨_, rfl, fr_t (fr_u (fr_u (fr_u (fr_u (fr_0 _ _) hU43 rfl) hU45 rfl) hU47 rfl) hU49 rfl) (fr_s fU52 rfl), qU52a, qU52b, qU52z, qU52g, fun j hk => (fun (hj : j ≠ m) => ⟨(qU52r j hj).1.trans ((up_k hU49 (by exact Nat.ne_of_beq_eq_false rfl) 0 j).trans ((up_k hU47 (by exact Nat.ne_of_beq_eq_false rfl) 0 j).trans ((up_k hU45 (by exact Nat.ne_of_beq_eq_false rfl) 0 j).trans (up_k hU43 (by exact Nat.ne_of_beq_eq_false rfl) 0 j)))), (qU52r j hj).2.trans ((up_k hU49 (by exact Nat.ne_of_beq_eq_false rfl) 0 j).trans ((up_k hU47 (by exact Nat.ne_of_beq_eq_false rfl) 0 j).trans ((up_k hU45 (by exact Nat.ne_of_beq_eq_false rfl) 0 j).trans (up_k hU43 (by exact Nat.ne_of_beq_eq_false rfl) 0 j))))⟩) (by omega)⟩
                · refine ix_i (by omega) ?_
                  intro b54 b54b
                  refine And.intro (fun c55 => ?_) (fun c55 => ?_)
                  · refine hK 198 _ [] T ?_
                    refine j_blx (F := fX11) tb_X11 (nn_ _) bk_X11_review_198 bs_X11_review_198 hz (fun K hK => ?_)
                    refine iy_i (by omega) (by omega) ?_
                    refine x_nm (fun U56 hU56 => ?_)
                    have e57 := up_f hU56
                    refine iy_i (by omega) (by omega) ?_
                    refine x_nm (fun U58 hU58 => ?_)
                    have e59 := up_f hU58
                    refine iy_i (by omega) (by omega) ?_
                    refine x_nm (fun U60 hU60 => ?_)
                    have e61 := up_f hU60
                    refine iy_i (by omega) (by omega) ?_
                    refine x_nm (fun U62 hU62 => ?_)
                    have e63 := up_f hU62
                    refine hK 235 _ [vI m, vR 111 0] U62 ?_
                    have e64 : U62 111 0 29 = T 111 0 29 := (up_k hU62 (by exact Nat.ne_of_beq_eq_false rfl) 0 29).trans ((up_k hU60 (by exact Nat.ne_of_beq_eq_false rfl) 0 29).trans ((up_k hU58 (by exact Nat.ne_of_beq_eq_false rfl) 0 29).trans (up_k hU56 (by exact Nat.ne_of_beq_eq_false rfl) 0 29)))
                    have fz : fr_ [(251, []), (250, []), (249, []), (248, [])] T U62 := fr_u (fr_u (fr_u (fr_u (fr_0 _ _) hU56 rfl) hU58 rfl) hU60 rfl) hU62 rfl
                    refine j_callV (y := yX11_playAnew) (Yc := zX11_playAnew) (rest := []) [vI m] (ct_X11_playAnew (T := U62) (by omega) (by exact MC__f (ws := [(251, []), (250, []), (249, []), (248, [])]) hmc (fr_u (fr_u (fr_u (fr_u (fr_0 _ _) hU56 rfl) hU58 rfl) hU60 rfl) hU62 rfl) ⟨fun _ => rfl, rfl, rfl, trivial⟩) (by exact RI__f (ws := [(251, []), (250, []), (249, []), (248, [])]) hri (fr_u (fr_u (fr_u (fr_u (fr_0 _ _) hU56 rfl) hU58 rfl) hU60 rfl) hU62 rfl) ⟨fun _ => rfl, rfl, trivial⟩) (by exact FM__f (ws := [(251, [])]) (FM__f (ws := [(250, [])]) (FM__f (ws := [(249, [])]) (FM__f (ws := [(248, [])]) (hfm) (fr_u (fr_0 _ _) hU56 rfl) ⟨fun _ => rfl, fun _ => rfl, trivial⟩) (fr_u (fr_0 _ _) hU58 rfl) ⟨fun _ => rfl, fun _ => rfl, trivial⟩) (fr_u (fr_0 _ _) hU60 rfl) ⟨fun _ => rfl, fun _ => rfl, trivial⟩) (fr_u (fr_0 _ _) hU62 rfl) ⟨fun _ => rfl, fun _ => rfl, trivial⟩) (by exact rx_f (hrx) (fz 111 0 29 rfl) (fz 111 0 47 rfl) (fun k j h => fz k 0 j (by rcases h with rfl | rfl | rfl | rfl | rfl <;> rfl))) (by exact ZS__f (ws := [(251, []), (250, []), (249, []), (248, [])]) hzs (fr_u (fr_u (fr_u (fr_u (fr_0 _ _) hU56 rfl) hU58 rfl) hU60 rfl) hU62 rfl) ⟨fun _ => rfl, fun _ => rfl, trivial⟩) (by exact gx_f hgs fz ⟨fun _ => rfl, fun _ => rfl, fun _ => rfl⟩ (fun j hj => (up_k hU62 (by exact Nat.ne_of_beq_eq_false rfl) 0 j).trans ((up_k hU60 (by exact Nat.ne_of_beq_eq_false rfl) 0 j).trans ((up_k hU58 (by exact Nat.ne_of_beq_eq_false rfl) 0 j).trans (up_k hU56 (by exact Nat.ne_of_beq_eq_false rfl) 0 j)))) (Or.inl rfl))) cl_X11_473 (qd_c (by decide +kernel)) (nn_ _) rfl (rf_of rfl) (Nat.le_of_ble_eq_true rfl) (Nat.le_of_ble_eq_true rfl) (Nat.le_of_ble_eq_true rfl) rfl ?_
                    rintro U65 _ ⟨x66, rfl, fU65, ⟨qU65a, qU65b, qU65z, qU65g, qU65r⟩⟩
                    show J_ zX11_review T (po_X11_review T m i k s p q) 0 0 238 _ [vI x66] U65
                    refine j_blx (F := fX11) tb_X11 (nn_ _) bk_X11_review_238 bs_X11_review_238 hz (fun K hK => ?_)
                    refine (show po_X11_review T m i k s p q U65 (some (vI x66)) from ?_)
                    exact ⟨_, rfl, fr_t (fr_u (fr_u (fr_u (fr_u (fr_0 _ _) hU56 rfl) hU58 rfl) hU60 rfl) hU62 rfl) (fr_s fU65 rfl), qU65a, qU65b, qU65z, qU65g, fun j hk => (fun (hj : j ≠ m) => ⟨(qU65r j hj).1.trans ((up_k hU62 (by exact Nat.ne_of_beq_eq_false rfl) 0 j).trans ((up_k hU60 (by exact Nat.ne_of_beq_eq_false rfl) 0 j).trans ((up_k hU58 (by exact Nat.ne_of_beq_eq_false rfl) 0 j).trans (up_k hU56 (by exact Nat.ne_of_beq_eq_false rfl) 0 j)))), (qU65r j hj).2.trans ((up_k hU62 (by exact Nat.ne_of_beq_eq_false rfl) 0 j).trans ((up_k hU60 (by exact Nat.ne_of_beq_eq_false rfl) 0 j).trans ((up_k hU58 (by exact Nat.ne_of_beq_eq_false rfl) 0 j).trans (up_k hU56 (by exact Nat.ne_of_beq_eq_false rfl) 0 j))))⟩) (by omega)⟩
                  · refine (show po_X11_review T m i k s p q T (some (vI (-20))) from ?_)
                    exact ⟨_, rfl, fr_0 _ _, hfm, hrx, hzs, hgs, fun _ _ => ⟨rfl, rfl⟩⟩
          · refine (show po_X11_review T m i k s p q T (some (vI (-17))) from ?_)
            exact ⟨_, rfl, fr_0 _ _, hfm, hrx, hzs, hgs, fun _ _ => ⟨rfl, rfl⟩⟩
        · refine (show po_X11_review T m i k s p q T (some (vI (-12))) from ?_)
          exact ⟨_, rfl, fr_0 _ _, hfm, hrx, hzs, hgs, fun _ _ => ⟨rfl, rfl⟩⟩
      · refine And.intro (fun c67 => ?_) (fun c67 => ?_)
        · refine hK 78 _ [] T ?_
          refine j_blx (F := fX11) tb_X11 (nn_ _) bk_X11_review_78 bs_X11_review_78 hz (fun K hK => ?_)
          refine ix_i (by omega) ?_
          intro b68 b68b
          refine rg_i (by omega) ?_
          refine hK 92 _ [vI (i - 1), vI (T 253 0 m), vR 111 0, vR 252 0] T ?_
          refine j_callV (y := yX11_rowAt) (Yc := zX11_rowAt) (rest := [vR 252 0]) [vI (T 253 0 m), vI (i - 1)] (ct_X11_rowAt (T := T) (l := L m 0) (by exact hl.1) (by omega)) cl_X11_456 (qd_c (by decide +kernel)) (nn_ _) rfl (rf_of rfl) (Nat.le_of_ble_eq_true rfl) (Nat.le_of_ble_eq_true rfl) (Nat.le_of_ble_eq_true rfl) rfl ?_
          rintro _ _ ⟨rfl, x69, rfl, hx69⟩
          show J_ zX11_review T (po_X11_review T m i k s p q) 0 0 95 _ [vI x69, vR 252 0] T
          refine j_blx (F := fX11) tb_X11 (nn_ _) bk_X11_review_95 bs_X11_review_95 hz (fun K hK => ?_)
          refine ix_i (by omega) ?_
          intro b70 b70b
          refine iy_i (by omega) (by omega) ?_
          refine x_nm (fun U71 hU71 => ?_)
          have e72 := up_f hU71
          refine ix_i (by omega) ?_
          intro b73 b73b
          have e74 : U71 254 0 m = T 254 0 m := up_k hU71 (by exact Nat.ne_of_beq_eq_false rfl) 0 m
          rw [e74] at b73 b73b ⊢
          refine rg_i (by omega) ?_
          refine iy_i (by omega) (by omega) ?_
          refine x_nm (fun U75 hU75 => ?_)
          have e76 := up_f hU75
          refine hK 115 _ [vI m, vR 111 0] U75 ?_
          have e77 : U75 111 0 29 = T 111 0 29 := (up_k hU75 (by exact Nat.ne_of_beq_eq_false rfl) 0 29).trans (up_k hU71 (by exact Nat.ne_of_beq_eq_false rfl) 0 29)
          have fz : fr_ [(254, []), (252, [])] T U75 := fr_u (fr_u (fr_0 _ _) hU71 rfl) hU75 rfl
          refine j_callV (y := yX11_playAnew) (Yc := zX11_playAnew) (rest := []) [vI m] (ct_X11_playAnew (T := U75) (by omega) (by exact MC__f (ws := [(254, []), (252, [])]) hmc (fr_u (fr_u (fr_0 _ _) hU71 rfl) hU75 rfl) ⟨fun _ => rfl, rfl, rfl, trivial⟩) (by exact RI__f (ws := [(254, []), (252, [])]) hri (fr_u (fr_u (fr_0 _ _) hU71 rfl) hU75 rfl) ⟨fun _ => rfl, rfl, trivial⟩) (by exact FM__f (ws := [(254, [])]) (FM__f (ws := [(252, [])]) (hfm) (fr_u (fr_0 _ _) hU71 rfl) ⟨fun _ => rfl, fun _ => rfl, trivial⟩) (fr_u (fr_0 _ _) hU75 rfl) ⟨fun _ => rfl, fun _ => rfl, trivial⟩) (by exact rx_del (i := i.toNat) hB (by omega) hx9.1 (fz 111 0 29 rfl) (fz 111 0 47 rfl) (fun j hj => (up_k hU75 (by exact Nat.ne_of_beq_eq_false rfl) 0 j).trans (up_k hU71 (by exact Nat.ne_of_beq_eq_false rfl) 0 j)) (fun j hj => (up_g hU75 (fun q => hj q.2.2)).trans (up_k hU71 (by exact Nat.ne_of_beq_eq_false rfl) 0 j)) (fun j => fz 255 0 j rfl) (fun j => fz 256 0 j rfl) (up_f hU75) (Or.inr ⟨fz 253 0 m rfl, (i - 1).toNat, x69, by omega, hx69.1, (up_k hU75 (by exact Nat.ne_of_beq_eq_false rfl) 0 x69).trans (up_f hU71), fun z hz => (up_k hU75 (by exact Nat.ne_of_beq_eq_false rfl) 0 z).trans (up_g hU71 (fun q => hz q.2.2))⟩)) (by exact ZS__f (ws := [(254, []), (252, [])]) hzs (fr_u (fr_u (fr_0 _ _) hU71 rfl) hU75 rfl) ⟨fun _ => rfl, fun _ => rfl, trivial⟩) (by exact gx_f hgs fz ⟨fun _ => rfl, fun _ => rfl, fun _ => rfl⟩ (fun j hj => (up_g hU75 (fun q => hj q.2.2)).trans (up_k hU71 (by exact Nat.ne_of_beq_eq_false rfl) 0 j)) (Or.inl rfl))) cl_X11_473 (qd_c (by decide +kernel)) (nn_ _) rfl (rf_of rfl) (Nat.le_of_ble_eq_true rfl) (Nat.le_of_ble_eq_true rfl) (Nat.le_of_ble_eq_true rfl) rfl ?_
          rintro U78 _ ⟨x79, rfl, fU78, ⟨qU78a, qU78b, qU78z, qU78g, qU78r⟩⟩
          show J_ zX11_review T (po_X11_review T m i k s p q) 0 0 118 _ [vI x79] U78
          refine j_blx (F := fX11) tb_X11 (nn_ _) bk_X11_review_118 bs_X11_review_118 hz (fun K hK => ?_)
          refine (show po_X11_review T m i k s p q U78 (some (vI x79)) from ?_)
          exact ⟨_, rfl, fr_t (fr_u (fr_u (fr_0 _ _) hU71 rfl) hU75 rfl) (fr_s fU78 rfl), qU78a, qU78b, qU78z, qU78g, fun j hk => (fun (hj : j ≠ m) => ⟨(qU78r j hj).1.trans ((up_g hU75 (fun q => hj q.2.2)).trans (up_k hU71 (by exact Nat.ne_of_beq_eq_false rfl) 0 j)), (qU78r j hj).2.trans ((up_k hU75 (by exact Nat.ne_of_beq_eq_false rfl) 0 j).trans (up_k hU71 (by exact Nat.ne_of_beq_eq_false rfl) 0 j))⟩) (by omega)⟩
        · refine ix_i (by omega) ?_
          intro b80 b80b
          refine iy_i (by omega) (by omega) ?_
          refine x_nm (fun U81 hU81 => ?_)
          have e82 := up_f hU81
          refine hK 103 _ [] U81 ?_
          refine j_blx (F := fX11) tb_X11 (nn_ _) bk_X11_review_103 bs_X11_review_103 hz (fun K hK => ?_)
          refine ix_i (by omega) ?_
          intro b83 b83b
          have e84 : U81 254 0 m = T 254 0 m := up_k hU81 (by exact Nat.ne_of_beq_eq_false rfl) 0 m
          rw [e84] at b83 b83b ⊢
          refine rg_i (by omega) ?_
          refine iy_i (by omega) (by omega) ?_
          refine x_nm (fun U85 hU85 => ?_)
          have e86 := up_f hU85
          refine hK 115 _ [vI m, vR 111 0] U85 ?_
          have e87 : U85 111 0 29 = T 111 0 29 := (up_k hU85 (by exact Nat.ne_of_beq_eq_false rfl) 0 29).trans (up_k hU81 (by exact Nat.ne_of_beq_eq_false rfl) 0 29)
          have fz : fr_ [(254, []), (253, [])] T U85 := fr_u (fr_u (fr_0 _ _) hU81 rfl) hU85 rfl
          refine j_callV (y := yX11_playAnew) (Yc := zX11_playAnew) (rest := []) [vI m] (ct_X11_playAnew (T := U85) (by omega) (by exact MC__f (ws := [(254, []), (253, [])]) hmc (fr_u (fr_u (fr_0 _ _) hU81 rfl) hU85 rfl) ⟨fun _ => rfl, rfl, rfl, trivial⟩) (by exact RI__f (ws := [(254, []), (253, [])]) hri (fr_u (fr_u (fr_0 _ _) hU81 rfl) hU85 rfl) ⟨fun _ => rfl, rfl, trivial⟩) (by exact FM__f (ws := [(254, [])]) (FM__f (ws := [(253, [])]) (hfm) (fr_u (fr_0 _ _) hU81 rfl) ⟨fun _ => rfl, fun _ => rfl, trivial⟩) (fr_u (fr_0 _ _) hU85 rfl) ⟨fun _ => rfl, fun _ => rfl, trivial⟩) (by exact rx_del (i := i.toNat) hB (by omega) hx9.1 (fz 111 0 29 rfl) (fz 111 0 47 rfl) (fun j hj => (up_k hU85 (by exact Nat.ne_of_beq_eq_false rfl) 0 j).trans (up_g hU81 (fun q => hj q.2.2))) (fun j hj => (up_g hU85 (fun q => hj q.2.2)).trans (up_k hU81 (by exact Nat.ne_of_beq_eq_false rfl) 0 j)) (fun j => fz 255 0 j rfl) (fun j => fz 256 0 j rfl) (up_f hU85) (Or.inl ⟨by omega, (up_k hU85 (by exact Nat.ne_of_beq_eq_false rfl) 0 m).trans (up_f hU81), fun z => fz 252 0 z rfl⟩)) (by exact ZS__f (ws := [(254, []), (253, [])]) hzs (fr_u (fr_u (fr_0 _ _) hU81 rfl) hU85 rfl) ⟨fun _ => rfl, fun _ => rfl, trivial⟩) (by exact gx_f hgs fz ⟨fun _ => rfl, fun _ => rfl, fun _ => rfl⟩ (fun j hj => (up_g hU85 (fun q => hj q.2.2)).trans (up_k hU81 (by exact Nat.ne_of_beq_eq_false rfl) 0 j)) (Or.inl rfl))) cl_X11_473 (qd_c (by decide +kernel)) (nn_ _) rfl (rf_of rfl) (Nat.le_of_ble_eq_true rfl) (Nat.le_of_ble_eq_true rfl) (Nat.le_of_ble_eq_true rfl) rfl ?_
          rintro U88 _ ⟨x89, rfl, fU88, ⟨qU88a, qU88b, qU88z, qU88g, qU88r⟩⟩
          show J_ zX11_review T (po_X11_review T m i k s p q) 0 0 118 _ [vI x89] U88
          refine j_blx (F := fX11) tb_X11 (nn_ _) bk_X11_review_118 bs_X11_review_118 hz (fun K hK => ?_)
          refine (show po_X11_review T m i k s p q U88 (some (vI x89)) from ?_)
          exact ⟨_, rfl, fr_t (fr_u (fr_u (fr_0 _ _) hU81 rfl) hU85 rfl) (fr_s fU88 rfl), qU88a, qU88b, qU88z, qU88g, fun j hk => (fun (hj : j ≠ m) => ⟨(qU88r j hj).1.trans ((up_g hU85 (fun q => hj q.2.2)).trans (up_k hU81 (by exact Nat.ne_of_beq_eq_false rfl) 0 j)), (qU88r j hj).2.trans ((up_k hU85 (by exact Nat.ne_of_beq_eq_false rfl) 0 j).trans (up_k hU81 (by exact Nat.ne_of_beq_eq_false rfl) 0 j))⟩) (by omega)⟩
    · refine (show po_X11_review T m i k s p q T (some (vI (-2))) from ?_)
      exact ⟨_, rfl, fr_0 _ _, hfm, hrx, hzs, hgs, fun _ _ => ⟨rfl, rfl⟩⟩
abbrev cX11_row : ByteArray := prog_13_method_78_code
def yX11_row : MethodName := ⟨RX11, "row", "(III)I"⟩
def zX11_row : Zm := (RX11, cX11_row, 5, (some .int), { frames := 2, cells := 0, slots := 0, locals := 43 })
theorem bk_X11_row_0 : ck_ fX11 (some .int) cX11_row 0 [.iload 1, .aload 0, .tableswitch 0 11 29 #[]] 5 = true := qck_r (nn_ _) (by decide +kernel)
theorem bs_X11_row_0 {P : Zt → Option Zv → Prop} (K : Int → Zl → List Zv → Zt → Prop) : sx_ K P [.iload 1, .aload 0, .tableswitch 0 11 29 #[]] 5 = x_iload 1 (x_aload 0 (x_g0 111 29 0 400 (K 5))) := ((xe_iload 1).trans (congrArg (x_iload 1) ((xe_aload 0).trans (congrArg (x_aload 0) ((xe_g0 (kk := 111) rfl tl_11_29).trans (congrArg (x_g0 111 29 0 400) xe_nil))))))
theorem bk_X11_row_8 : ck_ fX11 (some .int) cX11_row 8 [.ifCond .ne 14, .iconst (-2), .ireturn] 14 = true := qck_r (nn_ _) (by decide +kernel)
theorem bs_X11_row_8 {P : Zt → Option Zv → Prop} (K : Int → Zl → List Zv → Zt → Prop) : sx_ K P [.ifCond .ne 14, .iconst (-2), .ireturn] 14 = x_ifCond .ne 14 K (x_iconst (-2) (x_ireturn P)) := ((xe_ifCond .ne 14).trans (congrArg (x_ifCond .ne 14 K) ((xe_iconst (-2)).trans (congrArg (x_iconst (-2)) (xe_ireturn)))))
theorem bk_X11_row_14 : ck_ fX11 (some .int) cX11_row 14 [.iload 3, .iconst 0, .iconst 7] 18 = true := qck_r (nn_ _) (by decide +kernel)
theorem bs_X11_row_14 {P : Zt → Option Zv → Prop} (K : Int → Zl → List Zv → Zt → Prop) : sx_ K P [.iload 3, .iconst 0, .iconst 7] 18 = x_iload 3 (x_iconst 0 (x_iconst 7 (K 18))) := ((xe_iload 3).trans (congrArg (x_iload 3) ((xe_iconst 0).trans (congrArg (x_iconst 0) ((xe_iconst 7).trans (congrArg (x_iconst 7) xe_nil))))))
theorem bk_X11_row_21 : ck_ fX11 (some .int) cX11_row 21 [.ifCond .ne 27, .iconst (-3), .ireturn] 27 = true := qck_r (nn_ _) (by decide +kernel)
theorem bs_X11_row_21 {P : Zt → Option Zv → Prop} (K : Int → Zl → List Zv → Zt → Prop) : sx_ K P [.ifCond .ne 27, .iconst (-3), .ireturn] 27 = x_ifCond .ne 27 K (x_iconst (-3) (x_ireturn P)) := ((xe_ifCond .ne 27).trans (congrArg (x_ifCond .ne 27 K) ((xe_iconst (-3)).trans (congrArg (x_iconst (-3)) (xe_ireturn)))))
theorem bk_X11_row_27 : ck_ fX11 (some .int) cX11_row 27 [.iload 2, .iload 3, .iconst 4, .if_icmp .ge 42, .aload 0, .tableswitch 0 11 54 #[], .iload 1, .iaload, .goto 48] 42 = true := qck_r (nn_ _) (by decide +kernel)
theorem bs_X11_row_27 {P : Zt → Option Zv → Prop} (K : Int → Zl → List Zv → Zt → Prop) : sx_ K P [.iload 2, .iload 3, .iconst 4, .if_icmp .ge 42, .aload 0, .tableswitch 0 11 54 #[], .iload 1, .iaload, .goto 48] 42 = x_iload 2 (x_iload 3 (x_iconst 4 (x_if_icmp .ge 42 K (x_aload 0 (x_g1 111 254 (x_iload 1 (x_iaload (x_goto 48 K)))))))) := ((xe_iload 2).trans (congrArg (x_iload 2) ((xe_iload 3).trans (congrArg (x_iload 3) ((xe_iconst 4).trans (congrArg (x_iconst 4) ((xe_if_icmp .ge 42).trans (congrArg (x_if_icmp .ge 42 K) ((xe_aload 0).trans (congrArg (x_aload 0) ((xe_g1 (kk := 111) rfl tl_11_54).trans (congrArg (x_g1 111 254) ((xe_iload 1).trans (congrArg (x_iload 1) ((xe_iaload).trans (congrArg (x_iaload) (xe_goto 48)))))))))))))))))
theorem bk_X11_row_42 : ck_ fX11 (some .int) cX11_row 42 [.aload 0, .tableswitch 0 11 56 #[], .iload 1, .iaload] 48 = true := qck_r (nn_ _) (by decide +kernel)
theorem bs_X11_row_42 {P : Zt → Option Zv → Prop} (K : Int → Zl → List Zv → Zt → Prop) : sx_ K P [.aload 0, .tableswitch 0 11 56 #[], .iload 1, .iaload] 48 = x_aload 0 (x_g1 111 256 (x_iload 1 (x_iaload (K 48)))) := ((xe_aload 0).trans (congrArg (x_aload 0) ((xe_g1 (kk := 111) rfl tl_11_56).trans (congrArg (x_g1 111 256) ((xe_iload 1).trans (congrArg (x_iload 1) ((xe_iaload).trans (congrArg (x_iaload) xe_nil))))))))
theorem bk_X11_row_51 : ck_ fX11 (some .int) cX11_row 51 [.ifCond .ne 57, .iconst (-2), .ireturn] 57 = true := qck_r (nn_ _) (by decide +kernel)
theorem bs_X11_row_51 {P : Zt → Option Zv → Prop} (K : Int → Zl → List Zv → Zt → Prop) : sx_ K P [.ifCond .ne 57, .iconst (-2), .ireturn] 57 = x_ifCond .ne 57 K (x_iconst (-2) (x_ireturn P)) := ((xe_ifCond .ne 57).trans (congrArg (x_ifCond .ne 57 K) ((xe_iconst (-2)).trans (congrArg (x_iconst (-2)) (xe_ireturn)))))
theorem bk_X11_row_57 : ck_ fX11 (some .int) cX11_row 57 [.aload 0, .iload 3, .iconst 4, .if_icmp .ge 72, .aload 0, .tableswitch 0 11 53 #[], .iload 1, .iaload, .goto 78] 72 = true := qck_r (nn_ _) (by decide +kernel)
theorem bs_X11_row_57 {P : Zt → Option Zv → Prop} (K : Int → Zl → List Zv → Zt → Prop) : sx_ K P [.aload 0, .iload 3, .iconst 4, .if_icmp .ge 72, .aload 0, .tableswitch 0 11 53 #[], .iload 1, .iaload, .goto 78] 72 = x_aload 0 (x_iload 3 (x_iconst 4 (x_if_icmp .ge 72 K (x_aload 0 (x_g1 111 253 (x_iload 1 (x_iaload (x_goto 78 K)))))))) := ((xe_aload 0).trans (congrArg (x_aload 0) ((xe_iload 3).trans (congrArg (x_iload 3) ((xe_iconst 4).trans (congrArg (x_iconst 4) ((xe_if_icmp .ge 72).trans (congrArg (x_if_icmp .ge 72 K) ((xe_aload 0).trans (congrArg (x_aload 0) ((xe_g1 (kk := 111) rfl tl_11_53).trans (congrArg (x_g1 111 253) ((xe_iload 1).trans (congrArg (x_iload 1) ((xe_iaload).trans (congrArg (x_iaload) (xe_goto 78)))))))))))))))))
theorem bk_X11_row_72 : ck_ fX11 (some .int) cX11_row 72 [.aload 0, .tableswitch 0 11 55 #[], .iload 1, .iaload, .iload 2] 79 = true := qck_r (nn_ _) (by decide +kernel)
theorem bs_X11_row_72 {P : Zt → Option Zv → Prop} (K : Int → Zl → List Zv → Zt → Prop) : sx_ K P [.aload 0, .tableswitch 0 11 55 #[], .iload 1, .iaload, .iload 2] 79 = x_aload 0 (x_g1 111 255 (x_iload 1 (x_iaload (x_iload 2 (K 79))))) := ((xe_aload 0).trans (congrArg (x_aload 0) ((xe_g1 (kk := 111) rfl tl_11_55).trans (congrArg (x_g1 111 255) ((xe_iload 1).trans (congrArg (x_iload 1) ((xe_iaload).trans (congrArg (x_iaload) ((xe_iload 2).trans (congrArg (x_iload 2) xe_nil))))))))))
theorem bk_X11_row_82 : ck_ fX11 (some .int) cX11_row 82 [.istore 4, .iload 3, .iconst 4, .irem, .ifCond .ne 100, .aload 0, .tableswitch 0 11 48 #[], .iload 4, .iaload, .goto 141] 100 = true := qck_r (nn_ _) (by decide +kernel)
theorem bs_X11_row_82 {P : Zt → Option Zv → Prop} (K : Int → Zl → List Zv → Zt → Prop) : sx_ K P [.istore 4, .iload 3, .iconst 4, .irem, .ifCond .ne 100, .aload 0, .tableswitch 0 11 48 #[], .iload 4, .iaload, .goto 141] 100 = x_istore 4 (x_iload 3 (x_iconst 4 (x_irem (x_ifCond .ne 100 K (x_aload 0 (x_g1 111 248 (x_iload 4 (x_iaload (x_goto 141 K))))))))) := ((xe_istore 4).trans (congrArg (x_istore 4) ((xe_iload 3).trans (congrArg (x_iload 3) ((xe_iconst 4).trans (congrArg (x_iconst 4) ((xe_irem).trans (congrArg (x_irem) ((xe_ifCond .ne 100).trans (congrArg (x_ifCond .ne 100 K) ((xe_aload 0).trans (congrArg (x_aload 0) ((xe_g1 (kk := 111) rfl tl_11_48).trans (congrArg (x_g1 111 248) ((xe_iload 4).trans (congrArg (x_iload 4) ((xe_iaload).trans (congrArg (x_iaload) (xe_goto 141)))))))))))))))))))
theorem bk_X11_row_100 : ck_ fX11 (some .int) cX11_row 100 [.iload 3, .iconst 4, .irem, .iconst 1, .if_icmp .ne 117, .aload 0, .tableswitch 0 11 49 #[], .iload 4, .iaload, .goto 141] 117 = true := qck_r (nn_ _) (by decide +kernel)
theorem bs_X11_row_100 {P : Zt → Option Zv → Prop} (K : Int → Zl → List Zv → Zt → Prop) : sx_ K P [.iload 3, .iconst 4, .irem, .iconst 1, .if_icmp .ne 117, .aload 0, .tableswitch 0 11 49 #[], .iload 4, .iaload, .goto 141] 117 = x_iload 3 (x_iconst 4 (x_irem (x_iconst 1 (x_if_icmp .ne 117 K (x_aload 0 (x_g1 111 249 (x_iload 4 (x_iaload (x_goto 141 K))))))))) := ((xe_iload 3).trans (congrArg (x_iload 3) ((xe_iconst 4).trans (congrArg (x_iconst 4) ((xe_irem).trans (congrArg (x_irem) ((xe_iconst 1).trans (congrArg (x_iconst 1) ((xe_if_icmp .ne 117).trans (congrArg (x_if_icmp .ne 117 K) ((xe_aload 0).trans (congrArg (x_aload 0) ((xe_g1 (kk := 111) rfl tl_11_49).trans (congrArg (x_g1 111 249) ((xe_iload 4).trans (congrArg (x_iload 4) ((xe_iaload).trans (congrArg (x_iaload) (xe_goto 141)))))))))))))))))))
theorem bk_X11_row_117 : ck_ fX11 (some .int) cX11_row 117 [.iload 3, .iconst 4, .irem, .iconst 2, .if_icmp .ne 134, .aload 0, .tableswitch 0 11 50 #[], .iload 4, .iaload, .goto 141] 134 = true := qck_r (nn_ _) (by decide +kernel)
theorem bs_X11_row_117 {P : Zt → Option Zv → Prop} (K : Int → Zl → List Zv → Zt → Prop) : sx_ K P [.iload 3, .iconst 4, .irem, .iconst 2, .if_icmp .ne 134, .aload 0, .tableswitch 0 11 50 #[], .iload 4, .iaload, .goto 141] 134 = x_iload 3 (x_iconst 4 (x_irem (x_iconst 2 (x_if_icmp .ne 134 K (x_aload 0 (x_g1 111 250 (x_iload 4 (x_iaload (x_goto 141 K))))))))) := ((xe_iload 3).trans (congrArg (x_iload 3) ((xe_iconst 4).trans (congrArg (x_iconst 4) ((xe_irem).trans (congrArg (x_irem) ((xe_iconst 2).trans (congrArg (x_iconst 2) ((xe_if_icmp .ne 134).trans (congrArg (x_if_icmp .ne 134 K) ((xe_aload 0).trans (congrArg (x_aload 0) ((xe_g1 (kk := 111) rfl tl_11_50).trans (congrArg (x_g1 111 250) ((xe_iload 4).trans (congrArg (x_iload 4) ((xe_iaload).trans (congrArg (x_iaload) (xe_goto 141)))))))))))))))))))
theorem bk_X11_row_134 : ck_ fX11 (some .int) cX11_row 134 [.aload 0, .tableswitch 0 11 51 #[], .iload 4, .iaload, .ireturn] 142 = true := qck_r (nn_ _) (by decide +kernel)
theorem bs_X11_row_134 {P : Zt → Option Zv → Prop} (K : Int → Zl → List Zv → Zt → Prop) : sx_ K P [.aload 0, .tableswitch 0 11 51 #[], .iload 4, .iaload, .ireturn] 142 = x_aload 0 (x_g1 111 251 (x_iload 4 (x_iaload (x_ireturn P)))) := ((xe_aload 0).trans (congrArg (x_aload 0) ((xe_g1 (kk := 111) rfl tl_11_51).trans (congrArg (x_g1 111 251) ((xe_iload 4).trans (congrArg (x_iload 4) ((xe_iaload).trans (congrArg (x_iaload) (xe_ireturn)))))))))
theorem bk_X11_row_141 : ck_ fX11 (some .int) cX11_row 141 [.ireturn] 142 = true := qck_r (nn_ _) (by decide +kernel)
theorem bs_X11_row_141 {P : Zt → Option Zv → Prop} (K : Int → Zl → List Zv → Zt → Prop) : sx_ K P [.ireturn] 142 = x_ireturn P := (xe_ireturn)
theorem bk_X11_row_78 : ck_ fX11 (some .int) cX11_row 78 [.iload 2] 79 = true := qck_r (nn_ _) (by decide +kernel)
theorem bs_X11_row_78 {P : Zt → Option Zv → Prop} (K : Int → Zl → List Zv → Zt → Prop) : sx_ K P [.iload 2] 79 = x_iload 2 (K 79) := ((xe_iload 2).trans (congrArg (x_iload 2) xe_nil))
abbrev po_X11_row (T : Zt) (m i w : Int) : Zt → Option Zv → Prop := fun T' r => T = T' ∧ ∃ x : Int, r = some (vI x) ∧ (0 = (0 : Int))
set_option maxHeartbeats 4000000 in
theorem ct_X11_row {T : Zt} {m i w : Int} (hrx : RX_ T []) : Ct_ yX11_row zX11_row T [vR 111 0, vI m, vI i, vI w] (po_X11_row T m i w) := by
  refine ct_of pn_11 rfl rfl (Nat.le_of_ble_eq_true rfl) (fun hT hav => ?_)
  have hr_m : -2147483648 ≤ m ∧ m ≤ 2147483647 := hav (vI m) (by simp)
  have hr_i : -2147483648 ≤ i ∧ i ≤ 2147483647 := hav (vI i) (by simp)
  have hr_w : -2147483648 ≤ w ∧ w ≤ 2147483647 := hav (vI w) (by simp)
  have hz : zX11_row.2.2.2.1 = some .boolean → ∀ (T' : Zt) (x : Int), po_X11_row T m i w T' (some (vI x)) → 0 ≤ x ∧ x ≤ 1 := fun h => by cases h
  have hb_29 : 0 ≤ T 111 0 29 ∧ T 111 0 29 ≤ 400 := bd_f hT 111 29 (by decide +kernel : (tf_ 111)[29]? = some (0, 0, 0, 400)) 0
  show J_ zX11_row T (po_X11_row T m i w) 0 0 0 [some (vR 111 0), some (vI m), some (vI i), some (vI w), none] [] T
  refine j_blx (F := fX11) tb_X11 (nn_ _) bk_X11_row_0 bs_X11_row_0 hz (fun K hK => ?_)
  intro b1 b1b
  refine hK 5 _ [vI (T 111 0 29), vI m] T ?_
  refine j_callS (y := yX11_isOf) (Yc := zX11_isOf) (rest := []) [vI m, vI (T 111 0 29)] (ct_X11_isOf (T := T) (by omega)) cl_X11_317 (qd_c (by decide +kernel)) (nn_ _) rfl (rf_of rfl) (Nat.le_of_ble_eq_true rfl) (Nat.le_of_ble_eq_true rfl) (Nat.le_of_ble_eq_true rfl) rfl ?_
  rintro _ _ ⟨rfl, x2, rfl, hx2⟩
  show J_ zX11_row T (po_X11_row T m i w) 0 0 8 _ [vI x2] T
  refine j_blx (F := fX11) tb_X11 (nn_ _) bk_X11_row_8 bs_X11_row_8 hz (fun K hK => ?_)
  refine And.intro (fun c3 => ?_) (fun c3 => ?_)
  · refine hK 14 _ [] T ?_
    refine j_blx (F := fX11) tb_X11 (nn_ _) bk_X11_row_14 bs_X11_row_14 hz (fun K hK => ?_)
    refine hK 18 _ [vI 7, vI 0, vI w] T ?_
    refine j_callS (y := yX11_in) (Yc := zX11_in) (rest := []) [vI w, vI 0, vI 7] (ct_X11_in (T := T)) cl_X11_255 (qd_c (by decide +kernel)) (nn_ _) rfl (rf_of rfl) (Nat.le_of_ble_eq_true rfl) (Nat.le_of_ble_eq_true rfl) (Nat.le_of_ble_eq_true rfl) rfl ?_
    rintro _ _ ⟨rfl, x4, rfl, hx4⟩
    show J_ zX11_row T (po_X11_row T m i w) 0 0 21 _ [vI x4] T
    refine j_blx (F := fX11) tb_X11 (nn_ _) bk_X11_row_21 bs_X11_row_21 hz (fun K hK => ?_)
    refine And.intro (fun c5 => ?_) (fun c5 => ?_)
    · refine hK 27 _ [] T ?_
      refine j_blx (F := fX11) tb_X11 (nn_ _) bk_X11_row_27 bs_X11_row_27 hz (fun K hK => ?_)
      refine And.intro (fun c6 => ?_) (fun c6 => ?_)
      · refine hK 42 _ [vI i] T ?_
        refine j_blx (F := fX11) tb_X11 (nn_ _) bk_X11_row_42 bs_X11_row_42 hz (fun K hK => ?_)
        refine ix_i (by omega) ?_
        intro b7 b7b
        refine hK 48 _ [vI (T 256 0 m), vI i] T ?_
        refine j_callS (y := yX11_isOf) (Yc := zX11_isOf) (rest := []) [vI i, vI (T 256 0 m)] (ct_X11_isOf (T := T) (by omega)) cl_X11_317 (qd_c (by decide +kernel)) (nn_ _) rfl (rf_of rfl) (Nat.le_of_ble_eq_true rfl) (Nat.le_of_ble_eq_true rfl) (Nat.le_of_ble_eq_true rfl) rfl ?_
        rintro _ _ ⟨rfl, x8, rfl, hx8⟩
        show J_ zX11_row T (po_X11_row T m i w) 0 0 51 _ [vI x8] T
        refine j_blx (F := fX11) tb_X11 (nn_ _) bk_X11_row_51 bs_X11_row_51 hz (fun K hK => ?_)
        refine And.intro (fun c9 => ?_) (fun c9 => ?_)
        · refine hK 57 _ [] T ?_
          have hry := hrx
          obtain ⟨L, hB, hR⟩ := hry
          have hl : lk_ T (T 253 0 m) (L m 0) ∧ T 254 0 m = ((L m 0).length : Int) := hB.1 m 0 (by omega) (by omega) (by decide) (by decide)
          have hl2 : lk_ T (T 255 0 m) (L m 1) ∧ T 256 0 m = ((L m 1).length : Int) := hB.1 m 1 (by omega) (by omega) (by decide) (by decide)
          refine j_blx (F := fX11) tb_X11 (nn_ _) bk_X11_row_57 bs_X11_row_57 hz (fun K hK => ?_)
          refine And.intro (fun c10 => ?_) (fun c10 => ?_)
          · refine hK 72 _ [vR 111 0] T ?_
            refine j_blx (F := fX11) tb_X11 (nn_ _) bk_X11_row_72 bs_X11_row_72 hz (fun K hK => ?_)
            refine ix_i (by omega) ?_
            intro b11 b11b
            refine hK 79 _ [vI i, vI (T 255 0 m), vR 111 0] T ?_
            refine j_callV (y := yX11_rowAt) (Yc := zX11_rowAt) (rest := []) [vI (T 255 0 m), vI i] (ct_X11_rowAt (T := T) (l := L m 1) (by exact hl2.1) (by omega)) cl_X11_456 (qd_c (by decide +kernel)) (nn_ _) rfl (rf_of rfl) (Nat.le_of_ble_eq_true rfl) (Nat.le_of_ble_eq_true rfl) (Nat.le_of_ble_eq_true rfl) rfl ?_
            rintro _ _ ⟨rfl, x12, rfl, hx12⟩
            show J_ zX11_row T (po_X11_row T m i w) 0 0 82 _ [vI x12] T
            refine j_blx (F := fX11) tb_X11 (nn_ _) bk_X11_row_82 bs_X11_row_82 hz (fun K hK => ?_)
            refine dv_i (by omega) ?_
            refine And.intro (fun c13 => ?_) (fun c13 => ?_)
            · refine hK 100 [some (vR 111 0), some (vI m), some (vI i), some (vI w), some (vI x12)] [] T ?_
              refine j_blx (F := fX11) tb_X11 (nn_ _) bk_X11_row_100 bs_X11_row_100 hz (fun K hK => ?_)
              refine dv_i (by omega) ?_
              refine And.intro (fun c14 => ?_) (fun c14 => ?_)
              · refine hK 117 _ [] T ?_
                refine j_blx (F := fX11) tb_X11 (nn_ _) bk_X11_row_117 bs_X11_row_117 hz (fun K hK => ?_)
                refine dv_i (by omega) ?_
                refine And.intro (fun c15 => ?_) (fun c15 => ?_)
                · refine hK 134 _ [] T ?_
                  refine j_blx (F := fX11) tb_X11 (nn_ _) bk_X11_row_134 bs_X11_row_134 hz (fun K hK => ?_)
                  refine ix_i (by omega) ?_
                  intro b16 b16b
                  refine (show po_X11_row T m i w T (some (vI (T 251 0 x12))) from ?_)
                  exact ⟨rfl, _, rfl, by rfl⟩
                · refine ix_i (by omega) ?_
                  intro b17 b17b
                  refine hK 141 _ [vI (T 250 0 x12)] T ?_
                  refine j_blx (F := fX11) tb_X11 (nn_ _) bk_X11_row_141 bs_X11_row_141 hz (fun K hK => ?_)
                  refine (show po_X11_row T m i w T (some (vI (T 250 0 x12))) from ?_)
                  exact ⟨rfl, _, rfl, by rfl⟩
              · refine ix_i (by omega) ?_
                intro b18 b18b
                refine hK 141 _ [vI (T 249 0 x12)] T ?_
                refine j_blx (F := fX11) tb_X11 (nn_ _) bk_X11_row_141 bs_X11_row_141 hz (fun K hK => ?_)
                refine (show po_X11_row T m i w T (some (vI (T 249 0 x12))) from ?_)
                exact ⟨rfl, _, rfl, by rfl⟩
            · refine ix_i (by omega) ?_
              intro b19 b19b
              refine hK 141 _ [vI (T 248 0 x12)] T ?_
              refine j_blx (F := fX11) tb_X11 (nn_ _) bk_X11_row_141 bs_X11_row_141 hz (fun K hK => ?_)
              refine (show po_X11_row T m i w T (some (vI (T 248 0 x12))) from ?_)
              exact ⟨rfl, _, rfl, by rfl⟩
          · refine ix_i (by omega) ?_
            intro b20 b20b
            refine hK 78 _ [vI (T 253 0 m), vR 111 0] T ?_
            refine j_blx (F := fX11) tb_X11 (nn_ _) bk_X11_row_78 bs_X11_row_78 hz (fun K hK => ?_)
            refine hK 79 _ [vI i, vI (T 253 0 m), vR 111 0] T ?_
            refine j_callV (y := yX11_rowAt) (Yc := zX11_rowAt) (rest := []) [vI (T 253 0 m), vI i] (ct_X11_rowAt (T := T) (l := L m 0) (by exact hl.1) (by omega)) cl_X11_456 (qd_c (by decide +kernel)) (nn_ _) rfl (rf_of rfl) (Nat.le_of_ble_eq_true rfl) (Nat.le_of_ble_eq_true rfl) (Nat.le_of_ble_eq_true rfl) rfl ?_
            rintro _ _ ⟨rfl, x21, rfl, hx21⟩
            show J_ zX11_row T (po_X11_row T m i w) 0 0 82 _ [vI x21] T
            refine j_blx (F := fX11) tb_X11 (nn_ _) bk_X11_row_82 bs_X11_row_82 hz (fun K hK => ?_)
            refine dv_i (by omega) ?_
            refine And.intro (fun c22 => ?_) (fun c22 => ?_)
            · refine hK 100 [some (vR 111 0), some (vI m), some (vI i), some (vI w), some (vI x21)] [] T ?_
              refine j_blx (F := fX11) tb_X11 (nn_ _) bk_X11_row_100 bs_X11_row_100 hz (fun K hK => ?_)
              refine dv_i (by omega) ?_
              refine And.intro (fun c23 => ?_) (fun c23 => ?_)
              · refine hK 117 _ [] T ?_
                refine j_blx (F := fX11) tb_X11 (nn_ _) bk_X11_row_117 bs_X11_row_117 hz (fun K hK => ?_)
                refine dv_i (by omega) ?_
                refine And.intro (fun c24 => ?_) (fun c24 => ?_)
                · refine hK 134 _ [] T ?_
                  refine j_blx (F := fX11) tb_X11 (nn_ _) bk_X11_row_134 bs_X11_row_134 hz (fun K hK => ?_)
                  refine ix_i (by omega) ?_
                  intro b25 b25b
                  refine (show po_X11_row T m i w T (some (vI (T 251 0 x21))) from ?_)
                  exact ⟨rfl, _, rfl, by rfl⟩
                · refine ix_i (by omega) ?_
                  intro b26 b26b
                  refine hK 141 _ [vI (T 250 0 x21)] T ?_
                  refine j_blx (F := fX11) tb_X11 (nn_ _) bk_X11_row_141 bs_X11_row_141 hz (fun K hK => ?_)
                  refine (show po_X11_row T m i w T (some (vI (T 250 0 x21))) from ?_)
                  exact ⟨rfl, _, rfl, by rfl⟩
              · refine ix_i (by omega) ?_
                intro b27 b27b
                refine hK 141 _ [vI (T 249 0 x21)] T ?_
                refine j_blx (F := fX11) tb_X11 (nn_ _) bk_X11_row_141 bs_X11_row_141 hz (fun K hK => ?_)
                refine (show po_X11_row T m i w T (some (vI (T 249 0 x21))) from ?_)
                exact ⟨rfl, _, rfl, by rfl⟩
            · refine ix_i (by omega) ?_
              intro b28 b28b
              refine hK 141 _ [vI (T 248 0 x21)] T ?_
              refine j_blx (F := fX11) tb_X11 (nn_ _) bk_X11_row_141 bs_X11_row_141 hz (fun K hK => ?_)
              refine (show po_X11_row T m i w T (some (vI (T 248 0 x21))) from ?_)
              exact ⟨rfl, _, rfl, by rfl⟩
        · refine (show po_X11_row T m i w T (some (vI (-2))) from ?_)
          exact ⟨rfl, _, rfl, by rfl⟩
      · refine ix_i (by omega) ?_
        intro b29 b29b
        refine hK 48 _ [vI (T 254 0 m), vI i] T ?_
        refine j_callS (y := yX11_isOf) (Yc := zX11_isOf) (rest := []) [vI i, vI (T 254 0 m)] (ct_X11_isOf (T := T) (by omega)) cl_X11_317 (qd_c (by decide +kernel)) (nn_ _) rfl (rf_of rfl) (Nat.le_of_ble_eq_true rfl) (Nat.le_of_ble_eq_true rfl) (Nat.le_of_ble_eq_true rfl) rfl ?_
        rintro _ _ ⟨rfl, x30, rfl, hx30⟩
        show J_ zX11_row T (po_X11_row T m i w) 0 0 51 _ [vI x30] T
        refine j_blx (F := fX11) tb_X11 (nn_ _) bk_X11_row_51 bs_X11_row_51 hz (fun K hK => ?_)
        refine And.intro (fun c31 => ?_) (fun c31 => ?_)
        · refine hK 57 _ [] T ?_
          have hry := hrx
          obtain ⟨L, hB, hR⟩ := hry
          have hl : lk_ T (T 253 0 m) (L m 0) ∧ T 254 0 m = ((L m 0).length : Int) := hB.1 m 0 (by omega) (by omega) (by decide) (by decide)
          have hl2 : lk_ T (T 255 0 m) (L m 1) ∧ T 256 0 m = ((L m 1).length : Int) := hB.1 m 1 (by omega) (by omega) (by decide) (by decide)
          refine j_blx (F := fX11) tb_X11 (nn_ _) bk_X11_row_57 bs_X11_row_57 hz (fun K hK => ?_)
          refine And.intro (fun c32 => ?_) (fun c32 => ?_)
          · refine hK 72 _ [vR 111 0] T ?_
            refine j_blx (F := fX11) tb_X11 (nn_ _) bk_X11_row_72 bs_X11_row_72 hz (fun K hK => ?_)
            refine ix_i (by omega) ?_
            intro b33 b33b
            refine hK 79 _ [vI i, vI (T 255 0 m), vR 111 0] T ?_
            refine j_callV (y := yX11_rowAt) (Yc := zX11_rowAt) (rest := []) [vI (T 255 0 m), vI i] (ct_X11_rowAt (T := T) (l := L m 1) (by exact hl2.1) (by omega)) cl_X11_456 (qd_c (by decide +kernel)) (nn_ _) rfl (rf_of rfl) (Nat.le_of_ble_eq_true rfl) (Nat.le_of_ble_eq_true rfl) (Nat.le_of_ble_eq_true rfl) rfl ?_
            rintro _ _ ⟨rfl, x34, rfl, hx34⟩
            show J_ zX11_row T (po_X11_row T m i w) 0 0 82 _ [vI x34] T
            refine j_blx (F := fX11) tb_X11 (nn_ _) bk_X11_row_82 bs_X11_row_82 hz (fun K hK => ?_)
            refine dv_i (by omega) ?_
            refine And.intro (fun c35 => ?_) (fun c35 => ?_)
            · refine hK 100 [some (vR 111 0), some (vI m), some (vI i), some (vI w), some (vI x34)] [] T ?_
              refine j_blx (F := fX11) tb_X11 (nn_ _) bk_X11_row_100 bs_X11_row_100 hz (fun K hK => ?_)
              refine dv_i (by omega) ?_
              refine And.intro (fun c36 => ?_) (fun c36 => ?_)
              · refine hK 117 _ [] T ?_
                refine j_blx (F := fX11) tb_X11 (nn_ _) bk_X11_row_117 bs_X11_row_117 hz (fun K hK => ?_)
                refine dv_i (by omega) ?_
                refine And.intro (fun c37 => ?_) (fun c37 => ?_)
                · refine hK 134 _ [] T ?_
                  refine j_blx (F := fX11) tb_X11 (nn_ _) bk_X11_row_134 bs_X11_row_134 hz (fun K hK => ?_)
                  refine ix_i (by omega) ?_
                  intro b38 b38b
                  refine (show po_X11_row T m i w T (some (vI (T 251 0 x34))) from ?_)
                  exact ⟨rfl, _, rfl, by rfl⟩
                · refine ix_i (by omega) ?_
                  intro b39 b39b
                  refine hK 141 _ [vI (T 250 0 x34)] T ?_
                  refine j_blx (F := fX11) tb_X11 (nn_ _) bk_X11_row_141 bs_X11_row_141 hz (fun K hK => ?_)
                  refine (show po_X11_row T m i w T (some (vI (T 250 0 x34))) from ?_)
                  exact ⟨rfl, _, rfl, by rfl⟩
              · refine ix_i (by omega) ?_
                intro b40 b40b
                refine hK 141 _ [vI (T 249 0 x34)] T ?_
                refine j_blx (F := fX11) tb_X11 (nn_ _) bk_X11_row_141 bs_X11_row_141 hz (fun K hK => ?_)
                refine (show po_X11_row T m i w T (some (vI (T 249 0 x34))) from ?_)
                exact ⟨rfl, _, rfl, by rfl⟩
            · refine ix_i (by omega) ?_
              intro b41 b41b
              refine hK 141 _ [vI (T 248 0 x34)] T ?_
              refine j_blx (F := fX11) tb_X11 (nn_ _) bk_X11_row_141 bs_X11_row_141 hz (fun K hK => ?_)
              refine (show po_X11_row T m i w T (some (vI (T 248 0 x34))) from ?_)
              exact ⟨rfl, _, rfl, by rfl⟩
          · refine ix_i (by omega) ?_
            intro b42 b42b
            refine hK 78 _ [vI (T 253 0 m), vR 111 0] T ?_
            refine j_blx (F := fX11) tb_X11 (nn_ _) bk_X11_row_78 bs_X11_row_78 hz (fun K hK => ?_)
            refine hK 79 _ [vI i, vI (T 253 0 m), vR 111 0] T ?_
            refine j_callV (y := yX11_rowAt) (Yc := zX11_rowAt) (rest := []) [vI (T 253 0 m), vI i] (ct_X11_rowAt (T := T) (l := L m 0) (by exact hl.1) (by omega)) cl_X11_456 (qd_c (by decide +kernel)) (nn_ _) rfl (rf_of rfl) (Nat.le_of_ble_eq_true rfl) (Nat.le_of_ble_eq_true rfl) (Nat.le_of_ble_eq_true rfl) rfl ?_
            rintro _ _ ⟨rfl, x43, rfl, hx43⟩
            show J_ zX11_row T (po_X11_row T m i w) 0 0 82 _ [vI x43] T
            refine j_blx (F := fX11) tb_X11 (nn_ _) bk_X11_row_82 bs_X11_row_82 hz (fun K hK => ?_)
            refine dv_i (by omega) ?_
            refine And.intro (fun c44 => ?_) (fun c44 => ?_)
            · refine hK 100 [some (vR 111 0), some (vI m), some (vI i), some (vI w), some (vI x43)] [] T ?_
              refine j_blx (F := fX11) tb_X11 (nn_ _) bk_X11_row_100 bs_X11_row_100 hz (fun K hK => ?_)
              refine dv_i (by omega) ?_
              refine And.intro (fun c45 => ?_) (fun c45 => ?_)
              · refine hK 117 _ [] T ?_
                refine j_blx (F := fX11) tb_X11 (nn_ _) bk_X11_row_117 bs_X11_row_117 hz (fun K hK => ?_)
                refine dv_i (by omega) ?_
                refine And.intro (fun c46 => ?_) (fun c46 => ?_)
                · refine hK 134 _ [] T ?_
                  refine j_blx (F := fX11) tb_X11 (nn_ _) bk_X11_row_134 bs_X11_row_134 hz (fun K hK => ?_)
                  refine ix_i (by omega) ?_
                  intro b47 b47b
                  refine (show po_X11_row T m i w T (some (vI (T 251 0 x43))) from ?_)
                  exact ⟨rfl, _, rfl, by rfl⟩
                · refine ix_i (by omega) ?_
                  intro b48 b48b
                  refine hK 141 _ [vI (T 250 0 x43)] T ?_
                  refine j_blx (F := fX11) tb_X11 (nn_ _) bk_X11_row_141 bs_X11_row_141 hz (fun K hK => ?_)
                  refine (show po_X11_row T m i w T (some (vI (T 250 0 x43))) from ?_)
                  exact ⟨rfl, _, rfl, by rfl⟩
              · refine ix_i (by omega) ?_
                intro b49 b49b
                refine hK 141 _ [vI (T 249 0 x43)] T ?_
                refine j_blx (F := fX11) tb_X11 (nn_ _) bk_X11_row_141 bs_X11_row_141 hz (fun K hK => ?_)
                refine (show po_X11_row T m i w T (some (vI (T 249 0 x43))) from ?_)
                exact ⟨rfl, _, rfl, by rfl⟩
            · refine ix_i (by omega) ?_
              intro b50 b50b
              refine hK 141 _ [vI (T 248 0 x43)] T ?_
              refine j_blx (F := fX11) tb_X11 (nn_ _) bk_X11_row_141 bs_X11_row_141 hz (fun K hK => ?_)
              refine (show po_X11_row T m i w T (some (vI (T 248 0 x43))) from ?_)
              exact ⟨rfl, _, rfl, by rfl⟩
        · refine (show po_X11_row T m i w T (some (vI (-2))) from ?_)
          exact ⟨rfl, _, rfl, by rfl⟩
    · refine (show po_X11_row T m i w T (some (vI (-3))) from ?_)
      exact ⟨rfl, _, rfl, by rfl⟩
  · refine (show po_X11_row T m i w T (some (vI (-2))) from ?_)
    exact ⟨rfl, _, rfl, by rfl⟩
abbrev cX11_rows : ByteArray := prog_13_method_77_code
def yX11_rows : MethodName := ⟨RX11, "rows", "(II)I"⟩
def zX11_rows : Zm := (RX11, cX11_rows, 3, (some .int), { frames := 2, cells := 0, slots := 0, locals := 43 })
theorem bk_X11_rows_0 : ck_ fX11 (some .int) cX11_rows 0 [.iload 1, .aload 0, .tableswitch 0 11 29 #[]] 5 = true := qck_r (nn_ _) (by decide +kernel)
theorem bs_X11_rows_0 {P : Zt → Option Zv → Prop} (K : Int → Zl → List Zv → Zt → Prop) : sx_ K P [.iload 1, .aload 0, .tableswitch 0 11 29 #[]] 5 = x_iload 1 (x_aload 0 (x_g0 111 29 0 400 (K 5))) := ((xe_iload 1).trans (congrArg (x_iload 1) ((xe_aload 0).trans (congrArg (x_aload 0) ((xe_g0 (kk := 111) rfl tl_11_29).trans (congrArg (x_g0 111 29 0 400) xe_nil))))))
theorem bk_X11_rows_8 : ck_ fX11 (some .int) cX11_rows 8 [.ifCond .ne 14, .iconst (-2), .ireturn] 14 = true := qck_r (nn_ _) (by decide +kernel)
theorem bs_X11_rows_8 {P : Zt → Option Zv → Prop} (K : Int → Zl → List Zv → Zt → Prop) : sx_ K P [.ifCond .ne 14, .iconst (-2), .ireturn] 14 = x_ifCond .ne 14 K (x_iconst (-2) (x_ireturn P)) := ((xe_ifCond .ne 14).trans (congrArg (x_ifCond .ne 14 K) ((xe_iconst (-2)).trans (congrArg (x_iconst (-2)) (xe_ireturn)))))
theorem bk_X11_rows_14 : ck_ fX11 (some .int) cX11_rows 14 [.iload 2, .ifCond .ne 27, .aload 0, .tableswitch 0 11 54 #[], .iload 1, .iaload, .goto 43] 27 = true := qck_r (nn_ _) (by decide +kernel)
theorem bs_X11_rows_14 {P : Zt → Option Zv → Prop} (K : Int → Zl → List Zv → Zt → Prop) : sx_ K P [.iload 2, .ifCond .ne 27, .aload 0, .tableswitch 0 11 54 #[], .iload 1, .iaload, .goto 43] 27 = x_iload 2 (x_ifCond .ne 27 K (x_aload 0 (x_g1 111 254 (x_iload 1 (x_iaload (x_goto 43 K)))))) := ((xe_iload 2).trans (congrArg (x_iload 2) ((xe_ifCond .ne 27).trans (congrArg (x_ifCond .ne 27 K) ((xe_aload 0).trans (congrArg (x_aload 0) ((xe_g1 (kk := 111) rfl tl_11_54).trans (congrArg (x_g1 111 254) ((xe_iload 1).trans (congrArg (x_iload 1) ((xe_iaload).trans (congrArg (x_iaload) (xe_goto 43)))))))))))))
theorem bk_X11_rows_27 : ck_ fX11 (some .int) cX11_rows 27 [.iload 2, .iconst 1, .if_icmp .ne 41, .aload 0, .tableswitch 0 11 56 #[], .iload 1, .iaload, .goto 43] 41 = true := qck_r (nn_ _) (by decide +kernel)
theorem bs_X11_rows_27 {P : Zt → Option Zv → Prop} (K : Int → Zl → List Zv → Zt → Prop) : sx_ K P [.iload 2, .iconst 1, .if_icmp .ne 41, .aload 0, .tableswitch 0 11 56 #[], .iload 1, .iaload, .goto 43] 41 = x_iload 2 (x_iconst 1 (x_if_icmp .ne 41 K (x_aload 0 (x_g1 111 256 (x_iload 1 (x_iaload (x_goto 43 K))))))) := ((xe_iload 2).trans (congrArg (x_iload 2) ((xe_iconst 1).trans (congrArg (x_iconst 1) ((xe_if_icmp .ne 41).trans (congrArg (x_if_icmp .ne 41 K) ((xe_aload 0).trans (congrArg (x_aload 0) ((xe_g1 (kk := 111) rfl tl_11_56).trans (congrArg (x_g1 111 256) ((xe_iload 1).trans (congrArg (x_iload 1) ((xe_iaload).trans (congrArg (x_iaload) (xe_goto 43)))))))))))))))
theorem bk_X11_rows_41 : ck_ fX11 (some .int) cX11_rows 41 [.iconst (-3), .ireturn] 44 = true := qck_r (nn_ _) (by decide +kernel)
theorem bs_X11_rows_41 {P : Zt → Option Zv → Prop} (K : Int → Zl → List Zv → Zt → Prop) : sx_ K P [.iconst (-3), .ireturn] 44 = x_iconst (-3) (x_ireturn P) := ((xe_iconst (-3)).trans (congrArg (x_iconst (-3)) (xe_ireturn)))
theorem bk_X11_rows_43 : ck_ fX11 (some .int) cX11_rows 43 [.ireturn] 44 = true := qck_r (nn_ _) (by decide +kernel)
theorem bs_X11_rows_43 {P : Zt → Option Zv → Prop} (K : Int → Zl → List Zv → Zt → Prop) : sx_ K P [.ireturn] 44 = x_ireturn P := (xe_ireturn)
abbrev po_X11_rows (T : Zt) (m w : Int) : Zt → Option Zv → Prop := fun T' r => T = T' ∧ ∃ x : Int, r = some (vI x) ∧ (0 = (0 : Int))
set_option maxHeartbeats 4000000 in
theorem ct_X11_rows {T : Zt} {m w : Int} : Ct_ yX11_rows zX11_rows T [vR 111 0, vI m, vI w] (po_X11_rows T m w) := by
  refine ct_of pn_11 rfl rfl (Nat.le_of_ble_eq_true rfl) (fun hT hav => ?_)
  have hr_m : -2147483648 ≤ m ∧ m ≤ 2147483647 := hav (vI m) (by simp)
  have hr_w : -2147483648 ≤ w ∧ w ≤ 2147483647 := hav (vI w) (by simp)
  have hz : zX11_rows.2.2.2.1 = some .boolean → ∀ (T' : Zt) (x : Int), po_X11_rows T m w T' (some (vI x)) → 0 ≤ x ∧ x ≤ 1 := fun h => by cases h
  have hb_29 : 0 ≤ T 111 0 29 ∧ T 111 0 29 ≤ 400 := bd_f hT 111 29 (by decide +kernel : (tf_ 111)[29]? = some (0, 0, 0, 400)) 0
  show J_ zX11_rows T (po_X11_rows T m w) 0 0 0 [some (vR 111 0), some (vI m), some (vI w)] [] T
  refine j_blx (F := fX11) tb_X11 (nn_ _) bk_X11_rows_0 bs_X11_rows_0 hz (fun K hK => ?_)
  intro b1 b1b
  refine hK 5 _ [vI (T 111 0 29), vI m] T ?_
  refine j_callS (y := yX11_isOf) (Yc := zX11_isOf) (rest := []) [vI m, vI (T 111 0 29)] (ct_X11_isOf (T := T) (by omega)) cl_X11_317 (qd_c (by decide +kernel)) (nn_ _) rfl (rf_of rfl) (Nat.le_of_ble_eq_true rfl) (Nat.le_of_ble_eq_true rfl) (Nat.le_of_ble_eq_true rfl) rfl ?_
  rintro _ _ ⟨rfl, x2, rfl, hx2⟩
  show J_ zX11_rows T (po_X11_rows T m w) 0 0 8 _ [vI x2] T
  refine j_blx (F := fX11) tb_X11 (nn_ _) bk_X11_rows_8 bs_X11_rows_8 hz (fun K hK => ?_)
  refine And.intro (fun c3 => ?_) (fun c3 => ?_)
  · refine hK 14 _ [] T ?_
    refine j_blx (F := fX11) tb_X11 (nn_ _) bk_X11_rows_14 bs_X11_rows_14 hz (fun K hK => ?_)
    refine And.intro (fun c4 => ?_) (fun c4 => ?_)
    · refine hK 27 _ [] T ?_
      refine j_blx (F := fX11) tb_X11 (nn_ _) bk_X11_rows_27 bs_X11_rows_27 hz (fun K hK => ?_)
      refine And.intro (fun c5 => ?_) (fun c5 => ?_)
      · refine hK 41 _ [] T ?_
        refine j_blx (F := fX11) tb_X11 (nn_ _) bk_X11_rows_41 bs_X11_rows_41 hz (fun K hK => ?_)
        refine (show po_X11_rows T m w T (some (vI (-3))) from ?_)
        exact ⟨rfl, _, rfl, by rfl⟩
      · refine ix_i (by omega) ?_
        intro b6 b6b
        refine hK 43 _ [vI (T 256 0 m)] T ?_
        refine j_blx (F := fX11) tb_X11 (nn_ _) bk_X11_rows_43 bs_X11_rows_43 hz (fun K hK => ?_)
        refine (show po_X11_rows T m w T (some (vI (T 256 0 m))) from ?_)
        exact ⟨rfl, _, rfl, by rfl⟩
    · refine ix_i (by omega) ?_
      intro b7 b7b
      refine hK 43 _ [vI (T 254 0 m)] T ?_
      refine j_blx (F := fX11) tb_X11 (nn_ _) bk_X11_rows_43 bs_X11_rows_43 hz (fun K hK => ?_)
      refine (show po_X11_rows T m w T (some (vI (T 254 0 m))) from ?_)
      exact ⟨rfl, _, rfl, by rfl⟩
  · refine (show po_X11_rows T m w T (some (vI (-2))) from ?_)
    exact ⟨rfl, _, rfl, by rfl⟩
abbrev cX11_state : ByteArray := prog_13_method_79_code
def yX11_state : MethodName := ⟨RX11, "state", "(II)I"⟩
def zX11_state : Zm := (RX11, cX11_state, 3, (some .int), { frames := 2, cells := 0, slots := 0, locals := 43 })
theorem bk_X11_state_0 : ck_ fX11 (some .int) cX11_state 0 [.iload 1, .aload 0, .tableswitch 0 11 29 #[]] 5 = true := qck_r (nn_ _) (by decide +kernel)
theorem bs_X11_state_0 {P : Zt → Option Zv → Prop} (K : Int → Zl → List Zv → Zt → Prop) : sx_ K P [.iload 1, .aload 0, .tableswitch 0 11 29 #[]] 5 = x_iload 1 (x_aload 0 (x_g0 111 29 0 400 (K 5))) := ((xe_iload 1).trans (congrArg (x_iload 1) ((xe_aload 0).trans (congrArg (x_aload 0) ((xe_g0 (kk := 111) rfl tl_11_29).trans (congrArg (x_g0 111 29 0 400) xe_nil))))))
theorem bk_X11_state_8 : ck_ fX11 (some .int) cX11_state 8 [.ifCond .ne 14, .iconst (-2), .ireturn] 14 = true := qck_r (nn_ _) (by decide +kernel)
theorem bs_X11_state_8 {P : Zt → Option Zv → Prop} (K : Int → Zl → List Zv → Zt → Prop) : sx_ K P [.ifCond .ne 14, .iconst (-2), .ireturn] 14 = x_ifCond .ne 14 K (x_iconst (-2) (x_ireturn P)) := ((xe_ifCond .ne 14).trans (congrArg (x_ifCond .ne 14 K) ((xe_iconst (-2)).trans (congrArg (x_iconst (-2)) (xe_ireturn)))))
theorem bk_X11_state_14 : ck_ fX11 (some .int) cX11_state 14 [.iload 2, .iconst 0, .iconst 7] 18 = true := qck_r (nn_ _) (by decide +kernel)
theorem bs_X11_state_14 {P : Zt → Option Zv → Prop} (K : Int → Zl → List Zv → Zt → Prop) : sx_ K P [.iload 2, .iconst 0, .iconst 7] 18 = x_iload 2 (x_iconst 0 (x_iconst 7 (K 18))) := ((xe_iload 2).trans (congrArg (x_iload 2) ((xe_iconst 0).trans (congrArg (x_iconst 0) ((xe_iconst 7).trans (congrArg (x_iconst 7) xe_nil))))))
theorem bk_X11_state_21 : ck_ fX11 (some .int) cX11_state 21 [.ifCond .ne 27, .iconst (-3), .ireturn] 27 = true := qck_r (nn_ _) (by decide +kernel)
theorem bs_X11_state_21 {P : Zt → Option Zv → Prop} (K : Int → Zl → List Zv → Zt → Prop) : sx_ K P [.ifCond .ne 27, .iconst (-3), .ireturn] 27 = x_ifCond .ne 27 K (x_iconst (-3) (x_ireturn P)) := ((xe_ifCond .ne 27).trans (congrArg (x_ifCond .ne 27 K) ((xe_iconst (-3)).trans (congrArg (x_iconst (-3)) (xe_ireturn)))))
theorem bk_X11_state_27 : ck_ fX11 (some .int) cX11_state 27 [.aload 0, .tableswitch 0 11 35 #[], .iload 1, .iaload, .iconst 1, .if_icmp .eq 47, .aload 0, .tableswitch 0 11 35 #[], .iload 1, .iaload, .iconst 2, .if_icmp .ne 56, .aload 0, .iload 1, .iload 2] 50 = true := qck_r (nn_ _) (by decide +kernel)
theorem bs_X11_state_27 {P : Zt → Option Zv → Prop} (K : Int → Zl → List Zv → Zt → Prop) : sx_ K P [.aload 0, .tableswitch 0 11 35 #[], .iload 1, .iaload, .iconst 1, .if_icmp .eq 47, .aload 0, .tableswitch 0 11 35 #[], .iload 1, .iaload, .iconst 2, .if_icmp .ne 56, .aload 0, .iload 1, .iload 2] 50 = x_aload 0 (x_g1 111 235 (x_iload 1 (x_iaload (x_iconst 1 (x_if_icmp .eq 47 K (x_aload 0 (x_g1 111 235 (x_iload 1 (x_iaload (x_iconst 2 (x_if_icmp .ne 56 K (x_aload 0 (x_iload 1 (x_iload 2 (K 50))))))))))))))) := ((xe_aload 0).trans (congrArg (x_aload 0) ((xe_g1 (kk := 111) rfl tl_11_35).trans (congrArg (x_g1 111 235) ((xe_iload 1).trans (congrArg (x_iload 1) ((xe_iaload).trans (congrArg (x_iaload) ((xe_iconst 1).trans (congrArg (x_iconst 1) ((xe_if_icmp .eq 47).trans (congrArg (x_if_icmp .eq 47 K) ((xe_aload 0).trans (congrArg (x_aload 0) ((xe_g1 (kk := 111) rfl tl_11_35).trans (congrArg (x_g1 111 235) ((xe_iload 1).trans (congrArg (x_iload 1) ((xe_iaload).trans (congrArg (x_iaload) ((xe_iconst 2).trans (congrArg (x_iconst 2) ((xe_if_icmp .ne 56).trans (congrArg (x_if_icmp .ne 56 K) ((xe_aload 0).trans (congrArg (x_aload 0) ((xe_iload 1).trans (congrArg (x_iload 1) ((xe_iload 2).trans (congrArg (x_iload 2) xe_nil))))))))))))))))))))))))))))))
theorem bk_X11_state_47 : ck_ fX11 (some .int) cX11_state 47 [.aload 0, .iload 1, .iload 2] 50 = true := qck_r (nn_ _) (by decide +kernel)
theorem bs_X11_state_47 {P : Zt → Option Zv → Prop} (K : Int → Zl → List Zv → Zt → Prop) : sx_ K P [.aload 0, .iload 1, .iload 2] 50 = x_aload 0 (x_iload 1 (x_iload 2 (K 50))) := ((xe_aload 0).trans (congrArg (x_aload 0) ((xe_iload 1).trans (congrArg (x_iload 1) ((xe_iload 2).trans (congrArg (x_iload 2) xe_nil))))))
theorem bk_X11_state_53 : ck_ fX11 (some .int) cX11_state 53 [.goto 58] 56 = true := qck_r (nn_ _) (by decide +kernel)
theorem bs_X11_state_53 {P : Zt → Option Zv → Prop} (K : Int → Zl → List Zv → Zt → Prop) : sx_ K P [.goto 58] 56 = x_goto 58 K := (xe_goto 58)
theorem bk_X11_state_58 : ck_ fX11 (some .int) cX11_state 58 [.ireturn] 59 = true := qck_r (nn_ _) (by decide +kernel)
theorem bs_X11_state_58 {P : Zt → Option Zv → Prop} (K : Int → Zl → List Zv → Zt → Prop) : sx_ K P [.ireturn] 59 = x_ireturn P := (xe_ireturn)
theorem bk_X11_state_56 : ck_ fX11 (some .int) cX11_state 56 [.iconst (-4), .ireturn] 59 = true := qck_r (nn_ _) (by decide +kernel)
theorem bs_X11_state_56 {P : Zt → Option Zv → Prop} (K : Int → Zl → List Zv → Zt → Prop) : sx_ K P [.iconst (-4), .ireturn] 59 = x_iconst (-4) (x_ireturn P) := ((xe_iconst (-4)).trans (congrArg (x_iconst (-4)) (xe_ireturn)))
abbrev po_X11_state (T : Zt) (m w : Int) : Zt → Option Zv → Prop := fun T' r => T = T' ∧ ∃ x : Int, r = some (vI x) ∧ (0 = (0 : Int))
set_option maxHeartbeats 4000000 in
theorem ct_X11_state {T : Zt} {m w : Int} : Ct_ yX11_state zX11_state T [vR 111 0, vI m, vI w] (po_X11_state T m w) := by
  refine ct_of pn_11 rfl rfl (Nat.le_of_ble_eq_true rfl) (fun hT hav => ?_)
  have hr_m : -2147483648 ≤ m ∧ m ≤ 2147483647 := hav (vI m) (by simp)
  have hr_w : -2147483648 ≤ w ∧ w ≤ 2147483647 := hav (vI w) (by simp)
  have hz : zX11_state.2.2.2.1 = some .boolean → ∀ (T' : Zt) (x : Int), po_X11_state T m w T' (some (vI x)) → 0 ≤ x ∧ x ≤ 1 := fun h => by cases h
  have hb_29 : 0 ≤ T 111 0 29 ∧ T 111 0 29 ≤ 400 := bd_f hT 111 29 (by decide +kernel : (tf_ 111)[29]? = some (0, 0, 0, 400)) 0
  show J_ zX11_state T (po_X11_state T m w) 0 0 0 [some (vR 111 0), some (vI m), some (vI w)] [] T
  refine j_blx (F := fX11) tb_X11 (nn_ _) bk_X11_state_0 bs_X11_state_0 hz (fun K hK => ?_)
  intro b1 b1b
  refine hK 5 _ [vI (T 111 0 29), vI m] T ?_
  refine j_callS (y := yX11_isOf) (Yc := zX11_isOf) (rest := []) [vI m, vI (T 111 0 29)] (ct_X11_isOf (T := T) (by omega)) cl_X11_317 (qd_c (by decide +kernel)) (nn_ _) rfl (rf_of rfl) (Nat.le_of_ble_eq_true rfl) (Nat.le_of_ble_eq_true rfl) (Nat.le_of_ble_eq_true rfl) rfl ?_
  rintro _ _ ⟨rfl, x2, rfl, hx2⟩
  show J_ zX11_state T (po_X11_state T m w) 0 0 8 _ [vI x2] T
  refine j_blx (F := fX11) tb_X11 (nn_ _) bk_X11_state_8 bs_X11_state_8 hz (fun K hK => ?_)
  refine And.intro (fun c3 => ?_) (fun c3 => ?_)
  · refine hK 14 _ [] T ?_
    refine j_blx (F := fX11) tb_X11 (nn_ _) bk_X11_state_14 bs_X11_state_14 hz (fun K hK => ?_)
    refine hK 18 _ [vI 7, vI 0, vI w] T ?_
    refine j_callS (y := yX11_in) (Yc := zX11_in) (rest := []) [vI w, vI 0, vI 7] (ct_X11_in (T := T)) cl_X11_255 (qd_c (by decide +kernel)) (nn_ _) rfl (rf_of rfl) (Nat.le_of_ble_eq_true rfl) (Nat.le_of_ble_eq_true rfl) (Nat.le_of_ble_eq_true rfl) rfl ?_
    rintro _ _ ⟨rfl, x4, rfl, hx4⟩
    show J_ zX11_state T (po_X11_state T m w) 0 0 21 _ [vI x4] T
    refine j_blx (F := fX11) tb_X11 (nn_ _) bk_X11_state_21 bs_X11_state_21 hz (fun K hK => ?_)
    refine And.intro (fun c5 => ?_) (fun c5 => ?_)
    · refine hK 27 _ [] T ?_
      refine j_blx (F := fX11) tb_X11 (nn_ _) bk_X11_state_27 bs_X11_state_27 hz (fun K hK => ?_)
      refine ix_i (by omega) ?_
      intro b6 b6b
      refine And.intro (fun c7 => ?_) (fun c7 => ?_)
      · refine hK 47 _ [] T ?_
        refine j_blx (F := fX11) tb_X11 (nn_ _) bk_X11_state_47 bs_X11_state_47 hz (fun K hK => ?_)
        refine hK 50 _ [vI w, vI m, vR 111 0] T ?_
        refine j_callV (y := yX11_liveOf) (Yc := zX11_liveOf) (rest := []) [vI m, vI w] (ct_X11_liveOf (T := T) (by omega) (by omega)) cl_X11_400 (qd_c (by decide +kernel)) (nn_ _) rfl (rf_of rfl) (Nat.le_of_ble_eq_true rfl) (Nat.le_of_ble_eq_true rfl) (Nat.le_of_ble_eq_true rfl) rfl ?_
        rintro _ _ ⟨rfl, rfl⟩
        show J_ zX11_state T (po_X11_state T m w) 0 0 53 _ [vI (T 246 0 (8 * m + w))] T
        refine j_blx (F := fX11) tb_X11 (nn_ _) bk_X11_state_53 bs_X11_state_53 hz (fun K hK => ?_)
        refine hK 58 _ [vI (T 246 0 (8 * m + w))] T ?_
        refine j_blx (F := fX11) tb_X11 (nn_ _) bk_X11_state_58 bs_X11_state_58 hz (fun K hK => ?_)
        refine (show po_X11_state T m w T (some (vI (T 246 0 (8 * m + w)))) from ?_)
        exact ⟨rfl, _, rfl, by rfl⟩
      · refine ix_i (by omega) ?_
        intro b8 b8b
        refine And.intro (fun c9 => ?_) (fun c9 => ?_)
        · refine hK 56 _ [] T ?_
          refine j_blx (F := fX11) tb_X11 (nn_ _) bk_X11_state_56 bs_X11_state_56 hz (fun K hK => ?_)
          refine (show po_X11_state T m w T (some (vI (-4))) from ?_)
          exact ⟨rfl, _, rfl, by rfl⟩
        · refine hK 50 _ [vI w, vI m, vR 111 0] T ?_
          refine j_callV (y := yX11_liveOf) (Yc := zX11_liveOf) (rest := []) [vI m, vI w] (ct_X11_liveOf (T := T) (by omega) (by omega)) cl_X11_400 (qd_c (by decide +kernel)) (nn_ _) rfl (rf_of rfl) (Nat.le_of_ble_eq_true rfl) (Nat.le_of_ble_eq_true rfl) (Nat.le_of_ble_eq_true rfl) rfl ?_
          rintro _ _ ⟨rfl, rfl⟩
          show J_ zX11_state T (po_X11_state T m w) 0 0 53 _ [vI (T 246 0 (8 * m + w))] T
          refine j_blx (F := fX11) tb_X11 (nn_ _) bk_X11_state_53 bs_X11_state_53 hz (fun K hK => ?_)
          refine hK 58 _ [vI (T 246 0 (8 * m + w))] T ?_
          refine j_blx (F := fX11) tb_X11 (nn_ _) bk_X11_state_58 bs_X11_state_58 hz (fun K hK => ?_)
          refine (show po_X11_state T m w T (some (vI (T 246 0 (8 * m + w)))) from ?_)
          exact ⟨rfl, _, rfl, by rfl⟩
    · refine (show po_X11_state T m w T (some (vI (-3))) from ?_)
      exact ⟨rfl, _, rfl, by rfl⟩
  · refine (show po_X11_state T m w T (some (vI (-2))) from ?_)
    exact ⟨rfl, _, rfl, by rfl⟩
abbrev cX11_onField : ByteArray := prog_13_method_80_code
def yX11_onField : MethodName := ⟨RX11, "onField", "(III)I"⟩
def zX11_onField : Zm := (RX11, cX11_onField, 5, (some .int), { frames := 2, cells := 0, slots := 0, locals := 43 })
theorem bk_X11_onField_51 : ck_ fX11 (some .int) cX11_onField 51 [.istore 4, .iload 4, .ifCond .eq 98, .iload 3, .aload 0, .tableswitch 0 11 44 #[], .iconst 2, .iload 1, .imul, .iload 2, .iadd, .iaload] 69 = true := qck_r (nn_ _) (by decide +kernel)
theorem bs_X11_onField_51 {P : Zt → Option Zv → Prop} (K : Int → Zl → List Zv → Zt → Prop) : sx_ K P [.istore 4, .iload 4, .ifCond .eq 98, .iload 3, .aload 0, .tableswitch 0 11 44 #[], .iconst 2, .iload 1, .imul, .iload 2, .iadd, .iaload] 69 = x_istore 4 (x_iload 4 (x_ifCond .eq 98 K (x_iload 3 (x_aload 0 (x_g1 111 244 (x_iconst 2 (x_iload 1 (x_imul (x_iload 2 (x_iadd (x_iaload (K 69)))))))))))) := ((xe_istore 4).trans (congrArg (x_istore 4) ((xe_iload 4).trans (congrArg (x_iload 4) ((xe_ifCond .eq 98).trans (congrArg (x_ifCond .eq 98 K) ((xe_iload 3).trans (congrArg (x_iload 3) ((xe_aload 0).trans (congrArg (x_aload 0) ((xe_g1 (kk := 111) rfl tl_11_44).trans (congrArg (x_g1 111 244) ((xe_iconst 2).trans (congrArg (x_iconst 2) ((xe_iload 1).trans (congrArg (x_iload 1) ((xe_imul).trans (congrArg (x_imul) ((xe_iload 2).trans (congrArg (x_iload 2) ((xe_iadd).trans (congrArg (x_iadd) ((xe_iaload).trans (congrArg (x_iaload) xe_nil))))))))))))))))))))))))
theorem bk_X11_onField_98 : ck_ fX11 (some .int) cX11_onField 98 [.iconst (-1), .ireturn] 100 = true := qck_r (nn_ _) (by decide +kernel)
theorem bs_X11_onField_98 {P : Zt → Option Zv → Prop} (K : Int → Zl → List Zv → Zt → Prop) : sx_ K P [.iconst (-1), .ireturn] 100 = x_iconst (-1) (x_ireturn P) := ((xe_iconst (-1)).trans (congrArg (x_iconst (-1)) (xe_ireturn)))
theorem bk_X11_onField_72 : ck_ fX11 (some .int) cX11_onField 72 [.ifCond .eq 98, .aload 0, .tableswitch 0 11 40 #[], .aload 0, .tableswitch 0 11 45 #[], .iconst 6, .iconst 2, .iload 1, .imul, .iload 2, .iadd, .imul, .iload 3, .iadd, .iaload, .iaload, .goto 99] 98 = true := qck_r (nn_ _) (by decide +kernel)
theorem bs_X11_onField_72 {P : Zt → Option Zv → Prop} (K : Int → Zl → List Zv → Zt → Prop) : sx_ K P [.ifCond .eq 98, .aload 0, .tableswitch 0 11 40 #[], .aload 0, .tableswitch 0 11 45 #[], .iconst 6, .iconst 2, .iload 1, .imul, .iload 2, .iadd, .imul, .iload 3, .iadd, .iaload, .iaload, .goto 99] 98 = x_ifCond .eq 98 K (x_aload 0 (x_g1 111 240 (x_aload 0 (x_g1 111 245 (x_iconst 6 (x_iconst 2 (x_iload 1 (x_imul (x_iload 2 (x_iadd (x_imul (x_iload 3 (x_iadd (x_iaload (x_iaload (x_goto 99 K)))))))))))))))) := ((xe_ifCond .eq 98).trans (congrArg (x_ifCond .eq 98 K) ((xe_aload 0).trans (congrArg (x_aload 0) ((xe_g1 (kk := 111) rfl tl_11_40).trans (congrArg (x_g1 111 240) ((xe_aload 0).trans (congrArg (x_aload 0) ((xe_g1 (kk := 111) rfl tl_11_45).trans (congrArg (x_g1 111 245) ((xe_iconst 6).trans (congrArg (x_iconst 6) ((xe_iconst 2).trans (congrArg (x_iconst 2) ((xe_iload 1).trans (congrArg (x_iload 1) ((xe_imul).trans (congrArg (x_imul) ((xe_iload 2).trans (congrArg (x_iload 2) ((xe_iadd).trans (congrArg (x_iadd) ((xe_imul).trans (congrArg (x_imul) ((xe_iload 3).trans (congrArg (x_iload 3) ((xe_iadd).trans (congrArg (x_iadd) ((xe_iaload).trans (congrArg (x_iaload) ((xe_iaload).trans (congrArg (x_iaload) (xe_goto 99)))))))))))))))))))))))))))))))))
theorem bk_X11_onField_99 : ck_ fX11 (some .int) cX11_onField 99 [.ireturn] 100 = true := qck_r (nn_ _) (by decide +kernel)
theorem bs_X11_onField_99 {P : Zt → Option Zv → Prop} (K : Int → Zl → List Zv → Zt → Prop) : sx_ K P [.ireturn] 100 = x_ireturn P := (xe_ireturn)
theorem bk_X11_onField_0 : ck_ fX11 (some .int) cX11_onField 0 [.iload 1, .aload 0, .tableswitch 0 11 29 #[]] 5 = true := qck_r (nn_ _) (by decide +kernel)
theorem bs_X11_onField_0 {P : Zt → Option Zv → Prop} (K : Int → Zl → List Zv → Zt → Prop) : sx_ K P [.iload 1, .aload 0, .tableswitch 0 11 29 #[]] 5 = x_iload 1 (x_aload 0 (x_g0 111 29 0 400 (K 5))) := ((xe_iload 1).trans (congrArg (x_iload 1) ((xe_aload 0).trans (congrArg (x_aload 0) ((xe_g0 (kk := 111) rfl tl_11_29).trans (congrArg (x_g0 111 29 0 400) xe_nil))))))
theorem bk_X11_onField_8 : ck_ fX11 (some .int) cX11_onField 8 [.ifCond .ne 14, .iconst (-2), .ireturn] 14 = true := qck_r (nn_ _) (by decide +kernel)
theorem bs_X11_onField_8 {P : Zt → Option Zv → Prop} (K : Int → Zl → List Zv → Zt → Prop) : sx_ K P [.ifCond .ne 14, .iconst (-2), .ireturn] 14 = x_ifCond .ne 14 K (x_iconst (-2) (x_ireturn P)) := ((xe_ifCond .ne 14).trans (congrArg (x_ifCond .ne 14 K) ((xe_iconst (-2)).trans (congrArg (x_iconst (-2)) (xe_ireturn)))))
theorem bk_X11_onField_14 : ck_ fX11 (some .int) cX11_onField 14 [.iload 2, .iconst 0, .iconst 1] 17 = true := qck_r (nn_ _) (by decide +kernel)
theorem bs_X11_onField_14 {P : Zt → Option Zv → Prop} (K : Int → Zl → List Zv → Zt → Prop) : sx_ K P [.iload 2, .iconst 0, .iconst 1] 17 = x_iload 2 (x_iconst 0 (x_iconst 1 (K 17))) := ((xe_iload 2).trans (congrArg (x_iload 2) ((xe_iconst 0).trans (congrArg (x_iconst 0) ((xe_iconst 1).trans (congrArg (x_iconst 1) xe_nil))))))
theorem bk_X11_onField_20 : ck_ fX11 (some .int) cX11_onField 20 [.ifCond .ne 26, .iconst (-3), .ireturn] 26 = true := qck_r (nn_ _) (by decide +kernel)
theorem bs_X11_onField_20 {P : Zt → Option Zv → Prop} (K : Int → Zl → List Zv → Zt → Prop) : sx_ K P [.ifCond .ne 26, .iconst (-3), .ireturn] 26 = x_ifCond .ne 26 K (x_iconst (-3) (x_ireturn P)) := ((xe_ifCond .ne 26).trans (congrArg (x_ifCond .ne 26 K) ((xe_iconst (-3)).trans (congrArg (x_iconst (-3)) (xe_ireturn)))))
theorem bk_X11_onField_26 : ck_ fX11 (some .int) cX11_onField 26 [.aload 0, .tableswitch 0 11 35 #[], .iload 1, .iaload, .iconst 1, .if_icmp .eq 46, .aload 0, .tableswitch 0 11 35 #[], .iload 1, .iaload, .iconst 2, .if_icmp .ne 50, .iconst 1, .goto 51] 50 = true := qck_r (nn_ _) (by decide +kernel)
theorem bs_X11_onField_26 {P : Zt → Option Zv → Prop} (K : Int → Zl → List Zv → Zt → Prop) : sx_ K P [.aload 0, .tableswitch 0 11 35 #[], .iload 1, .iaload, .iconst 1, .if_icmp .eq 46, .aload 0, .tableswitch 0 11 35 #[], .iload 1, .iaload, .iconst 2, .if_icmp .ne 50, .iconst 1, .goto 51] 50 = x_aload 0 (x_g1 111 235 (x_iload 1 (x_iaload (x_iconst 1 (x_if_icmp .eq 46 K (x_aload 0 (x_g1 111 235 (x_iload 1 (x_iaload (x_iconst 2 (x_if_icmp .ne 50 K (x_iconst 1 (x_goto 51 K))))))))))))) := ((xe_aload 0).trans (congrArg (x_aload 0) ((xe_g1 (kk := 111) rfl tl_11_35).trans (congrArg (x_g1 111 235) ((xe_iload 1).trans (congrArg (x_iload 1) ((xe_iaload).trans (congrArg (x_iaload) ((xe_iconst 1).trans (congrArg (x_iconst 1) ((xe_if_icmp .eq 46).trans (congrArg (x_if_icmp .eq 46 K) ((xe_aload 0).trans (congrArg (x_aload 0) ((xe_g1 (kk := 111) rfl tl_11_35).trans (congrArg (x_g1 111 235) ((xe_iload 1).trans (congrArg (x_iload 1) ((xe_iaload).trans (congrArg (x_iaload) ((xe_iconst 2).trans (congrArg (x_iconst 2) ((xe_if_icmp .ne 50).trans (congrArg (x_if_icmp .ne 50 K) ((xe_iconst 1).trans (congrArg (x_iconst 1) (xe_goto 51)))))))))))))))))))))))))))
theorem bk_X11_onField_46 : ck_ fX11 (some .int) cX11_onField 46 [.iconst 1, .goto 51] 50 = true := qck_r (nn_ _) (by decide +kernel)
theorem bs_X11_onField_46 {P : Zt → Option Zv → Prop} (K : Int → Zl → List Zv → Zt → Prop) : sx_ K P [.iconst 1, .goto 51] 50 = x_iconst 1 (x_goto 51 K) := ((xe_iconst 1).trans (congrArg (x_iconst 1) (xe_goto 51)))
theorem bk_X11_onField_50 : ck_ fX11 (some .int) cX11_onField 50 [.iconst 0] 51 = true := qck_r (nn_ _) (by decide +kernel)
theorem bs_X11_onField_50 {P : Zt → Option Zv → Prop} (K : Int → Zl → List Zv → Zt → Prop) : sx_ K P [.iconst 0] 51 = x_iconst 0 (K 51) := ((xe_iconst 0).trans (congrArg (x_iconst 0) xe_nil))
abbrev po_X11_onField (T : Zt) (m s i : Int) : Zt → Option Zv → Prop := fun T' r => T = T' ∧ ∃ x : Int, r = some (vI x) ∧ (0 = (0 : Int))
set_option maxHeartbeats 4000000 in
theorem ct_X11_onField {T : Zt} {m s i : Int} : Ct_ yX11_onField zX11_onField T [vR 111 0, vI m, vI s, vI i] (po_X11_onField T m s i) := by
  refine ct_of pn_11 rfl rfl (Nat.le_of_ble_eq_true rfl) (fun hT hav => ?_)
  have hr_m : -2147483648 ≤ m ∧ m ≤ 2147483647 := hav (vI m) (by simp)
  have hr_s : -2147483648 ≤ s ∧ s ≤ 2147483647 := hav (vI s) (by simp)
  have hr_i : -2147483648 ≤ i ∧ i ≤ 2147483647 := hav (vI i) (by simp)
  have hz : zX11_onField.2.2.2.1 = some .boolean → ∀ (T' : Zt) (x : Int), po_X11_onField T m s i T' (some (vI x)) → 0 ≤ x ∧ x ≤ 1 := fun h => by cases h
  have hb_29 : 0 ≤ T 111 0 29 ∧ T 111 0 29 ≤ 400 := bd_f hT 111 29 (by decide +kernel : (tf_ 111)[29]? = some (0, 0, 0, 400)) 0
  show J_ zX11_onField T (po_X11_onField T m s i) 0 0 0 [some (vR 111 0), some (vI m), some (vI s), some (vI i), none] [] T
  have c_51 : ∀ (v : Int), (0 ≤ m ∧ m < T 111 0 29 ∧ 0 ≤ s ∧ s ≤ 1) → J_ zX11_onField T (po_X11_onField T m s i) 0 0 51 [some (vR 111 0), some (vI m), some (vI s), some (vI i), none] [vI v] T := by
    intro v p1
    refine j_blx (F := fX11) tb_X11 (nn_ _) bk_X11_onField_51 bs_X11_onField_51 hz (fun K hK => ?_)
    refine And.intro (fun c1 => ?_) (fun c1 => ?_)
    · refine hK 98 [some (vR 111 0), some (vI m), some (vI s), some (vI i), some (vI v)] [] T ?_
      refine j_blx (F := fX11) tb_X11 (nn_ _) bk_X11_onField_98 bs_X11_onField_98 hz (fun K hK => ?_)
      refine (show po_X11_onField T m s i T (some (vI (-1))) from ?_)
      exact ⟨rfl, _, rfl, by rfl⟩
    · refine rg_i (by omega) ?_
      refine rg_i (by omega) ?_
      refine ix_i (by omega) ?_
      intro b2 b2b
      refine hK 69 _ [vI (T 244 0 ((2 * m) + s)), vI i] T ?_
      refine j_callS (y := yX11_isOf) (Yc := zX11_isOf) (rest := []) [vI i, vI (T 244 0 ((2 * m) + s))] (ct_X11_isOf (T := T) (by omega)) cl_X11_317 (qd_c (by decide +kernel)) (nn_ _) rfl (rf_of rfl) (Nat.le_of_ble_eq_true rfl) (Nat.le_of_ble_eq_true rfl) (Nat.le_of_ble_eq_true rfl) rfl ?_
      rintro _ _ ⟨rfl, x3, rfl, hx3⟩
      show J_ zX11_onField T (po_X11_onField T m s i) 0 0 72 _ [vI x3] T
      refine j_blx (F := fX11) tb_X11 (nn_ _) bk_X11_onField_72 bs_X11_onField_72 hz (fun K hK => ?_)
      refine And.intro (fun c4 => ?_) (fun c4 => ?_)
      · refine hK 98 _ [] T ?_
        refine j_blx (F := fX11) tb_X11 (nn_ _) bk_X11_onField_98 bs_X11_onField_98 hz (fun K hK => ?_)
        refine (show po_X11_onField T m s i T (some (vI (-1))) from ?_)
        exact ⟨rfl, _, rfl, by rfl⟩
      · refine rg_i (by omega) ?_
        refine rg_i (by omega) ?_
        refine rg_i (by omega) ?_
        refine rg_i (by omega) ?_
        refine ix_i (by omega) ?_
        intro b5 b5b
        refine ix_i (by omega) ?_
        intro b6 b6b
        refine hK 99 _ [vI (T 240 0 (T 245 0 ((6 * ((2 * m) + s)) + i)))] T ?_
        refine j_blx (F := fX11) tb_X11 (nn_ _) bk_X11_onField_99 bs_X11_onField_99 hz (fun K hK => ?_)
        refine (show po_X11_onField T m s i T (some (vI (T 240 0 (T 245 0 ((6 * ((2 * m) + s)) + i))))) from ?_)
        exact ⟨rfl, _, rfl, by rfl⟩
  refine j_blx (F := fX11) tb_X11 (nn_ _) bk_X11_onField_0 bs_X11_onField_0 hz (fun K hK => ?_)
  intro b7 b7b
  refine hK 5 _ [vI (T 111 0 29), vI m] T ?_
  refine j_callS (y := yX11_isOf) (Yc := zX11_isOf) (rest := []) [vI m, vI (T 111 0 29)] (ct_X11_isOf (T := T) (by omega)) cl_X11_317 (qd_c (by decide +kernel)) (nn_ _) rfl (rf_of rfl) (Nat.le_of_ble_eq_true rfl) (Nat.le_of_ble_eq_true rfl) (Nat.le_of_ble_eq_true rfl) rfl ?_
  rintro _ _ ⟨rfl, x8, rfl, hx8⟩
  show J_ zX11_onField T (po_X11_onField T m s i) 0 0 8 _ [vI x8] T
  refine j_blx (F := fX11) tb_X11 (nn_ _) bk_X11_onField_8 bs_X11_onField_8 hz (fun K hK => ?_)
  refine And.intro (fun c9 => ?_) (fun c9 => ?_)
  · refine hK 14 _ [] T ?_
    refine j_blx (F := fX11) tb_X11 (nn_ _) bk_X11_onField_14 bs_X11_onField_14 hz (fun K hK => ?_)
    refine hK 17 _ [vI 1, vI 0, vI s] T ?_
    refine j_callS (y := yX11_in) (Yc := zX11_in) (rest := []) [vI s, vI 0, vI 1] (ct_X11_in (T := T)) cl_X11_255 (qd_c (by decide +kernel)) (nn_ _) rfl (rf_of rfl) (Nat.le_of_ble_eq_true rfl) (Nat.le_of_ble_eq_true rfl) (Nat.le_of_ble_eq_true rfl) rfl ?_
    rintro _ _ ⟨rfl, x10, rfl, hx10⟩
    show J_ zX11_onField T (po_X11_onField T m s i) 0 0 20 _ [vI x10] T
    refine j_blx (F := fX11) tb_X11 (nn_ _) bk_X11_onField_20 bs_X11_onField_20 hz (fun K hK => ?_)
    refine And.intro (fun c11 => ?_) (fun c11 => ?_)
    · refine hK 26 _ [] T ?_
      refine j_blx (F := fX11) tb_X11 (nn_ _) bk_X11_onField_26 bs_X11_onField_26 hz (fun K hK => ?_)
      refine ix_i (by omega) ?_
      intro b12 b12b
      refine And.intro (fun c13 => ?_) (fun c13 => ?_)
      · refine hK 46 _ [] T ?_
        refine j_blx (F := fX11) tb_X11 (nn_ _) bk_X11_onField_46 bs_X11_onField_46 hz (fun K hK => ?_)
        refine hK 51 _ [vI 1] T ?_
        refine c_51 1 ?_
        · omega
      · refine ix_i (by omega) ?_
        intro b14 b14b
        refine And.intro (fun c15 => ?_) (fun c15 => ?_)
        · refine hK 50 _ [] T ?_
          refine j_blx (F := fX11) tb_X11 (nn_ _) bk_X11_onField_50 bs_X11_onField_50 hz (fun K hK => ?_)
          refine hK 51 _ [vI 0] T ?_
          refine c_51 0 ?_
          · omega
        · refine hK 51 _ [vI 1] T ?_
          refine c_51 1 ?_
          · omega
    · refine (show po_X11_onField T m s i T (some (vI (-3))) from ?_)
      exact ⟨rfl, _, rfl, by rfl⟩
  · refine (show po_X11_onField T m s i T (some (vI (-2))) from ?_)
    exact ⟨rfl, _, rfl, by rfl⟩

