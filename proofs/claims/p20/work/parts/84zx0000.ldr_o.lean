-- the plays of both sides alike: what holds between the calls
def rlm_ (f : Int → Int) : Int → Int := fun w => if 0 ≤ w ∧ w < 16 then f w else 0
theorem rlm_e {f g : Int → Int} (h : ∀ w, 0 ≤ w → w < 16 → f w = g w) : rlm_ f = rlm_ g := by
  funext w
  unfold rlm_
  by_cases z : 0 ≤ w ∧ w < 16
  · rw [if_pos z, if_pos z]
    exact h w z.1 z.2
  · rw [if_neg z, if_neg z]
theorem rlm_v {f : Int → Int} {w : Int} (h0 : 0 ≤ w) (h1 : w < 16) : rlm_ f w = f w := if_pos ⟨h0, h1⟩
theorem rlm_p {T : Zt} {m : Int} : RLP_ T m (rlm_ (fun w => T 401 (T 103 m 0) w)) := fun w a b => (rlm_v (f := fun w => T 401 (T 103 m 0) w) a b).symm
theorem rlm_r {T : Zt} {m : Int} : RLR_ T m (rlm_ (fun w => T 205 0 (23 * T 230 0 m + w))) := fun w a b => (rlm_v (f := fun w => T 205 0 (23 * T 230 0 m + w)) a b).symm
theorem rlm_s {T : Zt} {m : Int} : ∀ w, 0 ≤ w → w < 16 → T 401 (T 102 m 0) w = rlm_ (fun w => T 401 (T 102 m 0) w) w := fun w a b => (rlm_v (f := fun w => T 401 (T 102 m 0) w) a b).symm
abbrev ruH_ (T : Zt) (m : Int) : Int → Int := rlm_ (fun w => T 401 (T 102 m 0) w)
theorem rb_m {T : Zt} {m : Int} (hri : RI_ T) (hx : TXR_ T) (hc : 0 ≤ T 102 m 0 ∧ T 102 m 0 < T 106 0 2) : RB9_ (ruH_ T m) := by
  have e := hx.2.2.1
  have v : ∀ w, 0 ≤ w → w < 16 → (rb_ w).1 ≤ ruH_ T m w ∧ ruH_ T m w ≤ (rb_ w).2 := fun w a b => by
    rw [show ruH_ T m w = T 401 (T 102 m 0) w from rlm_v (f := fun w => T 401 (T 102 m 0) w) a b, (hx.2.2.2.2 _ hc.1 hc.2).1 w a b]
    exact hri (T 102 m 0) w hc.1 (by omega) a (by omega)
  have v0 : 0 ≤ ruH_ T m 0 ∧ ruH_ T m 0 ≤ 3 := v 0 (by decide) (by decide)
  have v9 : 1 ≤ ruH_ T m 9 ∧ ruH_ T m 9 ≤ 6 := v 9 (by decide) (by decide)
  have v10 : 0 ≤ ruH_ T m 10 ∧ ruH_ T m 10 ≤ 5 := v 10 (by decide) (by decide)
  have v11 : 2 ≤ ruH_ T m 11 ∧ ruH_ T m 11 ≤ 25 := v 11 (by decide) (by decide)
  have v12 : 1 ≤ ruH_ T m 12 ∧ ruH_ T m 12 ≤ 9 := v 12 (by decide) (by decide)
  exact ⟨v0, v9, v10, v11, v12⟩
theorem ru_q {T : Zt} {m : Int} (hx : TXR_ T) (he : T 102 m 0 = T 230 0 m) (hc : 0 ≤ T 102 m 0 ∧ T 102 m 0 < T 106 0 2) : rlm_ (fun w => T 205 0 (23 * T 230 0 m + w)) = ruH_ T m := rlm_e (fun w a b => by
  show T 205 0 (23 * T 230 0 m + w) = T 401 (T 102 m 0) w
  rw [← he]
  exact ((hx.2.2.2.2 _ hc.1 hc.2).1 w a b).symm)
/-- the sheets of a match -/
def SHM_ (T : Zt) (m : Int) : Prop :=
  (∀ t, 0 ≤ t → t ≤ 1 → T 239 0 (2 * m + t) = T 449 m t ∧ 0 ≤ T 449 m t ∧ T 449 m t ≤ 10) ∧
  (∀ t x, 0 ≤ t → t ≤ 1 → t * 10 ≤ x → x < t * 10 + T 449 m t → T 240 0 (20 * m + x) = T 448 m x) ∧
  ∀ t x y, 0 ≤ t → t ≤ 1 → t * 10 ≤ x → x < t * 10 + T 449 m t → t * 10 ≤ y → y < t * 10 + T 449 m t → T 448 m x = T 448 m y → x = y
/-- a match that is told -/
def PAA_ (T : Zt) (m : Int) : Prop := T 102 m 6 = -1 ∧ T 102 m 10 = 0 ∧ T 235 0 m = 0 ∧ T 236 0 m = 0 ∧ T 237 0 m = 0 ∧ T 254 0 m = 0 ∧ T 256 0 m = 0
/-- a match that was walked over -/
def PBB_ (T : Zt) (m : Int) : Prop := T 102 m 10 = 0 ∧ T 235 0 m = 3 ∧ ((T 102 m 6 = 0 ∧ T 236 0 m = 0 ∧ T 237 0 m = T 401 (T 102 m 0) 12) ∨ (T 102 m 6 = 1 ∧ T 236 0 m = T 401 (T 102 m 0) 12 ∧ T 237 0 m = 0)) ∧ T 254 0 m = 0 ∧ T 256 0 m = 0
/-- a match that is played -/
def PCC_ (T : Zt) (m : Int) : Prop := T 102 m 6 = -1 ∧ T 102 m 10 ≠ 0 ∧ T 103 m 0 = T 102 m 0 ∧ (∃ n, n ≤ 3 * (T 103 m 15 + T 103 m 17) ∧ SI_ m n (ruH_ T m) (rp9_ T m) (rs9_ T m)) ∧ FN_ (rs9_ T m) ∧ (∀ t, 0 ≤ t → t ≤ 1 → T 401 (T 102 m 0) 9 ≤ T 449 m t) ∧ hr9_ T (T 103 m 14) (T 103 m 15).toNat = rw9_ T m ∧ T 103 m 17 = T 256 0 m
def PM_ (T : Zt) (m : Int) : Prop := PAA_ T m ∨ PBB_ T m ∨ PCC_ T m
/-- every match alike on both sides -/
def PLR_ (T : Zt) : Prop := (∀ m, 0 ≤ m → m < T 106 0 4 → SHM_ T m ∧ PM_ T m) ∧ ∀ m, T 111 0 29 ≤ m → m < 400 → T 236 0 m = 0 ∧ T 237 0 m = 0
/-- the logs of the plays are rows of their own -/
def LDR_ (T : Zt) : Prop := (T 104 0 4 < T 191 0 0 ∧ T 109 0 15 ≤ T 191 0 0) ∧ ∀ m, 0 ≤ m → m < T 106 0 4 → T 102 m 10 ≠ 0 → (T 103 m 14 ≠ T 103 m 16 ∧ T 103 m 14 ≠ T 104 0 4 ∧ T 103 m 14 + 1 ≠ T 109 0 15) ∧ ∀ j, 0 ≤ j → j < T 106 0 4 → T 102 j 10 ≠ 0 → j ≠ m → T 103 m 14 ≠ T 103 j 14 ∧ T 103 m 14 ≠ T 103 j 16
def RCR_ (T : Zt) : Prop := T 106 0 5 = T 111 0 47
def DAR_ (T : Zt) : Prop := ∀ m, 0 ≤ m → m < T 106 0 4 → T 102 m 5 = T 234 0 m
def MVR_ (T : Zt) : Prop := T 106 0 12 = T 111 0 75 ∧ ∀ k, 0 ≤ k → k < T 106 0 12 → T 531 0 k = T 274 0 k
def CNO_ (T : Zt) : Prop := ∀ c, 0 ≤ c → c < T 106 0 2 → T 100 c 0 = c
-- cells of the reference's match
theorem rp_35 {T : Zt} {m : Int} : rp9_ T m 103 3 = T 235 0 m := rp_v rfl rfl rfl
theorem rp_36 {T : Zt} {m : Int} : rp9_ T m 468 0 = T 236 0 m := rp_v rfl rfl rfl
theorem rp_37 {T : Zt} {m : Int} : rp9_ T m 468 1 = T 237 0 m := rp_v rfl rfl rfl
theorem rp_39 {T : Zt} {m t : Int} (h0 : 0 ≤ t) (h1 : t ≤ 1) : rp9_ T m 449 t = T 239 0 (2 * m + t) := rp_v (dm_449 ⟨h0, h1⟩) rfl rfl
theorem rp_40 {T : Zt} {m x : Int} (h0 : 0 ≤ x) (h1 : x ≤ 19) : rp9_ T m 448 x = T 240 0 (20 * m + x) := rp_v (dm_448 ⟨h0, h1⟩) rfl rfl
theorem rpe_ {T T' : Zt} {m : Int} (h : rp9_ T' m = rp9_ T m) : T' 235 0 m = T 235 0 m ∧ T' 236 0 m = T 236 0 m ∧ T' 237 0 m = T 237 0 m := by
  rw [← rp_35 (T := T'), ← rp_36 (T := T'), ← rp_37 (T := T'), h, rp_35, rp_36, rp_37]
  exact ⟨rfl, rfl, rfl⟩
-- what a match's state hangs on
def KHM_ (T T' : Zt) (m : Int) : Prop := (∀ (k : Nat) (j : Int), dk_ k j = true → T' k m j = T k m j) ∧ (T' 102 m 0 = T 102 m 0 ∧ T' 102 m 6 = T 102 m 6 ∧ T' 102 m 10 = T 102 m 10) ∧ (T' 103 m 0 = T 103 m 0 ∧ T' 103 m 14 = T 103 m 14 ∧ T' 103 m 15 = T 103 m 15 ∧ T' 103 m 17 = T 103 m 17) ∧ (∀ w, T' 401 (T 102 m 0) w = T 401 (T 102 m 0) w) ∧ (T 102 m 10 ≠ 0 → ∀ j, 0 ≤ j → j < 4 * T 103 m 15 → T' 190 (T 103 m 14) j = T 190 (T 103 m 14) j)
def KRM_ (T T' : Zt) (m : Int) : Prop := rp9_ T' m = rp9_ T m ∧ rw9_ T' m = rw9_ T m ∧ T' 254 0 m = T 254 0 m ∧ T' 256 0 m = T 256 0 m
theorem khm_t {T T1 T2 : Zt} {m : Int} (a : KHM_ T T1 m) (b : KHM_ T1 T2 m) : KHM_ T T2 m := by
  obtain ⟨a1, ⟨a2, a3, a4⟩, ⟨a5, a6, a7, a8⟩, a9, a0⟩ := a
  obtain ⟨b1, ⟨b2, b3, b4⟩, ⟨b5, b6, b7, b8⟩, b9, b0⟩ := b
  refine ⟨fun k j d => (b1 k j d).trans (a1 k j d), ⟨by omega, by omega, by omega⟩, ⟨by omega, by omega, by omega, by omega⟩, fun w => ?_, fun h j j0 j1 => ?_⟩
  · rw [a2] at b9
    exact (b9 w).trans (a9 w)
  · rw [a6] at b0
    exact (b0 (by omega) j j0 (by omega)).trans (a0 h j j0 j1)
theorem kqm_t {T T1 T2 : Zt} {m : Int} (a : KRM_ T T1 m) (b : KRM_ T1 T2 m) : KRM_ T T2 m := ⟨b.1.trans a.1, b.2.1.trans a.2.1, b.2.2.1.trans a.2.2.1, b.2.2.2.trans a.2.2.2⟩
def FRF_ : List (Nat × List Int) := [(235, []), (236, []), (237, []), (239, []), (240, []), (241, []), (242, []), (243, []), (244, []), (245, []), (246, []), (248, []), (249, []), (250, []), (251, []), (252, []), (253, []), (254, []), (256, [])]
def FHS_ : List (Nat × List Int) := [(102, [0, 6, 10]), (103, []), (448, []), (449, []), (466, []), (467, []), (468, []), (469, []), (470, []), (471, []), (472, []), (473, []), (401, []), (190, [])]
theorem kqm_s {T T' : Zt} {m : Int} (k : ks_ FRF_ T T') : KRM_ T T' m := by
  refine ⟨rp_x (fun K j c => ?_), rw_k (fun K x c => ?_) (fun x => k 252 0 x rfl) (k 253 0 m rfl) (k 254 0 m rfl), k 254 0 m rfl, k 256 0 m rfl⟩
  · rcases c with rfl | rfl | rfl | rfl | rfl | rfl | rfl | rfl | rfl | rfl | rfl <;> exact k _ 0 j rfl
  · rcases c with rfl | rfl | rfl | rfl <;> exact k _ 0 x rfl
theorem khm_s {T T' : Zt} {m : Int} (k : ks_ FHS_ T T') : KHM_ T T' m := by
  refine ⟨fun K j d => ?_, ⟨k 102 m 0 rfl, k 102 m 6 rfl, k 102 m 10 rfl⟩, ⟨k 103 m 0 rfl, k 103 m 14 rfl, k 103 m 15 rfl, k 103 m 17 rfl⟩, fun w => k 401 _ w rfl, fun _ j _ _ => k 190 _ j rfl⟩
  rcases dk_c d with rfl | rfl | rfl | rfl | rfl | rfl | rfl | rfl | rfl | rfl | ⟨rfl, _⟩ <;> exact k _ m j rfl
theorem shm_c {T T' : Zt} {m : Int} (h : SHM_ T m) (e49 : ∀ t, T' 449 m t = T 449 m t) (e48 : ∀ t, T' 448 m t = T 448 m t) (e39 : ∀ t, 0 ≤ t → t ≤ 1 → T' 239 0 (2 * m + t) = T 239 0 (2 * m + t)) (e40 : ∀ x, 0 ≤ x → x ≤ 19 → T' 240 0 (20 * m + x) = T 240 0 (20 * m + x)) : SHM_ T' m := by
  obtain ⟨h1, h2, h3⟩ := h
  refine ⟨fun t t0 t1 => ?_, fun t x t0 t1 x0 x1 => ?_, fun t x y t0 t1 x0 x1 y0 y1 e => ?_⟩
  · rw [e49, e39 t t0 t1]
    exact h1 t t0 t1
  · rw [e49] at x1
    have g := h1 t t0 t1
    rw [e48, e40 x (by omega) (by omega)]
    exact h2 t x t0 t1 x0 x1
  · rw [e49] at x1 y1
    rw [e48, e48] at e
    exact h3 t x y t0 t1 x0 x1 y0 y1 e
theorem shm_k {T T' : Zt} {m : Int} (h : SHM_ T m) (a : KHM_ T T' m) (b : KRM_ T T' m) : SHM_ T' m :=
  shm_c h (fun t => a.1 449 t rfl) (fun t => a.1 448 t rfl) (fun t t0 t1 => by rw [← rp_39 (T := T') (m := m) t0 t1, b.1, rp_39 t0 t1]) (fun x x0 x1 => by rw [← rp_40 (T := T') (m := m) x0 x1, b.1, rp_40 x0 x1])
theorem pm_k {T T' : Zt} {m : Int} (h : PM_ T m) (a : KHM_ T T' m) (b : KRM_ T T' m) : PM_ T' m := by
  obtain ⟨a1, ⟨a2, a3, a4⟩, ⟨a5, a6, a7, a8⟩, a9, a0⟩ := a
  obtain ⟨b1, b2, b3, b4⟩ := b
  obtain ⟨c35, c36, c37⟩ := rpe_ b1
  have es : rs9_ T' m = rs9_ T m := rs_n a1
  have er : ruH_ T' m = ruH_ T m := rlm_e (fun w _ _ => by
    show T' 401 (T' 102 m 0) w = T 401 (T 102 m 0) w
    rw [a2, a9])
  rcases h with h | h | h
  · refine Or.inl ?_
    unfold PAA_ at h ⊢
    omega
  · refine Or.inr (Or.inl ?_)
    unfold PBB_ at h ⊢
    rw [a2, a9]
    omega
  · obtain ⟨h1, h2, h3, ⟨n, hn, hs⟩, h5, h6, h7, h8⟩ := h
    refine Or.inr (Or.inr ⟨by omega, by omega, by omega, ⟨n, by omega, ?_⟩, ?_, fun t t0 t1 => ?_, ?_, by omega⟩)
    · rw [er, b1, es]
      exact hs
    · rw [es]
      exact h5
    · rw [a2, a9, show T' 449 m t = T 449 m t from a1 449 t rfl]
      exact h6 t t0 t1
    · rw [a6, a7, b2, ← h7]
      exact hrw_e (fun j j0 j1 => a0 h2 j j0 (by omega))
/-- one match changes -/
theorem plr_s {T T2 : Zt} {m : Int} (h : PLR_ T) (c1 : T2 106 0 4 = T 106 0 4) (c2 : T2 111 0 29 = T 111 0 29) (hm : 0 ≤ m → m < T 106 0 4 → SHM_ T2 m ∧ PM_ T2 m) (ho : ∀ j, 0 ≤ j → j < T 106 0 4 → j ≠ m → KHM_ T T2 j ∧ KRM_ T T2 j) (hz : ∀ j, T 111 0 29 ≤ j → j < 400 → T2 236 0 j = T 236 0 j ∧ T2 237 0 j = T 237 0 j) : PLR_ T2 := by
  refine ⟨fun j j0 j1 => ?_, fun j j0 j1 => ?_⟩
  · rw [c1] at j1
    by_cases z : j = m
    · rw [z]
      exact hm (by omega) (by omega)
    · have g := h.1 j j0 j1
      have k := ho j j0 j1 z
      exact ⟨shm_k g.1 k.1 k.2, pm_k g.2 k.1 k.2⟩
  · rw [c2] at j0
    have g := h.2 j j0 j1
    have k := hz j j0 j1
    omega
theorem plr_k {T T' : Zt} (h : PLR_ T) (a : ks_ FHS_ T T') (b : ks_ FRF_ T T') (c1 : T' 106 0 4 = T 106 0 4) (c2 : T' 111 0 29 = T 111 0 29) : PLR_ T' :=
  plr_s (m := -1) h c1 c2 (fun z => absurd z (by decide)) (fun _ _ _ _ => ⟨khm_s a, kqm_s b⟩) (fun j _ _ => ⟨b 236 0 j rfl, b 237 0 j rfl⟩)
theorem ldr_k {T T' : Zt} (h : LDR_ T) (e : T' 104 0 4 = T 104 0 4 ∧ T' 109 0 15 = T 109 0 15 ∧ T' 191 0 0 = T 191 0 0 ∧ T' 106 0 4 = T 106 0 4) (g : ∀ m, T' 102 m 10 = T 102 m 10 ∧ T' 103 m 14 = T 103 m 14 ∧ T' 103 m 16 = T 103 m 16) : LDR_ T' := by
  obtain ⟨e1, e2, e3, e4⟩ := e
  refine ⟨by have := h.1; omega, fun m m0 m1 mp => ?_⟩
  have gm := g m
  have y := h.2 m m0 (by omega) (by omega)
  refine ⟨by have := y.1; omega, fun j j0 j1 jp n => ?_⟩
  have gj := g j
  have w := y.2 j j0 (by omega) (by omega) n
  omega
theorem dk_n {k : Nat} {j : Int} (d : dk_ k j = true) : k ≠ 190 ∧ k ≠ 191 ∧ k ≠ 106 := by
  rcases dk_c d with y | y | y | y | y | y | y | y | y | y | ⟨y, _⟩ <;> omega
/-- the others' plays under an event or a review -/
theorem khm_o {T T1 : Zt} {N m j : Int} (hL : LDR_ T) (hl : LP_ N T) (hm : 0 ≤ m ∧ m < T 106 0 4) (hp : T 102 m 10 ≠ 0) (o : OMH_ T T1 m) (j0 : 0 ≤ j) (j1 : j < T 106 0 4) (n : j ≠ m) (e401 : ∀ i w, T1 401 i w = T 401 i w) : KHM_ T T1 j :=
  ⟨fun k i d => o.1 k j i n (dk_n d).1 (dk_n d).2.1 (dk_n d).2.2, ⟨o.1 102 j 0 n (by decide) (by decide) (by decide), o.1 102 j 6 n (by decide) (by decide) (by decide), o.1 102 j 10 n (by decide) (by decide) (by decide)⟩, ⟨o.1 103 j 0 n (by decide) (by decide) (by decide), o.1 103 j 14 n (by decide) (by decide) (by decide), o.1 103 j 15 n (by decide) (by decide) (by decide), o.1 103 j 17 n (by decide) (by decide) (by decide)⟩, fun w => e401 _ w, fun q i _ _ => o.2.1 _ i (hl j j0 j1 q).1.2.2.2.2.2.1 ((hL.2 j j0 j1 q).2 m hm.1 hm.2 hp (Ne.symm n)).1 ((hL.2 j j0 j1 q).2 m hm.1 hm.2 hp (Ne.symm n)).2⟩
theorem ldr_o {T T1 : Zt} {N m : Int} (h : LDR_ T) (hl : LP_ N T) (hm : 0 ≤ m ∧ m < T 106 0 4) (hp : T 102 m 10 ≠ 0) (o : OMH_ T T1 m) (e4 : T1 106 0 4 = T 106 0 4) (e10 : T1 102 m 10 = T 102 m 10) (e44 : T1 104 0 4 = T 104 0 4) (e15 : T1 109 0 15 = T 109 0 15) (e91 : T 191 0 0 ≤ T1 191 0 0) (one : T1 103 m 14 = T 103 m 14 ∨ T1 103 m 16 = T 103 m 16) : LDR_ T1 := by
  obtain ⟨⟨h1, h2⟩, h3⟩ := h
  obtain ⟨o1, o2, o3, o4⟩ := o
  have lo : ∀ j, 0 ≤ j → j < T 106 0 4 → T 102 j 10 ≠ 0 → T 103 j 14 < T 191 0 0 ∧ T 103 j 16 < T 191 0 0 := fun j a b c => ⟨(hl j a b c).1.2.2.2.2.2.1, (hl j a b c).1.2.2.2.2.2.2.1⟩
  have lm := lo m hm.1 hm.2 hp
  have hmm := h3 m hm.1 hm.2 hp
  have oth : ∀ j, j ≠ m → T1 102 j 10 = T 102 j 10 ∧ T1 103 j 14 = T 103 j 14 ∧ T1 103 j 16 = T 103 j 16 := fun j n => ⟨o1 102 j 10 n (by decide) (by decide) (by decide), o1 103 j 14 n (by decide) (by decide) (by decide), o1 103 j 16 n (by decide) (by decide) (by decide)⟩
  refine ⟨⟨by omega, by omega⟩, fun i i0 i1 ip => ?_⟩
  rw [e4] at i1
  by_cases z : i = m
  · rw [z]
    refine ⟨by have := hmm.1; omega, fun j j0 j1 jp n => ?_⟩
    rw [e4] at j1
    have y := oth j n
    rw [y.1] at jp
    have w := lo j j0 j1 jp
    have v := hmm.2 j j0 j1 jp n
    omega
  · have y := oth i z
    rw [y.1] at ip
    have w := lo i i0 i1 ip
    have v := h3 i i0 i1 ip
    refine ⟨by have := v.1; omega, fun j j0 j1 jp n => ?_⟩
    rw [e4] at j1
    by_cases q : j = m
    · rw [q] at n ⊢
      have u := v.2 m hm.1 hm.2 hp n
      omega
    · have y2 := oth j q
      rw [y2.1] at jp
      have u := v.2 j j0 j1 jp n
      omega
