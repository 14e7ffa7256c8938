-- the plays of both sides alike: what holds between the calls
def rlm_ (f : Int → Int) : Int → Int := fun w => if 0 ≤ w ∧ w < 16 then f w else 0
theorem rlm_e {f g : Int → Int} (h : ∀ w, 0 ≤ w → w < 16 → f w = g w) : rlm_ f = rlm_ g := by
  funext w
  unfold rlm_
  by_cases z : 0 ≤ w ∧ w < 16
  · rw [if_pos z, if_pos z]
    exact h w z.1 z.2
  · rw [if_neg z, if_neg z]
theorem rlm_v {f : Int → Int} {w : Int} (h0 : 0 ≤ w) (h1 : w < 16) : rlm_ f w = f w := if_pos ⟨h0, h1⟩
theorem rlm_p {T : Zt} {m : Int} : RLP_ T m (rlm_ (fun w => T 401 (T 103 m 0) w)) := fun w a b => (rlm_v (f := fun w => T 401 (T 103 m 0) w) a b).symm
theorem rlm_r {T : Zt} {m : Int} : RLR_ T m (rlm_ (fun w => T 205 0 (23 * T 230 0 m + w))) := fun w a b => (rlm_v (f := fun w => T 205 0 (23 * T 230 0 m + w)) a b).symm
theorem rlm_s {T : Zt} {m : Int} : ∀ w, 0 ≤ w → w < 16 → T 401 (T 102 m 0) w = rlm_ (fun w => T 401 (T 102 m 0) w) w := fun w a b => (rlm_v (f := fun w => T 401 (T 102 m 0) w) a b).symm
abbrev ruH_ (T : Zt) (m : Int) : Int → Int := rlm_ (fun w => T 401 (T 102 m 0) w)
theorem rb_m {T : Zt} {m : Int} (hri : RI_ T) (hx : TXR_ T) (hc : 0 ≤ T 102 m 0 ∧ T 102 m 0 < T 106 0 2) : RB9_ (ruH_ T m) := by
  have e := hx.2.2.1
  have v : ∀ w, 0 ≤ w → w < 16 → (rb_ w).1 ≤ ruH_ T m w ∧ ruH_ T m w ≤ (rb_ w).2 := fun w a b => by
    rw [show ruH_ T m w = T 401 (T 102 m 0) w from rlm_v (f := fun w => T 401 (T 102 m 0) w) a b, (hx.2.2.2.2 _ hc.1 hc.2).1 w a b]
    exact hri (T 102 m 0) w hc.1 (by omega) a (by omega)
  have v0 : 0 ≤ ruH_ T m 0 ∧ ruH_ T m 0 ≤ 3 := v 0 (by decide) (by decide)
  have v9 : 1 ≤ ruH_ T m 9 ∧ ruH_ T m 9 ≤ 6 := v 9 (by decide) (by decide)
  have v10 : 0 ≤ ruH_ T m 10 ∧ ruH_ T m 10 ≤ 5 := v 10 (by decide) (by decide)
  have v11 : 2 ≤ ruH_ T m 11 ∧ ruH_ T m 11 ≤ 25 := v 11 (by decide) (by decide)
  have v12 : 1 ≤ ruH_ T m 12 ∧ ruH_ T m 12 ≤ 9 := v 12 (by decide) (by decide)
  exact ⟨v0, v9, v10, v11, v12⟩
theorem ru_q {T : Zt} {m : Int} (hx : TXR_ T) (he : T 102 m 0 = T 230 0 m) (hc : 0 ≤ T 102 m 0 ∧ T 102 m 0 < T 106 0 2) : rlm_ (fun w => T 205 0 (23 * T 230 0 m + w)) = ruH_ T m := rlm_e (fun w a b => by
  show T 205 0 (23 * T 230 0 m + w) = T 401 (T 102 m 0) w
  rw [← he]
  exact ((hx.2.2.2.2 _ hc.1 hc.2).1 w a b).symm)
/-- the sheets of a match -/
def SHM_ (T : Zt) (m : Int) : Prop :=
  (∀ t, 0 ≤ t → t ≤ 1 → T 239 0 (2 * m + t) = T 449 m t ∧ 0 ≤ T 449 m t ∧ T 449 m t ≤ 10) ∧
  (∀ t x, 0 ≤ t → t ≤ 1 → t * 10 ≤ x → x < t * 10 + T 449 m t → T 240 0 (20 * m + x) = T 448 m x) ∧
  ∀ t x y, 0 ≤ t → t ≤ 1 → t * 10 ≤ x → x < t * 10 + T 449 m t → t * 10 ≤ y → y < t * 10 + T 449 m t → T 448 m x = T 448 m y → x = y
/-- a match that is told -/
def PAA_ (T : Zt) (m : Int) : Prop := T 102 m 6 = -1 ∧ T 102 m 10 = 0 ∧ T 235 0 m = 0 ∧ T 236 0 m = 0 ∧ T 237 0 m = 0 ∧ T 254 0 m = 0 ∧ T 256 0 m = 0
/-- a match that was walked over -/
def PBB_ (T : Zt) (m : Int) : Prop := T 102 m 10 = 0 ∧ T 235 0 m = 3 ∧ ((T 102 m 6 = 0 ∧ T 236 0 m = 0 ∧ T 237 0 m = T 401 (T 102 m 0) 12) ∨ (T 102 m 6 = 1 ∧ T 236 0 m = T 401 (T 102 m 0) 12 ∧ T 237 0 m = 0)) ∧ T 254 0 m = 0 ∧ T 256 0 m = 0
/-- a match that is played -/
def PCC_ (T : Zt) (m : Int) : Prop := T 102 m 6 = -1 ∧ T 102 m 10 ≠ 0 ∧ T 103 m 0 = T 102 m 0 ∧ (∃ n, n ≤ 3 * (T 103 m 15 + T 103 m 17) ∧ SI_ m n (ruH_ T m) (rp9_ T m) (rs9_ T m)) ∧ FN_ (rs9_ T m) ∧ (∀ t, 0 ≤ t → t ≤ 1 → T 401 (T 102 m 0) 9 ≤ T 449 m t) ∧ hr9_ T (T 103 m 14) (T 103 m 15).toNat = rw9_ T m ∧ T 103 m 17 = T 256 0 m
def PM_ (T : Zt) (m : Int) : Prop := PAA_ T m ∨ PBB_ T m ∨ PCC_ T m
/-- every match alike on both sides -/
def PLR_ (T : Zt) : Prop := (∀ m, 0 ≤ m → m < T 106 0 4 → SHM_ T m ∧ PM_ T m) ∧ ∀ m, T 111 0 29 ≤ m → m < 400 → T 236 0 m = 0 ∧ T 237 0 m = 0
/-- the logs of the plays are rows of their own -/
def LDR_ (T : Zt) : Prop := (T 104 0 4 < T 191 0 0 ∧ T 109 0 15 ≤ T 191 0 0) ∧ ∀ m, 0 ≤ m → m < T 106 0 4 → T 102 m 10 ≠ 0 → (T 103 m 14 ≠ T 103 m 16 ∧ T 103 m 14 ≠ T 104 0 4 ∧ T 103 m 14 + 1 ≠ T 109 0 15) ∧ ∀ j, 0 ≤ j → j < T 106 0 4 → T 102 j 10 ≠ 0 → j ≠ m → T 103 m 14 ≠ T 103 j 14 ∧ T 103 m 14 ≠ T 103 j 16
def RCR_ (T : Zt) : Prop := T 106 0 5 = T 111 0 47
def DAR_ (T : Zt) : Prop := ∀ m, 0 ≤ m → m < T 106 0 4 → T 102 m 5 = T 234 0 m
def MVR_ (T : Zt) : Prop := T 106 0 12 = T 111 0 75 ∧ ∀ k, 0 ≤ k → k < T 106 0 12 → T 531 0 k = T 274 0 k
def CNO_ (T : Zt) : Prop := ∀ c, 0 ≤ c → c < T 106 0 2 → T 100 c 0 = c
-- cells of the reference's match
theorem rp_35 {T : Zt} {m : Int} : rp9_ T m 103 3 = T 235 0 m := rp_v rfl rfl rfl
theorem rp_36 {T : Zt} {m : Int} : rp9_ T m 468 0 = T 236 0 m := rp_v rfl rfl rfl
theorem rp_37 {T : Zt} {m : Int} : rp9_ T m 468 1 = T 237 0 m := rp_v rfl rfl rfl
theorem rp_39 {T : Zt} {m t : Int} (h0 : 0 ≤ t) (h1 : t ≤ 1) : rp9_ T m 449 t = T 239 0 (2 * m + t) := rp_v (dm_449 ⟨h0, h1⟩) rfl rfl
theorem rp_40 {T : Zt} {m x : Int} (h0 : 0 ≤ x) (h1 : x ≤ 19) : rp9_ T m 448 x = T 240 0 (20 * m + x) := rp_v (dm_448 ⟨h0, h1⟩) rfl rfl
theorem rpe_ {T T' : Zt} {m : Int} (h : rp9_ T' m = rp9_ T m) : T' 235 0 m = T 235 0 m ∧ T' 236 0 m = T 236 0 m ∧ T' 237 0 m = T 237 0 m := by
  rw [← rp_35 (T := T'), ← rp_36 (T := T'), ← rp_37 (T := T'), h, rp_35, rp_36, rp_37]
  exact ⟨rfl, rfl, rfl⟩
-- what a match's state hangs on
def KHM_ (T T' : Zt) (m : Int) : Prop := (∀ (k : Nat) (j : Int), dk_ k j = true → T' k m j = T k m j) ∧ (T' 102 m 0 = T 102 m 0 ∧ T' 102 m 6 = T 102 m 6 ∧ T' 102 m 10 = T 102 m 10) ∧ (T' 103 m 0 = T 103 m 0 ∧ T' 103 m 14 = T 103 m 14 ∧ T' 103 m 15 = T 103 m 15 ∧ T' 103 m 17 = T 103 m 17) ∧ (∀ w, T' 401 (T 102 m 0) w = T 401 (T 102 m 0) w) ∧ (T 102 m 10 ≠ 0 → ∀ j, 0 ≤ j → j < 4 * T 103 m 15 → T' 190 (T 103 m 14) j = T 190 (T 103 m 14) j)
def KRM_ (T T' : Zt) (m : Int) : Prop := rp9_ T' m = rp9_ T m ∧ rw9_ T' m = rw9_ T m ∧ T' 254 0 m = T 254 0 m ∧ T' 256 0 m = T 256 0 m
theorem khm_t {T T1 T2 : Zt} {m : Int} (a : KHM_ T T1 m) (b : KHM_ T1 T2 m) : KHM_ T T2 m := by
  obtain ⟨a1, ⟨a2, a3, a4⟩, ⟨a5, a6, a7, a8⟩, a9, a0⟩ := a
  obtain ⟨b1, ⟨b2, b3, b4⟩, ⟨b5, b6, b7, b8⟩, b9, b0⟩ := b
  refine ⟨fun k j d => (b1 k j d).trans (a1 k j d), ⟨by omega, by omega, by omega⟩, ⟨by omega, by omega, by omega, by omega⟩, fun w => ?_, fun h j j0 j1 => ?_⟩
  · rw [a2] at b9
    exact (b9 w).trans (a9 w)
  · rw [a6] at b0
    exact (b0 (by omega) j j0 (by omega)).trans (a0 h j j0 j1)
theorem kqm_t {T T1 T2 : Zt} {m : Int} (a : KRM_ T T1 m) (b : KRM_ T1 T2 m) : KRM_ T T2 m := ⟨b.1.trans a.1, b.2.1.trans a.2.1, b.2.2.1.trans a.2.2.1, b.2.2.2.trans a.2.2.2⟩
def FRF_ : List (Nat × List Int) := [(235, []), (236, []), (237, []), (239, []), (240, []), (241, []), (242, []), (243, []), (244, []), (245, []), (246, []), (248, []), (249, []), (250, []), (251, []), (252, []), (253, []), (254, []), (256, [])]
def FHS_ : List (Nat × List Int) := [(102, [0, 6, 10]), (103, []), (448, []), (449, []), (466, []), (467, []), (468, []), (469, []), (470, []), (471, []), (472, []), (473, []), (401, []), (190, [])]
theorem kqm_s {T T' : Zt} {m : Int} (k : ks_ FRF_ T T') : KRM_ T T' m := by
  refine ⟨rp_x (fun K j c => ?_), rw_k (fun K x c => ?_) (fun x => k 252 0 x rfl) (k 253 0 m rfl) (k 254 0 m rfl), k 254 0 m rfl, k 256 0 m rfl⟩
  · rcases c with rfl | rfl | rfl | rfl | rfl | rfl | rfl | rfl | rfl | rfl | rfl <;> exact k _ 0 j rfl
  · rcases c with rfl | rfl | rfl | rfl <;> exact k _ 0 x rfl
theorem khm_s {T T' : Zt} {m : Int} (k : ks_ FHS_ T T') : KHM_ T T' m := by
  refine ⟨fun K j d => ?_, ⟨k 102 m 0 rfl, k 102 m 6 rfl, k 102 m 10 rfl⟩, ⟨k 103 m 0 rfl, k 103 m 14 rfl, k 103 m 15 rfl, k 103 m 17 rfl⟩, fun w => k 401 _ w rfl, fun _ j _ _ => k 190 _ j rfl⟩
  rcases dk_c d with rfl | rfl | rfl | rfl | rfl | rfl | rfl | rfl | rfl | rfl | ⟨rfl, _⟩ <;> exact k _ m j rfl
theorem shm_c {T T' : Zt} {m : Int} (h : SHM_ T m) (e49 : ∀ t, T' 449 m t = T 449 m t) (e48 : ∀ t, T' 448 m t = T 448 m t) (e39 : ∀ t, 0 ≤ t → t ≤ 1 → T' 239 0 (2 * m + t) = T 239 0 (2 * m + t)) (e40 : ∀ x, 0 ≤ x → x ≤ 19 → T' 240 0 (20 * m + x) = T 240 0 (20 * m + x)) : SHM_ T' m := by
  obtain ⟨h1, h2, h3⟩ := h
  refine ⟨fun t t0 t1 => ?_, fun t x t0 t1 x0 x1 => ?_, fun t x y t0 t1 x0 x1 y0 y1 e => ?_⟩
  · rw [e49, e39 t t0 t1]
    exact h1 t t0 t1
  · rw [e49] at x1
    have g := h1 t t0 t1
    rw [e48, e40 x (by omega) (by omega)]
    exact h2 t x t0 t1 x0 x1
  · rw [e49] at x1 y1
    rw [e48, e48] at e
    exact h3 t x y t0 t1 x0 x1 y0 y1 e
theorem shm_k {T T' : Zt} {m : Int} (h : SHM_ T m) (a : KHM_ T T' m) (b : KRM_ T T' m) : SHM_ T' m :=
  shm_c h (fun t => a.1 449 t rfl) (fun t => a.1 448 t rfl) (fun t t0 t1 => by rw [← rp_39 (T := T') (m := m) t0 t1, b.1, rp_39 t0 t1]) (fun x x0 x1 => by rw [← rp_40 (T := T') (m := m) x0 x1, b.1, rp_40 x0 x1])
theorem pm_k {T T' : Zt} {m : Int} (h : PM_ T m) (a : KHM_ T T' m) (b : KRM_ T T' m) : PM_ T' m := by
  obtain ⟨a1, ⟨a2, a3, a4⟩, ⟨a5, a6, a7, a8⟩, a9, a0⟩ := a
  obtain ⟨b1, b2, b3, b4⟩ := b
  obtain ⟨c35, c36, c37⟩ := rpe_ b1
  have es : rs9_ T' m = rs9_ T m := rs_n a1
  have er : ruH_ T' m = ruH_ T m := rlm_e (fun w _ _ => by
    show T' 401 (T' 102 m 0) w = T 401 (T 102 m 0) w
    rw [a2, a9])
  rcases h with h | h | h
  · refine Or.inl ?_
    unfold PAA_ at h ⊢
    omega
  · refine Or.inr (Or.inl ?_)
    unfold PBB_ at h ⊢
    rw [a2, a9]
    omega
  · obtain ⟨h1, h2, h3, ⟨n, hn, hs⟩, h5, h6, h7, h8⟩ := h
    refine Or.inr (Or.inr ⟨by omega, by omega, by omega, ⟨n, by omega, ?_⟩, ?_, fun t t0 t1 => ?_, ?_, by omega⟩)
    · rw [er, b1, es]
      exact hs
    · rw [es]
      exact h5
    · rw [a2, a9, show T' 449 m t = T 449 m t from a1 449 t rfl]
      exact h6 t t0 t1
    · rw [a6, a7, b2, ← h7]
      exact hrw_e (fun j j0 j1 => a0 h2 j j0 (by omega))
/-- one match changes -/
theorem plr_s {T T2 : Zt} {m : Int} (h : PLR_ T) (c1 : T2 106 0 4 = T 106 0 4) (c2 : T2 111 0 29 = T 111 0 29) (hm : 0 ≤ m → m < T 106 0 4 → SHM_ T2 m ∧ PM_ T2 m) (ho : ∀ j, 0 ≤ j → j < T 106 0 4 → j ≠ m → KHM_ T T2 j ∧ KRM_ T T2 j) (hz : ∀ j, T 111 0 29 ≤ j → j < 400 → T2 236 0 j = T 236 0 j ∧ T2 237 0 j = T 237 0 j) : PLR_ T2 := by
  refine ⟨fun j j0 j1 => ?_, fun j j0 j1 => ?_⟩
  · rw [c1] at j1
    by_cases z : j = m
    · rw [z]
      exact hm (by omega) (by omega)
    · have g := h.1 j j0 j1
      have k := ho j j0 j1 z
      exact ⟨shm_k g.1 k.1 k.2, pm_k g.2 k.1 k.2⟩
  · rw [c2] at j0
    have g := h.2 j j0 j1
    have k := hz j j0 j1
    omega
theorem plr_k {T T' : Zt} (h : PLR_ T) (a : ks_ FHS_ T T') (b : ks_ FRF_ T T') (c1 : T' 106 0 4 = T 106 0 4) (c2 : T' 111 0 29 = T 111 0 29) : PLR_ T' :=
  plr_s (m := -1) h c1 c2 (fun z => absurd z (by decide)) (fun _ _ _ _ => ⟨khm_s a, kqm_s b⟩) (fun j _ _ => ⟨b 236 0 j rfl, b 237 0 j rfl⟩)
theorem ldr_k {T T' : Zt} (h : LDR_ T) (e : T' 104 0 4 = T 104 0 4 ∧ T' 109 0 15 = T 109 0 15 ∧ T' 191 0 0 = T 191 0 0 ∧ T' 106 0 4 = T 106 0 4) (g : ∀ m, T' 102 m 10 = T 102 m 10 ∧ T' 103 m 14 = T 103 m 14 ∧ T' 103 m 16 = T 103 m 16) : LDR_ T' := by
  obtain ⟨e1, e2, e3, e4⟩ := e
  refine ⟨by have := h.1; omega, fun m m0 m1 mp => ?_⟩
  have gm := g m
  have y := h.2 m m0 (by omega) (by omega)
  refine ⟨by have := y.1; omega, fun j j0 j1 jp n => ?_⟩
  have gj := g j
  have w := y.2 j j0 (by omega) (by omega) n
  omega
theorem dk_n {k : Nat} {j : Int} (d : dk_ k j = true) : k ≠ 190 ∧ k ≠ 191 ∧ k ≠ 106 := by
  rcases dk_c d with y | y | y | y | y | y | y | y | y | y | ⟨y, _⟩ <;> omega
/-- the others' plays under an event or a review -/
theorem khm_o {T T1 : Zt} {N m j : Int} (hL : LDR_ T) (hl : LP_ N T) (hm : 0 ≤ m ∧ m < T 106 0 4) (hp : T 102 m 10 ≠ 0) (o : OMH_ T T1 m) (j0 : 0 ≤ j) (j1 : j < T 106 0 4) (n : j ≠ m) (e401 : ∀ i w, T1 401 i w = T 401 i w) : KHM_ T T1 j :=
  ⟨fun k i d => o.1 k j i n (dk_n d).1 (dk_n d).2.1 (dk_n d).2.2, ⟨o.1 102 j 0 n (by decide) (by decide) (by decide), o.1 102 j 6 n (by decide) (by decide) (by decide), o.1 102 j 10 n (by decide) (by decide) (by decide)⟩, ⟨o.1 103 j 0 n (by decide) (by decide) (by decide), o.1 103 j 14 n (by decide) (by decide) (by decide), o.1 103 j 15 n (by decide) (by decide) (by decide), o.1 103 j 17 n (by decide) (by decide) (by decide)⟩, fun w => e401 _ w, fun q i _ _ => o.2.1 _ i (hl j j0 j1 q).1.2.2.2.2.2.1 ((hL.2 j j0 j1 q).2 m hm.1 hm.2 hp (Ne.symm n)).1 ((hL.2 j j0 j1 q).2 m hm.1 hm.2 hp (Ne.symm n)).2⟩
theorem ldr_o {T T1 : Zt} {N m : Int} (h : LDR_ T) (hl : LP_ N T) (hm : 0 ≤ m ∧ m < T 106 0 4) (hp : T 102 m 10 ≠ 0) (o : OMH_ T T1 m) (e4 : T1 106 0 4 = T 106 0 4) (e10 : T1 102 m 10 = T 102 m 10) (e44 : T1 104 0 4 = T 104 0 4) (e15 : T1 109 0 15 = T 109 0 15) (e91 : T 191 0 0 ≤ T1 191 0 0) (one : T1 103 m 14 = T 103 m 14 ∨ T1 103 m 16 = T 103 m 16) : LDR_ T1 := by
  obtain ⟨⟨h1, h2⟩, h3⟩ := h
  obtain ⟨o1, o2, o3, o4⟩ := o
  have lo : ∀ j, 0 ≤ j → j < T 106 0 4 → T 102 j 10 ≠ 0 → T 103 j 14 < T 191 0 0 ∧ T 103 j 16 < T 191 0 0 := fun j a b c => ⟨(hl j a b c).1.2.2.2.2.2.1, (hl j a b c).1.2.2.2.2.2.2.1⟩
  have lm := lo m hm.1 hm.2 hp
  have hmm := h3 m hm.1 hm.2 hp
  have oth : ∀ j, j ≠ m → T1 102 j 10 = T 102 j 10 ∧ T1 103 j 14 = T 103 j 14 ∧ T1 103 j 16 = T 103 j 16 := fun j n => ⟨o1 102 j 10 n (by decide) (by decide) (by decide), o1 103 j 14 n (by decide) (by decide) (by decide), o1 103 j 16 n (by decide) (by decide) (by decide)⟩
  refine ⟨⟨by omega, by omega⟩, fun i i0 i1 ip => ?_⟩
  rw [e4] at i1
  by_cases z : i = m
  · rw [z]
    have g := hmm.1
    refine ⟨?_, fun j j0 j1 jp n => ?_⟩
    · rcases o3 with a | a
      · rcases o4 with b | b
        · exact ⟨fun x => g.1 (by omega), fun x => g.2.1 (by omega), fun x => g.2.2 (by omega)⟩
        · exact ⟨fun x => g.1 (by omega), fun x => g.2.1 (by omega), fun x => g.2.2 (by omega)⟩
      · rcases one with c | c
        · exact ⟨fun x => g.1 (by omega), fun x => g.2.1 (by omega), fun x => g.2.2 (by omega)⟩
        · exact ⟨fun x => g.1 (by omega), fun x => g.2.1 (by omega), fun x => g.2.2 (by omega)⟩
    · rw [e4] at j1
      have y := oth j n
      rw [y.1] at jp
      have w := lo j j0 j1 jp
      have v := hmm.2 j j0 j1 jp n
      rcases o3 with a | a
      · exact ⟨fun x => v.1 (by omega), fun x => v.2 (by omega)⟩
      · exact ⟨fun x => v.1 (by omega), fun x => v.2 (by omega)⟩
  · have y := oth i z
    rw [y.1] at ip
    have w := lo i i0 i1 ip
    have v := h3 i i0 i1 ip
    have g := v.1
    refine ⟨⟨fun x => g.1 (by omega), fun x => g.2.1 (by omega), fun x => g.2.2 (by omega)⟩, fun j j0 j1 jp n => ?_⟩
    rw [e4] at j1
    by_cases q : j = m
    · rw [q] at n ⊢
      have u := v.2 m hm.1 hm.2 hp n
      rcases o3 with a | a
      · rcases o4 with b | b
        · exact ⟨fun x => u.1 (by omega), fun x => u.2 (by omega)⟩
        · exact ⟨fun x => u.1 (by omega), fun x => u.2 (by omega)⟩
      · rcases o4 with b | b
        · exact ⟨fun x => u.1 (by omega), fun x => u.2 (by omega)⟩
        · exact ⟨fun x => u.1 (by omega), fun x => u.2 (by omega)⟩
    · have y2 := oth j q
      rw [y2.1] at jp
      have u := v.2 j j0 j1 jp n
      exact ⟨fun x => u.1 (by omega), fun x => u.2 (by omega)⟩
theorem rx_n {T : Zt} (h : RX_ T []) {m : Int} (h0 : 0 ≤ m) (h1 : m < T 111 0 29) : 0 ≤ T 254 0 m := by
  obtain ⟨L, hB, -⟩ := h
  have y : lk_ T (T 253 0 m) (L m 0) ∧ T 254 0 m = ((L m 0).length : Int) := hB.1 m 0 h0 h1 (by decide) (by decide)
  omega
theorem pcc_n {T : Zt} {m : Int} (h : PCC_ T m) (i : 0 ≤ T 103 m 15) (j : 0 ≤ T 254 0 m) : T 103 m 15 = T 254 0 m := by
  have e := congrArg List.length h.2.2.2.2.2.2.1
  rw [hrw_l, rw_n] at e
  omega
/-- one who stands on each field -/
theorem fn_t {a : Sg_} (h : FN_ a) (h3 : a 103 3 = 0) : ∀ t, 0 ≤ t → t ≤ 1 → 1 ≤ a 470 t := fun t t0 t1 => by
  have y := h h3
  rcases (by omega : t = 0 ∨ t = 1) with c | c
  · rw [c]; exact y.1
  · rw [c]; exact y.2
/-- the reference's rows and matches under an event or a review of another -/
theorem kqm_o {T1 T2 : Zt} {m j : Int} (o : OMR_ T1 T2 m) (n : j ≠ m) (j0 : 0 ≤ j) (j1 : j < T1 111 0 29) : KRM_ T1 T2 j := ⟨o.1 j n, (o.2 j n j0 j1).1, (o.2 j n j0 j1).2.1, (o.2 j n j0 j1).2.2⟩
theorem lwR_1 {r : Int → Int} {b : Sg_} {k s q o : Int} (h : b 103 3 ≠ 1) : lwR_ r b k s q o = 1 := by
  unfold lwR_
  exact cz_t h
-- the plays of both sides alike: events and reviews
/-- an event -/
theorem pl_event {T T1 T2 : Zt} {N m k s p q x1 x2 : Int} (hI : IC_ N T) (hR : IR_ T) (hb5 : T 106 0 5 ≤ 3000) (hP : PLR_ T) (hL : LDR_ T) (hC : RCR_ T) (hX : TXR_ T) (hM : MAR_ T) (i2 : IC_ (N + 1) T2) (j2 : IR_ T2) (f1 : fr_ [(106, [5]), (103, [3, 4, 5, 14, 15]), (466, []), (467, []), (468, []), (472, []), (471, []), (469, []), (470, []), (473, []), (190, []), (191, [0])] T T1) (d1 : (LP_ (N + 1) T1 ∧ lh_ T T1 ∧ T1 191 0 0 ≤ T 191 0 0 + 600) ∧ ((x1 = -2 ∧ ¬ (0 ≤ m ∧ m < T 106 0 4) ∧ T = T1) ∨ ((0 ≤ m ∧ m < T 106 0 4) ∧ ((T 102 m 10 = 0 ∧ x1 = -11 ∧ T = T1) ∨ (¬ (T 102 m 10 = 0) ∧ ((lw9_ (rlm_ (fun w => T 401 (T 103 m 0) w)) (rs9_ T m) k s p q ≠ 0 ∧ x1 = -10 - lw9_ (rlm_ (fun w => T 401 (T 103 m 0) w)) (rs9_ T m) k s p q ∧ T = T1) ∨ (lw9_ (rlm_ (fun w => T 401 (T 103 m 0) w)) (rs9_ T m) k s p q = 0 ∧ 3000 ≤ T 106 0 5 ∧ x1 = -5 ∧ T = T1) ∨ (lw9_ (rlm_ (fun w => T 401 (T 103 m 0) w)) (rs9_ T m) k s p q = 0 ∧ T 106 0 5 < 3000 ∧ T1 106 0 5 = T 106 0 5 + 1 ∧ rs9_ T1 m = ca9_ (rlm_ (fun w => T 401 (T 103 m 0) w)) (rs9_ T m) k s p q ∧ hr9_ T1 (T1 103 m 14) (T1 103 m 15).toNat = hr9_ T (T 103 m 14) (T 103 m 15).toNat ++ [(k, s, p, q)] ∧ x1 = T1 103 m 15 ∧ T1 103 m 15 = T 103 m 15 + 1 ∧ T1 103 m 17 = T 103 m 17 ∧ OMH_ T T1 m))))))) (f2 : fr_ [(111, [47]), (248, []), (249, []), (250, []), (251, []), (252, []), (253, []), (254, []), (256, []), (244, []), (241, []), (242, []), (243, []), (245, []), (246, []), (236, []), (237, []), (235, [])] T1 T2) (d2 : (FM_ T2 ∧ RX_ T2 [] ∧ ZS_ T2 ∧ GX_ T2 (-1) ∧ (∀ j, j ≠ m ∨ T1 111 0 29 ≤ j → T2 254 0 j = T1 254 0 j ∧ T2 256 0 j = T1 256 0 j) ∧ ((x2 = -2 ∧ ¬ (0 ≤ m ∧ m < T1 111 0 29) ∧ T1 = T2) ∨ ((0 ≤ m ∧ m < T1 111 0 29) ∧ ((lwR_ (rlm_ (fun w => T1 205 0 (23 * T1 230 0 m + w))) (rp9_ T1 m) k s p q ≠ 0 ∧ x2 = -10 - lwR_ (rlm_ (fun w => T1 205 0 (23 * T1 230 0 m + w))) (rp9_ T1 m) k s p q ∧ T1 = T2) ∨ (lwR_ (rlm_ (fun w => T1 205 0 (23 * T1 230 0 m + w))) (rp9_ T1 m) k s p q = 0 ∧ T1 111 0 47 = 3000 ∧ x2 = -5 ∧ T1 = T2) ∨ (lwR_ (rlm_ (fun w => T1 205 0 (23 * T1 230 0 m + w))) (rp9_ T1 m) k s p q = 0 ∧ T1 111 0 47 ≠ 3000 ∧ T2 111 0 47 = T1 111 0 47 + 1 ∧ rp9_ T2 m = plR_ (rlm_ (fun w => T1 205 0 (23 * T1 230 0 m + w))) (rp9_ T1 m) m k s p q ∧ rw9_ T2 m = rw9_ T1 m ++ [(k, s, p, q)] ∧ x2 = T2 254 0 m ∧ T2 256 0 m = T1 256 0 m ∧ OMR_ T1 T2 m)))))) : x1 = x2 ∧ PLR_ T2 ∧ LDR_ T2 ∧ RCR_ T2 := by
  have c4 : T1 106 0 4 = T 106 0 4 := f1 106 0 4 rfl
  have c29 : T1 111 0 29 = T 111 0 29 := f1 111 0 29 rfl
  have c47 : T1 111 0 47 = T 111 0 47 := f1 111 0 47 rfl
  have v4 : T2 106 0 4 = T1 106 0 4 := f2 106 0 4 rfl
  have v5 : T2 106 0 5 = T1 106 0 5 := f2 106 0 5 rfl
  have v29 : T2 111 0 29 = T1 111 0 29 := f2 111 0 29 rfl
  have mm := hM.1
  have h5 : T 106 0 5 = T 111 0 47 := hC
  have kR : ∀ j, KRM_ T T1 j := fun j => kqm_s (ks_f f1 (by decide +kernel))
  have kH : ∀ j, KHM_ T1 T2 j := fun j => khm_s (ks_f f2 (by decide +kernel))
  obtain ⟨⟨-, lh, -⟩, d1⟩ := d1
  obtain ⟨-, -, -, -, -, d2⟩ := d2
  rcases d1 with ⟨rfl, hn, rfl⟩ | ⟨hm, d1⟩
  · rcases d2 with ⟨rfl, -, rfl⟩ | ⟨hm2, -⟩
    · exact ⟨rfl, hP, hL, hC⟩
    · exfalso; omega
  · have g := hP.1 m hm.1 hm.2
    obtain ⟨-, d2⟩ := d2.resolve_left (fun z => z.2.1 (by omega))
    have hc : 0 ≤ T 102 m 0 ∧ T 102 m 0 < T 106 0 2 := (hI.1.2.1 m hm.1 hm.2).2
    have r2 : rlm_ (fun w => T1 205 0 (23 * T1 230 0 m + w)) = ruH_ T m := Eq.trans (rlm_e (fun w _ _ => by
      show T1 205 0 (23 * T1 230 0 m + w) = T 205 0 (23 * T 230 0 m + w)
      rw [f1 230 0 m rfl, f1 205 0 (23 * T 230 0 m + w) rfl])) (ru_q hX (hM.2 m hm.1 hm.2).1 hc)
    rw [r2, (kR m).1] at d2
    rcases d1 with ⟨h0, rfl, rfl⟩ | ⟨h0, d1⟩
    · have l1 : lwR_ (ruH_ T m) (rp9_ T m) k s p q = 1 := lwR_1 (by
        rw [rp_35]
        rcases g.2 with z | z | z
        · have := z.2.2.1; omega
        · have := z.2.1; omega
        · exact absurd h0 z.2.1)
      rw [l1] at d2
      rcases d2 with ⟨-, e, rfl⟩ | ⟨z, -⟩ | ⟨z, -⟩
      · exact ⟨by omega, hP, hL, hC⟩
      · exact absurd z (by decide)
      · exact absurd z (by decide)
    · have gc : PCC_ T m := by
        rcases g.2 with z | z | z
        · exact absurd z.2.1 h0
        · exact absurd z.1 h0
        · exact z
      obtain ⟨p1, p2, p3, ⟨n, pn, ps⟩, p5, p6, p7, p8⟩ := gc
      have lp := hI.2.2.2.1 m hm.1 hm.2 h0
      have l1 := lz_b lp.2.1
      have l2 := lz_b lp.2.2.1
      have l3 := lp.1
      have rb := rb_m hR.2.1 hX hc
      have r1 : rlm_ (fun w => T 401 (T 103 m 0) w) = ruH_ T m := by rw [p3]
      have el : lwR_ (ruH_ T m) (rp9_ T m) k s p q = lw9_ (ruH_ T m) (rs9_ T m) k s p q := lw_q ps.1 ps.2.1 (fun t a b => ps.2.2.2.2.2.2.2.2.2 t a b)
      rw [r1] at d1
      rw [el] at d2
      rcases d1 with ⟨a1, e1, rfl⟩ | ⟨a1, a2, e1, rfl⟩ | ⟨a1, a2, a3, a4, a5, e1, a6, a7, a8⟩
      · rcases d2 with ⟨-, e2, rfl⟩ | ⟨z, -⟩ | ⟨z, -⟩
        · exact ⟨by omega, hP, hL, hC⟩
        · exact absurd z a1
        · exact absurd z a1
      · rcases d2 with ⟨z, -⟩ | ⟨-, z, e2, rfl⟩ | ⟨-, z, -⟩
        · exact absurd a1 z
        · exact ⟨by omega, hP, hL, hC⟩
        · exfalso; omega
      · rcases d2 with ⟨z, -⟩ | ⟨-, z, -⟩ | ⟨-, b1, b2, b3, b4, e2, b5, b6⟩
        · exact absurd a1 z
        · exfalso; omega
        · have h3 := (lw_0 a1).1
          have es : rs9_ T2 m = ca9_ (ruH_ T m) (rs9_ T m) k s p q := (rs_n (kH m).1).trans a4
          have e0 : T2 102 m 0 = T 102 m 0 := (f2 102 m 0 rfl).trans (f1 102 m 0 rfl)
          have e401 : ∀ i w, T2 401 i w = T 401 i w := fun i w => (f2 401 i w rfl).trans (f1 401 i w rfl)
          have er : ruH_ T2 m = ruH_ T m := rlm_e (fun w _ _ => by
            show T2 401 (T2 102 m 0) w = T 401 (T 102 m 0) w
            rw [e0, e401])
          have q15 : T2 103 m 15 = T1 103 m 15 := f2 103 m 15 rfl
          have q17 : T2 103 m 17 = T1 103 m 17 := f2 103 m 17 rfl
          have hpc : PCC_ T2 m := by
            refine ⟨(f2 102 m 6 rfl).trans ((f1 102 m 6 rfl).trans p1), ?_, ?_, ⟨n + 3, by omega, ?_⟩, ?_, fun t t0 t1 => ?_, ?_, ?_⟩
            · rw [f2 102 m 10 rfl, f1 102 m 10 rfl]; exact p2
            · rw [f2 103 m 0 rfl, f1 103 m 0 rfl, e0]; exact p3
            · rw [er, b3, es]
              exact si_ca ps rb a1 (fn_t p5 h3) (by omega)
            · rw [es]
              exact fn_ca rb p5 a1
            · rw [e0, e401, f2 449 m t rfl, f1 449 m t rfl]
              exact p6 t t0 t1
            · rw [b4, (kR m).2.1, ← p7, ← a5, f2 103 m 14 rfl, f2 103 m 15 rfl]
              exact hrw_e (fun j _ _ => f2 190 _ j rfl)
            · rw [q17, a7, p8, b5, (kR m).2.2.2]
          have lq := (i2.2.2.2.1 m hm.1 (by omega) hpc.2.1).1
          have ln := pcc_n hpc lq.1 (rx_n j2.2.2.2.2.2.2.2.2.1 hm.1 (by omega))
          have hL1 : LDR_ T1 := ldr_o hL hI.2.2.2.1 hm h0 a8 c4 (f1 102 m 10 rfl) (f1 104 0 4 rfl) (f1 109 0 15 rfl) lh.2 (Or.inr (f1 103 m 16 rfl))
          refine ⟨by omega, plr_s (m := m) hP (by omega) (by omega) (fun _ _ => ⟨shm_c g.1 (fun t => (f2 449 m t rfl).trans (f1 449 m t rfl)) (fun t => (f2 448 m t rfl).trans (f1 448 m t rfl)) (fun t _ _ => (f2 239 0 _ rfl).trans (f1 239 0 _ rfl)) (fun x _ _ => (f2 240 0 _ rfl).trans (f1 240 0 _ rfl)), Or.inr (Or.inr hpc)⟩) (fun j j0 j1 nj => ⟨khm_t (khm_o hL hI.2.2.2.1 hm h0 a8 j0 j1 nj (fun i w => f1 401 i w rfl)) (kH j), kqm_t (kR j) (kqm_o b6 nj j0 (by omega))⟩) (fun j j0 j1 => ?_), ldr_k hL1 ⟨f2 104 0 4 rfl, f2 109 0 15 rfl, f2 191 0 0 rfl, v4⟩ (fun i => ⟨f2 102 i 10 rfl, f2 103 i 14 rfl, f2 103 i 16 rfl⟩), ?_⟩
          · have y := rpe_ (b6.1 j (by omega))
            have y1 : T1 236 0 j = T 236 0 j := f1 236 0 j rfl
            have y2 : T1 237 0 j = T 237 0 j := f1 237 0 j rfl
            omega
          · show T2 106 0 5 = T2 111 0 47
            omega
/-- each row of a run is kept or put aside -/
theorem rn_len {r : Int → Int} : ∀ (l : List Rw_) (x : Rz_), ((l.foldl (stH_ r) x).2.1.length : Int) + (l.foldl (stH_ r) x).2.2 = (x.2.1.length : Int) + x.2.2 + (l.length : Int)
  | [], x => by
    show (x.2.1.length : Int) + x.2.2 = (x.2.1.length : Int) + x.2.2 + ((0 : Nat) : Int)
    omega
  | (k, s, q, o) :: l, x => by
    have h := rn_len (r := r) l (stH_ r x (k, s, q, o))
    show ((l.foldl (stH_ r) (stH_ r x (k, s, q, o))).2.1.length : Int) + (l.foldl (stH_ r) (stH_ r x (k, s, q, o))).2.2 = (x.2.1.length : Int) + x.2.2 + ((l.length + 1 : Nat) : Int)
    have e : ((stH_ r x (k, s, q, o)).2.1.length : Int) + (stH_ r x (k, s, q, o)).2.2 = (x.2.1.length : Int) + x.2.2 + 1 := by
      by_cases z : lw9_ r x.1 k s q o = 0
      · rw [stH_t z]
        show ((x.2.1 ++ [(k, s, q, o)]).length : Int) + x.2.2 = (x.2.1.length : Int) + x.2.2 + 1
        rw [List.length_append]
        show ((x.2.1.length + 1 : Nat) : Int) + x.2.2 = _
        omega
      · rw [stH_f z]
        show (x.2.1.length : Int) + (x.2.2 + 1) = _
        omega
    omega
theorem rn_lh {r : Int → Int} {a : Sg_} {l : List Rw_} : ((rnH_ r a l).2.1.length : Int) + (rnH_ r a l).2.2 = (l.length : Int) := by
  have h := rn_len (r := r) l (a, [], 0)
  have e : ((a, ([] : List Rw_), (0 : Int)) : Rz_).2.1.length = 0 := rfl
  have e2 : ((a, ([] : List Rw_), (0 : Int)) : Rz_).2.2 = 0 := rfl
  rw [e, e2] at h
  unfold rnH_
  omega
/-- a play run anew -/
theorem pl_run {T T1 T2 : Zt} {N m x1 x2 : Int} {l : List Rw_} (hpc : PCC_ T m) (rb : RB9_ (ruH_ T m)) (hl : l.length ≤ 3000) (h17 : 0 ≤ T 103 m 17) (kR : KRM_ T T1 m) (kH : KHM_ T1 T2 m) (e16 : T1 102 m 6 = T 102 m 6 ∧ T1 102 m 10 = T 102 m 10 ∧ T1 102 m 0 = T 102 m 0 ∧ T1 103 m 0 = T 103 m 0) (e401 : ∀ i w, T1 401 i w = T 401 i w) (e449 : ∀ t, T1 449 m t = T 449 m t) (f190 : ∀ i j, T2 190 i j = T1 190 i j) (h15 : 0 ≤ T2 103 m 15) (a : RNH_ (ruH_ T m) m x1 T T1 l) (b : RNR_ (ruH_ T m) m x2 T1 T2 l) : x1 = x2 ∧ PCC_ T2 m := by
  obtain ⟨p1, p2, p3, ⟨n, pn, ps⟩, p5, p6, p7, p8⟩ := hpc
  obtain ⟨a1, a2, a3, a4⟩ := a
  obtain ⟨bb, b0, b1, b2, b3, b4⟩ := b
  obtain ⟨k1, ⟨k2, k3, k4⟩, ⟨k5, k6, k7, k8⟩, k9, k0⟩ := kH
  obtain ⟨e1, e2, e3, e4⟩ := e16
  rw [kR.1] at b0
  have ws := ps.2.1
  have eq := ps.1
  have g9 : ruH_ T m 9 = T 401 (T 102 m 0) 9 := rlm_v (f := fun w => T 401 (T 102 m 0) w) (by decide) (by decide)
  have r49 : ∀ t, rs9_ T m 449 t = T 449 m t := fun t => rs_d rfl
  have sb := si_bg (m := m) (r := ruH_ T m) (a0 := rp9_ T m) (b := bb) (a := rs9_ T m) rb (fun t t0 t1 => by
      have y := ws.1 t t0 t1
      have z := p6 t t0 t1
      rw [g9]
      rw [r49] at y ⊢
      omega) ws.2.2.2.2 (fun t t0 t1 => (eq_j eq t0 t1).1) (fun t x t0 t1 x0 x1 => (eq.2.2.2.2 t x t0 t1 x0 x1).1) b0
  have rn := rn_q (m := m) (l := l) rb sb.1 sb.2 (by omega)
  have es : rs9_ T2 m = (rnH_ (ruH_ T m) (bb9_ (ruH_ T m) (rs9_ T m)) l).1 := (rs_n k1).trans a1
  have e5 : x1 = x2 := by rw [a3, b3, rn.2.2]
  have e0 : T2 102 m 0 = T 102 m 0 := by omega
  have e41 : ∀ w, T2 401 (T 102 m 0) w = T 401 (T 102 m 0) w := fun w => by
    rw [e3] at k9
    exact (k9 w).trans (e401 _ w)
  have er : ruH_ T2 m = ruH_ T m := rlm_e (fun w _ _ => by
    show T2 401 (T2 102 m 0) w = T 401 (T 102 m 0) w
    rw [e0, e41])
  have ll := congrArg List.length a2
  rw [hrw_l] at ll
  have lr := rn_lh (r := ruH_ T m) (a := bb9_ (ruH_ T m) (rs9_ T m)) (l := l)
  refine ⟨e5, by omega, by omega, by omega, ⟨3 * (l.length : Int), by omega, ?_⟩, ?_, fun t t0 t1 => ?_, ?_, ?_⟩
  · rw [er, b1, es]
    exact rn.1
  · rw [es]
    exact rn.2.1
  · rw [e0, e41, show T2 449 m t = T 449 m t from (k1 449 t rfl).trans (e449 t)]
    exact p6 t t0 t1
  · rw [b2, rn.2.2, ← a2, k6, k7]
    exact hrw_e (fun j _ _ => f190 _ j)
  · rw [k8, a4, b4, kR.2.2.2, p8, e5]
/-- kinds and sides, told by both -/
theorem ev_kk {r k s : Int} : ((k = 0 ∨ (0 ≤ s ∧ s ≤ 1)) ∧ ((r = 0 ∧ 0 ≤ k ∧ k ≤ 5) ∨ (r = 1 ∧ (k = 1 ∨ k = 5)) ∨ (r = 2 ∧ (k = 1 ∨ k = 6)) ∨ (¬ r = 0 ∧ ¬ r = 1 ∧ ¬ r = 2 ∧ 1 ≤ k ∧ k ≤ 4))) ↔ (((r = 0 ∧ 0 ≤ k ∧ k ≤ 5) ∨ (r = 1 ∧ (k = 1 ∨ k = 5)) ∨ (r = 2 ∧ (k = 1 ∨ k = 6)) ∨ (¬ r = 0 ∧ ¬ r = 1 ∧ ¬ r = 2 ∧ 1 ≤ k ∧ k ≤ 4)) ∧ ((r = 0 ∧ k = 0) ∨ (0 ≤ s ∧ s ≤ 1))) := by
  constructor
  · rintro ⟨a, b⟩
    refine ⟨b, ?_⟩
    rcases a with a | a
    · refine Or.inl ⟨?_, a⟩
      rcases b with b | b | b | b
      · exact b.1
      · omega
      · omega
      · omega
    · exact Or.inr a
  · rintro ⟨b, a⟩
    refine ⟨?_, b⟩
    rcases a with a | a
    · exact Or.inl a.2
    · exact Or.inr a
/-- a review -/
theorem pl_review {T T1 T2 : Zt} {N m i k s p q x1 x2 : Int} (hI : IC_ N T) (hR : IR_ T) (hP : PLR_ T) (hL : LDR_ T) (hC : RCR_ T) (hX : TXR_ T) (hM : MAR_ T) (i2 : IC_ (N + 1) T2) (j2 : IR_ T2) (f1 : fr_ [(103, [3, 4, 5, 15, 16, 17]), (466, []), (467, []), (468, []), (469, []), (472, []), (473, []), (470, []), (471, []), (190, []), (191, [0])] T T1) (d1 : (LP_ (N + 1) T1 ∧ lh_ T T1 ∧ T1 191 0 0 ≤ T 191 0 0 + 600) ∧ ((x1 = -2 ∧ ¬ ((0 ≤ m ∧ m < T 106 0 4) ∧ ¬ (T 102 m 10 = 0) ∧ 0 ≤ i ∧ i < T 103 m 15) ∧ T = T1) ∨ (((0 ≤ m ∧ m < T 106 0 4) ∧ ¬ (T 102 m 10 = 0) ∧ 0 ≤ i ∧ i < T 103 m 15) ∧ OMH_ T T1 m ∧ ((k = -1 ∧ RNH_ (rlm_ (fun w => T 401 (T 103 m 0) w)) m x1 T T1 ((hr9_ T (T 103 m 14) (T 103 m 15).toNat).eraseIdx i.toNat)) ∨ (k ≠ -1 ∧ ((¬ ((k = 0 ∨ (0 ≤ s ∧ s ≤ 1)) ∧ (((rlm_ (fun w => T 401 (T 103 m 0) w)) 0 = 0 ∧ 0 ≤ k ∧ k ≤ 5) ∨ ((rlm_ (fun w => T 401 (T 103 m 0) w)) 0 = 1 ∧ (k = 1 ∨ k = 5)) ∨ ((rlm_ (fun w => T 401 (T 103 m 0) w)) 0 = 2 ∧ (k = 1 ∨ k = 6)) ∨ (¬ (rlm_ (fun w => T 401 (T 103 m 0) w)) 0 = 0 ∧ ¬ (rlm_ (fun w => T 401 (T 103 m 0) w)) 0 = 1 ∧ ¬ (rlm_ (fun w => T 401 (T 103 m 0) w)) 0 = 2 ∧ 1 ≤ k ∧ k ≤ 4))) ∧ x1 = -12 ∧ T = T1) ∨ (((k = 0 ∨ (0 ≤ s ∧ s ≤ 1)) ∧ (((rlm_ (fun w => T 401 (T 103 m 0) w)) 0 = 0 ∧ 0 ≤ k ∧ k ≤ 5) ∨ ((rlm_ (fun w => T 401 (T 103 m 0) w)) 0 = 1 ∧ (k = 1 ∨ k = 5)) ∨ ((rlm_ (fun w => T 401 (T 103 m 0) w)) 0 = 2 ∧ (k = 1 ∨ k = 6)) ∨ (¬ (rlm_ (fun w => T 401 (T 103 m 0) w)) 0 = 0 ∧ ¬ (rlm_ (fun w => T 401 (T 103 m 0) w)) 0 = 1 ∧ ¬ (rlm_ (fun w => T 401 (T 103 m 0) w)) 0 = 2 ∧ 1 ≤ k ∧ k ≤ 4))) ∧ ¬ ((rlm_ (fun w => T 401 (T 103 m 0) w)) 0 ≠ 3 ∨ k ≠ 1 ∨ (1 ≤ q ∧ q ≤ 4)) ∧ x1 = -17 ∧ T = T1) ∨ (((k = 0 ∨ (0 ≤ s ∧ s ≤ 1)) ∧ (((rlm_ (fun w => T 401 (T 103 m 0) w)) 0 = 0 ∧ 0 ≤ k ∧ k ≤ 5) ∨ ((rlm_ (fun w => T 401 (T 103 m 0) w)) 0 = 1 ∧ (k = 1 ∨ k = 5)) ∨ ((rlm_ (fun w => T 401 (T 103 m 0) w)) 0 = 2 ∧ (k = 1 ∨ k = 6)) ∨ (¬ (rlm_ (fun w => T 401 (T 103 m 0) w)) 0 = 0 ∧ ¬ (rlm_ (fun w => T 401 (T 103 m 0) w)) 0 = 1 ∧ ¬ (rlm_ (fun w => T 401 (T 103 m 0) w)) 0 = 2 ∧ 1 ≤ k ∧ k ≤ 4))) ∧ ((rlm_ (fun w => T 401 (T 103 m 0) w)) 0 ≠ 3 ∨ k ≠ 1 ∨ (1 ≤ q ∧ q ≤ 4)) ∧ (hr9_ T (T 103 m 14) (T 103 m 15).toNat)[i.toNat]? = some (k, s, p, q) ∧ x1 = -20 ∧ T = T1) ∨ (((k = 0 ∨ (0 ≤ s ∧ s ≤ 1)) ∧ (((rlm_ (fun w => T 401 (T 103 m 0) w)) 0 = 0 ∧ 0 ≤ k ∧ k ≤ 5) ∨ ((rlm_ (fun w => T 401 (T 103 m 0) w)) 0 = 1 ∧ (k = 1 ∨ k = 5)) ∨ ((rlm_ (fun w => T 401 (T 103 m 0) w)) 0 = 2 ∧ (k = 1 ∨ k = 6)) ∨ (¬ (rlm_ (fun w => T 401 (T 103 m 0) w)) 0 = 0 ∧ ¬ (rlm_ (fun w => T 401 (T 103 m 0) w)) 0 = 1 ∧ ¬ (rlm_ (fun w => T 401 (T 103 m 0) w)) 0 = 2 ∧ 1 ≤ k ∧ k ≤ 4))) ∧ ((rlm_ (fun w => T 401 (T 103 m 0) w)) 0 ≠ 3 ∨ k ≠ 1 ∨ (1 ≤ q ∧ q ≤ 4)) ∧ ¬ ((hr9_ T (T 103 m 14) (T 103 m 15).toNat)[i.toNat]? = some (k, s, p, q)) ∧ RNH_ (rlm_ (fun w => T 401 (T 103 m 0) w)) m x1 T T1 ((hr9_ T (T 103 m 14) (T 103 m 15).toNat).set i.toNat (k, s, p, q))))))))) (f2 : fr_ [(252, []), (253, []), (255, []), (254, []), (256, []), (244, []), (241, []), (242, []), (243, []), (245, []), (246, []), (236, []), (237, []), (235, []), (248, []), (249, []), (250, []), (251, [])] T1 T2) (d2 : (FM_ T2 ∧ RX_ T2 [] ∧ ZS_ T2 ∧ GX_ T2 (-1) ∧ (∀ j, j ≠ m ∨ T1 111 0 29 ≤ j → T2 254 0 j = T1 254 0 j ∧ T2 256 0 j = T1 256 0 j) ∧ ((x2 = -2 ∧ ¬ ((0 ≤ m ∧ m < T1 111 0 29) ∧ 0 ≤ i ∧ i < T1 254 0 m) ∧ T1 = T2) ∨ (((0 ≤ m ∧ m < T1 111 0 29) ∧ 0 ≤ i ∧ i < T1 254 0 m) ∧ OMR_ T1 T2 m ∧ ((k = -1 ∧ RNR_ (rlm_ (fun w => T1 205 0 (23 * T1 230 0 m + w))) m x2 T1 T2 ((rw9_ T1 m).eraseIdx i.toNat)) ∨ (k ≠ -1 ∧ ((¬ ((((rlm_ (fun w => T1 205 0 (23 * T1 230 0 m + w))) 0 = 0 ∧ 0 ≤ k ∧ k ≤ 5) ∨ ((rlm_ (fun w => T1 205 0 (23 * T1 230 0 m + w))) 0 = 1 ∧ (k = 1 ∨ k = 5)) ∨ ((rlm_ (fun w => T1 205 0 (23 * T1 230 0 m + w))) 0 = 2 ∧ (k = 1 ∨ k = 6)) ∨ (¬ (rlm_ (fun w => T1 205 0 (23 * T1 230 0 m + w))) 0 = 0 ∧ ¬ (rlm_ (fun w => T1 205 0 (23 * T1 230 0 m + w))) 0 = 1 ∧ ¬ (rlm_ (fun w => T1 205 0 (23 * T1 230 0 m + w))) 0 = 2 ∧ 1 ≤ k ∧ k ≤ 4)) ∧ (((rlm_ (fun w => T1 205 0 (23 * T1 230 0 m + w))) 0 = 0 ∧ k = 0) ∨ (0 ≤ s ∧ s ≤ 1))) ∧ x2 = -12 ∧ T1 = T2) ∨ (((((rlm_ (fun w => T1 205 0 (23 * T1 230 0 m + w))) 0 = 0 ∧ 0 ≤ k ∧ k ≤ 5) ∨ ((rlm_ (fun w => T1 205 0 (23 * T1 230 0 m + w))) 0 = 1 ∧ (k = 1 ∨ k = 5)) ∨ ((rlm_ (fun w => T1 205 0 (23 * T1 230 0 m + w))) 0 = 2 ∧ (k = 1 ∨ k = 6)) ∨ (¬ (rlm_ (fun w => T1 205 0 (23 * T1 230 0 m + w))) 0 = 0 ∧ ¬ (rlm_ (fun w => T1 205 0 (23 * T1 230 0 m + w))) 0 = 1 ∧ ¬ (rlm_ (fun w => T1 205 0 (23 * T1 230 0 m + w))) 0 = 2 ∧ 1 ≤ k ∧ k ≤ 4)) ∧ (((rlm_ (fun w => T1 205 0 (23 * T1 230 0 m + w))) 0 = 0 ∧ k = 0) ∨ (0 ≤ s ∧ s ≤ 1))) ∧ ¬ ((rlm_ (fun w => T1 205 0 (23 * T1 230 0 m + w))) 0 ≠ 3 ∨ k ≠ 1 ∨ (1 ≤ q ∧ q ≤ 4)) ∧ x2 = -17 ∧ T1 = T2) ∨ (((((rlm_ (fun w => T1 205 0 (23 * T1 230 0 m + w))) 0 = 0 ∧ 0 ≤ k ∧ k ≤ 5) ∨ ((rlm_ (fun w => T1 205 0 (23 * T1 230 0 m + w))) 0 = 1 ∧ (k = 1 ∨ k = 5)) ∨ ((rlm_ (fun w => T1 205 0 (23 * T1 230 0 m + w))) 0 = 2 ∧ (k = 1 ∨ k = 6)) ∨ (¬ (rlm_ (fun w => T1 205 0 (23 * T1 230 0 m + w))) 0 = 0 ∧ ¬ (rlm_ (fun w => T1 205 0 (23 * T1 230 0 m + w))) 0 = 1 ∧ ¬ (rlm_ (fun w => T1 205 0 (23 * T1 230 0 m + w))) 0 = 2 ∧ 1 ≤ k ∧ k ≤ 4)) ∧ (((rlm_ (fun w => T1 205 0 (23 * T1 230 0 m + w))) 0 = 0 ∧ k = 0) ∨ (0 ≤ s ∧ s ≤ 1))) ∧ ((rlm_ (fun w => T1 205 0 (23 * T1 230 0 m + w))) 0 ≠ 3 ∨ k ≠ 1 ∨ (1 ≤ q ∧ q ≤ 4)) ∧ (rw9_ T1 m)[i.toNat]? = some (k, s, p, q) ∧ x2 = -20 ∧ T1 = T2) ∨ (((((rlm_ (fun w => T1 205 0 (23 * T1 230 0 m + w))) 0 = 0 ∧ 0 ≤ k ∧ k ≤ 5) ∨ ((rlm_ (fun w => T1 205 0 (23 * T1 230 0 m + w))) 0 = 1 ∧ (k = 1 ∨ k = 5)) ∨ ((rlm_ (fun w => T1 205 0 (23 * T1 230 0 m + w))) 0 = 2 ∧ (k = 1 ∨ k = 6)) ∨ (¬ (rlm_ (fun w => T1 205 0 (23 * T1 230 0 m + w))) 0 = 0 ∧ ¬ (rlm_ (fun w => T1 205 0 (23 * T1 230 0 m + w))) 0 = 1 ∧ ¬ (rlm_ (fun w => T1 205 0 (23 * T1 230 0 m + w))) 0 = 2 ∧ 1 ≤ k ∧ k ≤ 4)) ∧ (((rlm_ (fun w => T1 205 0 (23 * T1 230 0 m + w))) 0 = 0 ∧ k = 0) ∨ (0 ≤ s ∧ s ≤ 1))) ∧ ((rlm_ (fun w => T1 205 0 (23 * T1 230 0 m + w))) 0 ≠ 3 ∨ k ≠ 1 ∨ (1 ≤ q ∧ q ≤ 4)) ∧ ¬ ((rw9_ T1 m)[i.toNat]? = some (k, s, p, q)) ∧ RNR_ (rlm_ (fun w => T1 205 0 (23 * T1 230 0 m + w))) m x2 T1 T2 ((rw9_ T1 m).set i.toNat (k, s, p, q)))))))))) : x1 = x2 ∧ PLR_ T2 ∧ LDR_ T2 ∧ RCR_ T2 := by
  have c4 : T1 106 0 4 = T 106 0 4 := f1 106 0 4 rfl
  have c29 : T1 111 0 29 = T 111 0 29 := f1 111 0 29 rfl
  have v4 : T2 106 0 4 = T1 106 0 4 := f2 106 0 4 rfl
  have v29 : T2 111 0 29 = T1 111 0 29 := f2 111 0 29 rfl
  have mm := hM.1
  have kR : ∀ j, KRM_ T T1 j := fun j => kqm_s (ks_f f1 (by decide +kernel))
  have kH : ∀ j, KHM_ T1 T2 j := fun j => khm_s (ks_f f2 (by decide +kernel))
  have hC2 : RCR_ T2 := by
    show T2 106 0 5 = T2 111 0 47
    rw [f2 106 0 5 rfl, f1 106 0 5 rfl, f2 111 0 47 rfl, f1 111 0 47 rfl]
    exact hC
  obtain ⟨⟨-, lh, -⟩, d1⟩ := d1
  obtain ⟨-, -, -, -, -, d2⟩ := d2
  have n54 : ∀ j, 0 ≤ j → j < T 106 0 4 → (T 102 j 10 = 0 → T 254 0 j = 0) ∧ (T 102 j 10 ≠ 0 → T 103 j 15 = T 254 0 j ∧ PCC_ T j) := fun j j0 j1 => by
    rcases (hP.1 j j0 j1).2 with z | z | z
    · exact ⟨fun _ => z.2.2.2.2.2.1, fun y => absurd z.2.1 y⟩
    · exact ⟨fun _ => z.2.2.2.1, fun y => absurd z.1 y⟩
    · exact ⟨fun y => absurd y z.2.1, fun y => ⟨pcc_n z (hI.2.2.2.1 j j0 j1 y).1.1 (rx_n hR.2.2.2.2.2.2.2.2.1 j0 (by omega)), z⟩⟩
  have q54 : T1 254 0 m = T 254 0 m := (kR m).2.2.1
  rcases d1 with ⟨rfl, hn, rfl⟩ | ⟨⟨hm, h0, hi0, hi1⟩, oh, d1⟩
  · rcases d2 with ⟨rfl, -, rfl⟩ | ⟨⟨hm2, hj0, hj1⟩, -⟩
    · exact ⟨rfl, hP, hL, hC⟩
    · exfalso
      have y := n54 m hm2.1 (by omega)
      by_cases z : T 102 m 10 = 0
      · have := y.1 z; omega
      · have := (y.2 z).1; exact hn ⟨by omega, z, hj0, by omega⟩
  · have y := (n54 m hm.1 hm.2).2 h0
    have hpc := y.2
    have hm2 : 0 ≤ m ∧ m < T1 111 0 29 := by clear d1 d2; omega
    obtain ⟨-, orr, d2⟩ := d2.resolve_left (fun z => z.2.1 ⟨hm2, hi0, by have := y.1; clear d1 d2 z; omega⟩)
    have hc : 0 ≤ T 102 m 0 ∧ T 102 m 0 < T 106 0 2 := (hI.1.2.1 m hm.1 hm.2).2
    have rb := rb_m hR.2.1 hX hc
    have r2 : rlm_ (fun w => T1 205 0 (23 * T1 230 0 m + w)) = ruH_ T m := Eq.trans (rlm_e (fun w _ _ => by
      show T1 205 0 (23 * T1 230 0 m + w) = T 205 0 (23 * T 230 0 m + w)
      rw [f1 230 0 m rfl, f1 205 0 (23 * T 230 0 m + w) rfl])) (ru_q hX (hM.2 m hm.1 hm.2).1 hc)
    have r1 : rlm_ (fun w => T 401 (T 103 m 0) w) = ruH_ T m := by rw [hpc.2.2.1]
    rw [r1, hpc.2.2.2.2.2.2.1] at d1
    rw [r2, (kR m).2.1] at d2
    have lp := hI.2.2.2.1 m hm.1 hm.2 h0
    have l1 := lz_b lp.2.1
    have l3 := lp.1
    have lw : (rw9_ T m).length ≤ 2000 := by
      clear d1 d2
      rw [rw_n]
      omega
    have go : ∀ l : List Rw_, l.length ≤ 3000 → RNH_ (ruH_ T m) m x1 T T1 l → RNR_ (ruH_ T m) m x2 T1 T2 l → x1 = x2 ∧ PLR_ T2 ∧ LDR_ T2 ∧ RCR_ T2 := fun l hl a b => by
      clear d1 d2
      have e10 : T2 102 m 10 ≠ 0 := by
        rw [f2 102 m 10 rfl, f1 102 m 10 rfl]
        exact h0
      have lq := (i2.2.2.2.1 m hm.1 (by omega) e10).1
      have pr := pl_run (N := N) hpc rb hl l3.2.1 (kR m) (kH m) ⟨f1 102 m 6 rfl, f1 102 m 10 rfl, f1 102 m 0 rfl, f1 103 m 0 rfl⟩ (fun i w => f1 401 i w rfl) (fun t => f1 449 m t rfl) (fun i j => f2 190 i j rfl) lq.1 a b
      have hL1 : LDR_ T1 := ldr_o hL hI.2.2.2.1 hm h0 oh c4 (f1 102 m 10 rfl) (f1 104 0 4 rfl) (f1 109 0 15 rfl) lh.2 (Or.inl (f1 103 m 14 rfl))
      refine ⟨pr.1, plr_s (m := m) hP (by omega) (by omega) (fun _ _ => ⟨shm_c (hP.1 m hm.1 hm.2).1 (fun t => (f2 449 m t rfl).trans (f1 449 m t rfl)) (fun t => (f2 448 m t rfl).trans (f1 448 m t rfl)) (fun t _ _ => (f2 239 0 _ rfl).trans (f1 239 0 _ rfl)) (fun x _ _ => (f2 240 0 _ rfl).trans (f1 240 0 _ rfl)), Or.inr (Or.inr pr.2)⟩) (fun j j0 j1 nj => ⟨khm_t (khm_o hL hI.2.2.2.1 hm h0 oh j0 j1 nj (fun i w => f1 401 i w rfl)) (kH j), kqm_t (kR j) (kqm_o orr nj j0 (by omega))⟩) (fun j j0 j1 => ?_), ldr_k hL1 ⟨f2 104 0 4 rfl, f2 109 0 15 rfl, f2 191 0 0 rfl, v4⟩ (fun i => ⟨f2 102 i 10 rfl, f2 103 i 14 rfl, f2 103 i 16 rfl⟩), hC2⟩
      have w := rpe_ (orr.1 j (by omega))
      have y1 : T1 236 0 j = T 236 0 j := f1 236 0 j rfl
      have y2 : T1 237 0 j = T 237 0 j := f1 237 0 j rfl
      omega
    rcases d1 with ⟨a0, a1⟩ | ⟨a0, d1⟩
    · rcases d2 with ⟨-, b1⟩ | ⟨b0, -⟩
      · exact go _ (by have := List.length_eraseIdx_le (rw9_ T m) i.toNat; clear d2; omega) a1 b1
      · exact absurd a0 b0
    · obtain ⟨-, d2⟩ := d2.resolve_left (fun z => a0 z.1)
      rcases d1 with ⟨a1, e1, rfl⟩ | ⟨a1, a2, e1, rfl⟩ | ⟨a1, a2, a3, e1, rfl⟩ | ⟨a1, a2, a3, a4⟩
      · rcases d2 with ⟨-, e2, rfl⟩ | ⟨z, -⟩ | ⟨z, -⟩ | ⟨z, -⟩
        · exact ⟨e1.trans e2.symm, hP, hL, hC⟩
        · exact absurd (ev_kk.mpr z) a1
        · exact absurd (ev_kk.mpr z) a1
        · exact absurd (ev_kk.mpr z) a1
      · rcases d2 with ⟨z, -⟩ | ⟨-, -, e2, rfl⟩ | ⟨-, z, -⟩ | ⟨-, z, -⟩
        · exact absurd (ev_kk.mp a1) z
        · exact ⟨e1.trans e2.symm, hP, hL, hC⟩
        · exact absurd z a2
        · exact absurd z a2
      · rcases d2 with ⟨z, -⟩ | ⟨-, z, -⟩ | ⟨-, -, -, e2, rfl⟩ | ⟨-, -, z, -⟩
        · exact absurd (ev_kk.mp a1) z
        · exact absurd a2 z
        · exact ⟨e1.trans e2.symm, hP, hL, hC⟩
        · exact absurd a3 z
      · rcases d2 with ⟨z, -⟩ | ⟨-, z, -⟩ | ⟨-, -, z, -⟩ | ⟨-, -, -, b4⟩
        · exact absurd (ev_kk.mp a1) z
        · exact absurd a2 z
        · exact absurd z a3
        · exact go _ (by rw [List.length_set]; exact Nat.le_trans lw (by decide)) a4 b4
theorem rw_0 {T : Zt} {m : Int} (h : T 254 0 m = 0) : rw9_ T m = [] := List.eq_nil_of_length_eq_zero (by rw [rw_n, h]; rfl)
/-- whether a match is told only -/
theorem pm_0 {T : Zt} {m : Int} (h : PM_ T m) : (T 102 m 6 = -1 ∧ T 102 m 10 = 0) ↔ T 235 0 m = 0 := by
  rcases h with z | z | z
  · exact ⟨fun _ => z.2.2.1, fun _ => ⟨z.1, z.2.1⟩⟩
  · have y := z.2.2.1
    have w := z.2.1
    constructor
    · intro u; omega
    · intro u; omega
  · have y := z.2.2.2.1
    obtain ⟨n, -, ps⟩ := y
    have e := ps.1.2.2.1.2.2
    rw [rp_35] at e
    have u := z.2.1
    constructor
    · intro v; omega
    · intro v; omega
theorem pm_3 {T : Zt} {m : Int} (h : PM_ T m) : T 102 m 6 = -1 ↔ T 235 0 m ≠ 3 := by
  rcases h with z | z | z
  · have y := z.2.2.1
    have w := z.1
    constructor
    · intro u; omega
    · intro u; omega
  · have y := z.2.2.1
    have w := z.2.1
    constructor
    · intro u; omega
    · intro u; omega
  · obtain ⟨n, -, ps⟩ := z.2.2.2.1
    have e := ps.1.2.2.1.2.2
    rw [rp_35] at e
    have u := z.1
    constructor
    · intro v; omega
    · intro v; omega
/-- a start -/
theorem pl_start {T T1 T2 : Zt} {N m x1 x2 : Int} (hI : IC_ N T) (hR : IR_ T) (hP : PLR_ T) (hL : LDR_ T) (hX : TXR_ T) (hM : MAR_ T) (hD : DAR_ T) (hN : CNR_ T) (f1 : fr_ [(153, []), (103, []), (102, [10]), (466, []), (467, []), (468, []), (469, []), (470, []), (471, []), (472, []), (473, []), (190, []), (191, [0])] T T1) (d1 : (LP_ N T1 ∧ lh_ T T1 ∧ T1 191 0 0 ≤ T 191 0 0 + 600 ∧ NA_ T1 ∧ ∀ k i j, i ≠ m → k ≠ 190 → k ≠ 191 → T1 k i j = T k i j) ∧ ((x1 = -2 ∧ ¬ (0 ≤ m ∧ m < T 106 0 4) ∧ T = T1) ∨ ((0 ≤ m ∧ m < T 106 0 4) ∧ ((x1 = -4 ∧ ¬ ((T 102 m 6 = -1 ∧ T 102 m 10 = 0) ∧ T 102 m 5 = T 108 0 13 ∧ T 401 (T 102 m 0) 9 ≤ T 449 m 0 ∧ T 401 (T 102 m 0) 9 ≤ T 449 m 1) ∧ T = T1) ∨ (x1 = 1 ∧ ((T 102 m 6 = -1 ∧ T 102 m 10 = 0) ∧ T 102 m 5 = T 108 0 13 ∧ T 401 (T 102 m 0) 9 ≤ T 449 m 0 ∧ T 401 (T 102 m 0) 9 ≤ T 449 m 1) ∧ T1 102 m 10 ≠ 0 ∧ T1 103 m 0 = T 102 m 0 ∧ (∃ z : Sg_, (∀ (k : Nat) (j : Int), k = 448 ∨ k = 449 → z k j = rs9_ T m k j) ∧ rs9_ T1 m = bb9_ (rlm_ (fun w => T 401 (T 102 m 0) w)) z) ∧ T1 103 m 14 = T 191 0 0 ∧ T1 103 m 16 = T 191 0 0 + 1 ∧ T1 103 m 15 = 0 ∧ T1 103 m 17 = 0 ∧ (∀ x1 j, x1 < T 191 0 0 → T1 190 x1 j = T 190 x1 j) ∧ ∀ k i j, i ≠ m → k ≠ 190 → k ≠ 191 → T1 k i j = T k i j))))) (f2 : fr_ [(244, []), (241, []), (242, []), (243, []), (245, []), (246, []), (236, []), (237, []), (235, [])] T1 T2) (d2 : ((FM_ T2 ∧ ZS_ T2 ∧ GX_ T2 (-1)) ∧ ((x2 = -2 ∧ ¬ (0 ≤ m ∧ m < T1 111 0 29) ∧ T1 = T2) ∨ ((0 ≤ m ∧ m < T1 111 0 29) ∧ ((x2 = -4 ∧ ¬ (T1 235 0 m = 0 ∧ T1 234 0 m = T1 111 0 3 ∧ T1 205 0 (23 * T1 230 0 m + 9) ≤ T1 239 0 (2 * m) ∧ T1 205 0 (23 * T1 230 0 m + 9) ≤ T1 239 0 (2 * m + 1)) ∧ T1 = T2) ∨ (x2 = 1 ∧ (T1 235 0 m = 0 ∧ T1 234 0 m = T1 111 0 3 ∧ T1 205 0 (23 * T1 230 0 m + 9) ≤ T1 239 0 (2 * m) ∧ T1 205 0 (23 * T1 230 0 m + 9) ≤ T1 239 0 (2 * m + 1)) ∧ BGR_ m (rlm_ (fun w => T1 205 0 (23 * T1 230 0 m + w))) (rp9_ T1 m) (rp9_ T2 m) ∧ ro9_ T1 T2 m)))))) : x1 = x2 ∧ PLR_ T2 ∧ LDR_ T2 := by
  have c4 : T1 106 0 4 = T 106 0 4 := f1 106 0 4 rfl
  have c29 : T1 111 0 29 = T 111 0 29 := f1 111 0 29 rfl
  have v4 : T2 106 0 4 = T1 106 0 4 := f2 106 0 4 rfl
  have v29 : T2 111 0 29 = T1 111 0 29 := f2 111 0 29 rfl
  have mm := hM.1
  have kR : ∀ j, KRM_ T T1 j := fun j => kqm_s (ks_f f1 (by decide +kernel))
  have kH : ∀ j, KHM_ T1 T2 j := fun j => khm_s (ks_f f2 (by decide +kernel))
  obtain ⟨⟨-, lh, -, -, -⟩, d1⟩ := d1
  obtain ⟨-, d2⟩ := d2
  rcases d1 with ⟨rfl, hn, rfl⟩ | ⟨hm, d1⟩
  · rcases d2 with ⟨rfl, -, rfl⟩ | ⟨hm2, -⟩
    · exact ⟨rfl, hP, hL⟩
    · exfalso; omega
  · have g := hP.1 m hm.1 hm.2
    obtain ⟨-, d2⟩ := d2.resolve_left (fun z => z.2.1 (by omega))
    have hc : 0 ≤ T 102 m 0 ∧ T 102 m 0 < T 106 0 2 := (hI.1.2.1 m hm.1 hm.2).2
    have e230 : T1 230 0 m = T 102 m 0 := (f1 230 0 m rfl).trans (hM.2 m hm.1 hm.2).1.symm
    have r2 : rlm_ (fun w => T1 205 0 (23 * T1 230 0 m + w)) = ruH_ T m := Eq.trans (rlm_e (fun w _ _ => by
      show T1 205 0 (23 * T1 230 0 m + w) = T 205 0 (23 * T 230 0 m + w)
      rw [f1 230 0 m rfl, f1 205 0 (23 * T 230 0 m + w) rfl])) (ru_q hX (hM.2 m hm.1 hm.2).1 hc)
    have e9 : T1 205 0 (23 * T1 230 0 m + 9) = T 401 (T 102 m 0) 9 := by
      rw [e230, f1 205 0 (23 * T 102 m 0 + 9) rfl]
      exact ((hX.2.2.2.2 _ hc.1 hc.2).1 9 (by decide) (by decide)).symm
    have s0 := g.1.1 0 (by decide) (by decide)
    have s1 := g.1.1 1 (by decide) (by decide)
    rw [Int.add_zero] at s0
    have t0 : T1 239 0 (2 * m) = T 239 0 (2 * m) := f1 239 0 _ rfl
    have t1 : T1 239 0 (2 * m + 1) = T 239 0 (2 * m + 1) := f1 239 0 _ rfl
    have t2 : T1 235 0 m = T 235 0 m := f1 235 0 m rfl
    have t3 : T1 234 0 m = T 234 0 m := f1 234 0 m rfl
    have t4 : T1 111 0 3 = T 111 0 3 := f1 111 0 3 rfl
    have t5 := hD m hm.1 hm.2
    have t6 := hN.2.2.2
    have t7 := pm_0 g.2
    rw [r2, (kR m).1, e9] at d2
    rcases d1 with ⟨rfl, a1, rfl⟩ | ⟨rfl, a1, a2, a3, ⟨z, z1, z2⟩, a4, a5, a6, a7, a8, a9⟩
    · rcases d2 with ⟨rfl, -, rfl⟩ | ⟨-, y, -⟩
      · exact ⟨rfl, hP, hL⟩
      · exfalso; omega
    · rcases d2 with ⟨-, y, -⟩ | ⟨rfl, -, b1, b2⟩
      · exfalso; omega
      · have pa : PAA_ T m := by
          rcases g.2 with y | y | y
          · exact y
          · exfalso; have := y.2.1; omega
          · exact absurd a1.1.2 y.2.1
        have rb := rb_m hR.2.1 hX hc
        have g9 : ruH_ T m 9 = T 401 (T 102 m 0) 9 := rlm_v (f := fun w => T 401 (T 102 m 0) w) (by decide) (by decide)
        have z49 : ∀ t, z 449 t = T 449 m t := fun t => (z1 449 t (Or.inr rfl)).trans (rs_d rfl)
        have z48 : ∀ t, z 448 t = T 448 m t := fun t => (z1 448 t (Or.inl rfl)).trans (rs_d rfl)
        have sb := si_bg (m := m) (r := ruH_ T m) (a0 := rp9_ T m) (b := rp9_ T2 m) (a := z) rb (fun t u0 u1 => by
            have y := g.1.1 t u0 u1
            rw [g9, z49]
            rcases (by omega : t = 0 ∨ t = 1) with c | c
            · rw [c] at y ⊢; omega
            · rw [c] at y ⊢; omega) (fun t x y u0 u1 x0 x1 y0 y1 e => by
            rw [z49] at x1 y1
            rw [z48, z48] at e
            exact g.1.2.2 t x y u0 u1 x0 x1 y0 y1 e) (fun t u0 u1 => by
            rw [rp_39 u0 u1, z49]
            exact (g.1.1 t u0 u1).1) (fun t x u0 u1 x0 x1 => by
            have y := g.1.1 t u0 u1
            rw [z49] at x1
            rw [rp_40 (by omega) (by omega), z48]
            exact g.1.2.1 t x u0 u1 x0 x1) b1
        have es : rs9_ T2 m = bb9_ (ruH_ T m) z := (rs_n (kH m).1).trans z2
        have e0 : T2 102 m 0 = T 102 m 0 := (f2 102 m 0 rfl).trans (f1 102 m 0 rfl)
        have e401 : ∀ i w, T2 401 i w = T 401 i w := fun i w => (f2 401 i w rfl).trans (f1 401 i w rfl)
        have er : ruH_ T2 m = ruH_ T m := rlm_e (fun w _ _ => by
          show T2 401 (T2 102 m 0) w = T 401 (T 102 m 0) w
          rw [e0, e401])
        have q15 : T2 103 m 15 = T1 103 m 15 := f2 103 m 15 rfl
        have q17 : T2 103 m 17 = T1 103 m 17 := f2 103 m 17 rfl
        have q54 : T2 254 0 m = 0 := (f2 254 0 m rfl).trans ((f1 254 0 m rfl).trans pa.2.2.2.2.2.1)
        have q56 : T2 256 0 m = 0 := (f2 256 0 m rfl).trans ((f1 256 0 m rfl).trans pa.2.2.2.2.2.2)
        have hpc : PCC_ T2 m := by
          refine ⟨(f2 102 m 6 rfl).trans ((f1 102 m 6 rfl).trans pa.1), ?_, ?_, ⟨0, by omega, ?_⟩, ?_, fun t u0 u1 => ?_, ?_, by omega⟩
          · rw [f2 102 m 10 rfl]; exact a2
          · rw [f2 103 m 0 rfl, a3, e0]
          · rw [er, es]
            exact sb.1
          · rw [es]
            exact sb.2
          · rw [e0, e401, f2 449 m t rfl, f1 449 m t rfl]
            rcases (by omega : t = 0 ∨ t = 1) with c | c
            · rw [c]; omega
            · rw [c]; omega
          · rw [rw_0 q54, q15, a6]
            rfl
        have oth : ∀ j, j ≠ m → T1 102 j 10 = T 102 j 10 ∧ T1 103 j 14 = T 103 j 14 ∧ T1 103 j 16 = T 103 j 16 := fun j n => ⟨a9 102 j 10 n (by decide) (by decide), a9 103 j 14 n (by decide) (by decide), a9 103 j 16 n (by decide) (by decide)⟩
        have lo : ∀ j, 0 ≤ j → j < T 106 0 4 → T 102 j 10 ≠ 0 → T 103 j 14 < T 191 0 0 ∧ T 103 j 16 < T 191 0 0 := fun j a b c => ⟨(hI.2.2.2.1 j a b c).1.2.2.2.2.2.1, (hI.2.2.2.1 j a b c).1.2.2.2.2.2.2.1⟩
        have e44 : T1 104 0 4 = T 104 0 4 := f1 104 0 4 rfl
        have e15 : T1 109 0 15 = T 109 0 15 := f1 109 0 15 rfl
        have hL1 : LDR_ T1 := by
          obtain ⟨⟨h1, h2⟩, h3⟩ := hL
          have l2 := lh.2
          refine ⟨⟨by omega, by omega⟩, fun i i0 i1 ip => ?_⟩
          rw [c4] at i1
          by_cases w : i = m
          · rw [w]
            refine ⟨by omega, fun j j0 j1 jp n => ?_⟩
            rw [c4] at j1
            have y := oth j n
            rw [y.1] at jp
            have v := lo j j0 j1 jp
            omega
          · have y := oth i w
            rw [y.1] at ip
            have v := lo i i0 i1 ip
            have u := h3 i i0 i1 ip
            refine ⟨by have := u.1; omega, fun j j0 j1 jp n => ?_⟩
            rw [c4] at j1
            by_cases o : j = m
            · rw [o]
              omega
            · have y2 := oth j o
              rw [y2.1] at jp
              have u2 := u.2 j j0 j1 jp n
              omega
        refine ⟨rfl, plr_s (m := m) hP (by omega) (by omega) (fun _ _ => ⟨shm_c g.1 (fun t => (f2 449 m t rfl).trans (f1 449 m t rfl)) (fun t => (f2 448 m t rfl).trans (f1 448 m t rfl)) (fun t _ _ => (f2 239 0 _ rfl).trans (f1 239 0 _ rfl)) (fun x _ _ => (f2 240 0 _ rfl).trans (f1 240 0 _ rfl)), Or.inr (Or.inr hpc)⟩) (fun j j0 j1 nj => ⟨khm_t ⟨fun k i d => a9 k j i nj (dk_n d).1 (dk_n d).2.1, ⟨f1 102 j 0 rfl, f1 102 j 6 rfl, (oth j nj).1⟩, ⟨a9 103 j 0 nj (by decide) (by decide), (oth j nj).2.1, a9 103 j 15 nj (by decide) (by decide), a9 103 j 17 nj (by decide) (by decide)⟩, fun w => f1 401 _ w rfl, fun q i _ _ => a8 _ i (lo j j0 j1 q).1⟩ (kH j), kqm_t (kR j) ⟨b2 j nj, rw_k (fun k x c => by rcases c with rfl | rfl | rfl | rfl <;> exact f2 _ 0 x rfl) (fun x => f2 252 0 x rfl) (f2 253 0 j rfl) (f2 254 0 j rfl), f2 254 0 j rfl, f2 256 0 j rfl⟩⟩) (fun j j0 j1 => ?_), ldr_k hL1 ⟨f2 104 0 4 rfl, f2 109 0 15 rfl, f2 191 0 0 rfl, v4⟩ (fun i => ⟨f2 102 i 10 rfl, f2 103 i 14 rfl, f2 103 i 16 rfl⟩)⟩
        have w := rpe_ (b2 j (by omega))
        have y1 : T1 236 0 j = T 236 0 j := f1 236 0 j rfl
        have y2 : T1 237 0 j = T 237 0 j := f1 237 0 j rfl
        omega
/-- a walkover -/
theorem pl_walk {T T1 T2 : Zt} {N m s x1 x2 : Int} (hI : IC_ N T) (hP : PLR_ T) (hL : LDR_ T) (hX : TXR_ T) (hM : MAR_ T) (hD : DAR_ T) (hN : CNR_ T) (f1 : fr_ [(102, [6])] T T1) (d1 : ((x1 = -2 ∧ ¬ (0 ≤ m ∧ m < T 106 0 4) ∧ T = T1) ∨ ((0 ≤ m ∧ m < T 106 0 4) ∧ ((x1 = -3 ∧ ¬ (0 ≤ s ∧ s ≤ 1) ∧ T = T1) ∨ ((0 ≤ s ∧ s ≤ 1) ∧ ((x1 = -4 ∧ ¬ ((T 102 m 6 = -1 ∧ T 102 m 10 = 0) ∧ T 102 m 5 ≤ T 108 0 13) ∧ T = T1) ∨ (x1 = 1 ∧ ((T 102 m 6 = -1 ∧ T 102 m 10 = 0) ∧ T 102 m 5 ≤ T 108 0 13) ∧ T1 = up_ T 102 m 6 s))))))) (f2 : fr_ [(235, []), (236, []), (237, [])] T1 T2) (d2 : ((FM_ T2 ∧ ZS_ T2 ∧ GX_ T2 (-1)) ∧ ((x2 = -2 ∧ ¬ (0 ≤ m ∧ m < T1 111 0 29) ∧ T1 = T2) ∨ ((0 ≤ m ∧ m < T1 111 0 29) ∧ ((x2 = -3 ∧ ¬ (0 ≤ s ∧ s ≤ 1) ∧ T1 = T2) ∨ ((0 ≤ s ∧ s ≤ 1) ∧ ((x2 = -4 ∧ ¬ (T1 235 0 m = 0 ∧ T1 234 0 m ≤ T1 111 0 3) ∧ T1 = T2) ∨ (x2 = 1 ∧ (T1 235 0 m = 0 ∧ T1 234 0 m ≤ T1 111 0 3) ∧ T2 235 0 m = 3 ∧ (s = 0 → T2 236 0 m = 0 ∧ T2 237 0 m = T1 205 0 (23 * T1 230 0 m + 12)) ∧ (s = 1 → T2 236 0 m = T1 205 0 (23 * T1 230 0 m + 12) ∧ T2 237 0 m = 0) ∧ ro9_ T1 T2 m)))))))) : x1 = x2 ∧ PLR_ T2 ∧ LDR_ T2 := by
  have c4 : T1 106 0 4 = T 106 0 4 := f1 106 0 4 rfl
  have c29 : T1 111 0 29 = T 111 0 29 := f1 111 0 29 rfl
  have v4 : T2 106 0 4 = T1 106 0 4 := f2 106 0 4 rfl
  have v29 : T2 111 0 29 = T1 111 0 29 := f2 111 0 29 rfl
  have mm := hM.1
  have kR : ∀ j, KRM_ T T1 j := fun j => kqm_s (ks_f f1 (by decide +kernel))
  have kH : ∀ j, KHM_ T1 T2 j := fun j => khm_s (ks_f f2 (by decide +kernel))
  have hL2 : LDR_ T2 := ldr_k hL ⟨(f2 104 0 4 rfl).trans (f1 104 0 4 rfl), (f2 109 0 15 rfl).trans (f1 109 0 15 rfl), (f2 191 0 0 rfl).trans (f1 191 0 0 rfl), v4.trans c4⟩ (fun i => ⟨(f2 102 i 10 rfl).trans (f1 102 i 10 rfl), (f2 103 i 14 rfl).trans (f1 103 i 14 rfl), (f2 103 i 16 rfl).trans (f1 103 i 16 rfl)⟩)
  obtain ⟨-, d2⟩ := d2
  rcases d1 with ⟨rfl, hn, rfl⟩ | ⟨hm, d1⟩
  · rcases d2 with ⟨rfl, -, rfl⟩ | ⟨hm2, -⟩
    · exact ⟨rfl, hP, hL⟩
    · exfalso; omega
  · have g := hP.1 m hm.1 hm.2
    obtain ⟨-, d2⟩ := d2.resolve_left (fun z => z.2.1 (by omega))
    rcases d1 with ⟨rfl, hn, rfl⟩ | ⟨hs, d1⟩
    · rcases d2 with ⟨rfl, -, rfl⟩ | ⟨y, -⟩
      · exact ⟨rfl, hP, hL⟩
      · exact absurd y hn
    · obtain ⟨-, d2⟩ := d2.resolve_left (fun z => z.2.1 hs)
      have hc : 0 ≤ T 102 m 0 ∧ T 102 m 0 < T 106 0 2 := (hI.1.2.1 m hm.1 hm.2).2
      have e230 : T1 230 0 m = T 102 m 0 := (f1 230 0 m rfl).trans (hM.2 m hm.1 hm.2).1.symm
      have e12 : T1 205 0 (23 * T1 230 0 m + 12) = T 401 (T 102 m 0) 12 := by
        rw [e230, f1 205 0 (23 * T 102 m 0 + 12) rfl]
        exact ((hX.2.2.2.2 _ hc.1 hc.2).1 12 (by decide) (by decide)).symm
      have t2 : T1 235 0 m = T 235 0 m := f1 235 0 m rfl
      have t3 : T1 234 0 m = T 234 0 m := f1 234 0 m rfl
      have t4 : T1 111 0 3 = T 111 0 3 := f1 111 0 3 rfl
      have t5 := hD m hm.1 hm.2
      have t6 := hN.2.2.2
      have t7 := pm_0 g.2
      rw [e12] at d2
      rcases d1 with ⟨rfl, a1, rfl⟩ | ⟨rfl, a1, a2⟩
      · rcases d2 with ⟨rfl, -, rfl⟩ | ⟨-, y, -⟩
        · exact ⟨rfl, hP, hL⟩
        · exfalso; omega
      · rcases d2 with ⟨-, y, -⟩ | ⟨rfl, -, b1, b2, b3, b4⟩
        · exfalso; omega
        · have pa : PAA_ T m := by
            rcases g.2 with y | y | y
            · exact y
            · exfalso; have := y.2.1; omega
            · exact absurd a1.1.2 y.2.1
          have e6 : T2 102 m 6 = s := (f2 102 m 6 rfl).trans (up_f a2)
          have q10 : T2 102 m 10 = 0 := (f2 102 m 10 rfl).trans ((f1 102 m 10 rfl).trans pa.2.1)
          have q54 : T2 254 0 m = 0 := (f2 254 0 m rfl).trans ((f1 254 0 m rfl).trans pa.2.2.2.2.2.1)
          have q56 : T2 256 0 m = 0 := (f2 256 0 m rfl).trans ((f1 256 0 m rfl).trans pa.2.2.2.2.2.2)
          have e0 : T2 102 m 0 = T 102 m 0 := (f2 102 m 0 rfl).trans (f1 102 m 0 rfl)
          have e401 : ∀ i w, T2 401 i w = T 401 i w := fun i w => (f2 401 i w rfl).trans (f1 401 i w rfl)
          have hpb : PBB_ T2 m := by
            refine ⟨q10, b1, ?_, q54, q56⟩
            rw [e0, e401, e6]
            rcases (by omega : s = 0 ∨ s = 1) with c | c
            · exact Or.inl ⟨c, b2 c⟩
            · exact Or.inr ⟨c, b3 c⟩
          refine ⟨rfl, plr_s (m := m) hP (by omega) (by omega) (fun _ _ => ⟨shm_c g.1 (fun t => (f2 449 m t rfl).trans (f1 449 m t rfl)) (fun t => (f2 448 m t rfl).trans (f1 448 m t rfl)) (fun t _ _ => (f2 239 0 _ rfl).trans (f1 239 0 _ rfl)) (fun x _ _ => (f2 240 0 _ rfl).trans (f1 240 0 _ rfl)), Or.inr (Or.inl hpb)⟩) (fun j j0 j1 nj => ⟨khm_t ⟨fun k i d => up_g a2 (fun z => nj z.2.1), ⟨f1 102 j 0 rfl, up_g a2 (fun z => nj z.2.1), f1 102 j 10 rfl⟩, ⟨f1 103 j 0 rfl, f1 103 j 14 rfl, f1 103 j 15 rfl, f1 103 j 17 rfl⟩, fun w => f1 401 _ w rfl, fun q i _ _ => f1 190 _ i rfl⟩ (kH j), kqm_t (kR j) ⟨b4 j nj, rw_k (fun k x c => by rcases c with rfl | rfl | rfl | rfl <;> exact f2 _ 0 x rfl) (fun x => f2 252 0 x rfl) (f2 253 0 j rfl) (f2 254 0 j rfl), f2 254 0 j rfl, f2 256 0 j rfl⟩⟩) (fun j j0 j1 => ?_), hL2⟩
          have w := rpe_ (b4 j (by omega))
          have y1 : T1 236 0 j = T 236 0 j := f1 236 0 j rfl
          have y2 : T1 237 0 j = T 237 0 j := f1 237 0 j rfl
          omega
-- bans and line-ups of both sides alike
theorem coc_k {T T' : Zt} {p d : Int} (e : ∀ (k : Nat) (j : Int), k = 217 ∨ k = 218 ∨ k = 219 ∨ k = 220 → T' k 0 j = T k 0 j) (e16 : T' 111 0 16 = T 111 0 16) : co9_c T' p d = co9_c T p d := by
  unfold co9_c
  rw [e16]
  exact cnn_k e _
theorem plN_n {T : Zt} {m q s : Int} : ∀ (n : Nat) (i : Int), 0 ≤ s → 0 ≤ i → plN_ T m q s n i = -1 → ∀ k, i ≤ k → k < i + (n : Int) → T 448 m (s * 10 + k) ≠ q
  | 0, i, _, _, _, k, a, b => by omega
  | n + 1, i, s0, i0, h, k, a, b => by
    by_cases z : T 448 m (s * 10 + i) = q
    · rw [plN_t z] at h
      omega
    · rw [plN_f z] at h
      by_cases y : k = i
      · rw [y]; exact z
      · exact plN_n n (i + 1) s0 (by omega) h k (by omega) (by omega)
/-- the place on one sheet -/
theorem pl_sl1 {T : Zt} {m q s : Int} (h : SHM_ T m) (s0 : 0 ≤ s) (s1 : s ≤ 1) : (plN_ T m q s (T 449 m s).toNat 0 = -1 ∧ slR_ (rp9_ T m) s q = -1) ∨ (s * 10 ≤ plN_ T m q s (T 449 m s).toNat 0 ∧ plN_ T m q s (T 449 m s).toNat 0 < s * 10 + T 449 m s ∧ slR_ (rp9_ T m) s q = plN_ T m q s (T 449 m s).toNat 0) := by
  have g := h.1 s s0 s1
  have e48 : ∀ x, s * 10 ≤ x → x < s * 10 + T 449 m s → rp9_ T m 448 x = T 448 m x := fun x x0 x1 => by
    rw [rp_40 (by omega) (by omega)]
    exact h.2.1 s x s0 s1 x0 x1
  unfold slR_
  rw [rp_39 s0 s1, g.1]
  rcases plN_b (T := T) (m := m) (q := q) (s := s) (T 449 m s).toNat 0 with y | y
  · refine Or.inl ⟨y, ?_⟩
    rcases sln_b (a := rp9_ T m) (s := s) (q := q) (T 449 m s).toNat with w | w
    · exact w
    · exfalso
      have n := plN_n (T 449 m s).toNat 0 s0 (by decide) y (sln_ (rp9_ T m) s q (T 449 m s).toNat - s * 10) (by omega) (by omega)
      rw [show s * 10 + (sln_ (rp9_ T m) s q (T 449 m s).toNat - s * 10) = sln_ (rp9_ T m) s q (T 449 m s).toNat by omega, ← e48 _ (by omega) (by omega)] at n
      exact n w.2.2
  · have y1 : plN_ T m q s (T 449 m s).toNat 0 < s * 10 + T 449 m s := by omega
    refine Or.inr ⟨by omega, y1, ?_⟩
    refine sl_u _ (by omega) (by omega) ((e48 _ (by omega) y1).trans y.2.2) (fun x x0 x1 e => ?_)
    rw [e48 x x0 (by omega)] at e
    exact h.2.2 s x _ s0 s1 x0 (by omega) (by omega) y1 (e.trans y.2.2.symm)
/-- the place on the sheets -/
theorem pl_sl {T : Zt} {m q : Int} (m0 : 0 ≤ m) (h : SHM_ T m) : (plc_ T m q = -1 ∧ slc_ T m q = -1) ∨ (∃ t, (0 ≤ t ∧ t ≤ 1) ∧ t * 10 ≤ plc_ T m q ∧ plc_ T m q < t * 10 + T 449 m t ∧ slc_ T m q = 20 * m + plc_ T m q) := by
  have g0 := h.1 0 (by decide) (by decide)
  have g1 := h.1 1 (by decide) (by decide)
  rcases pl_sl1 (q := q) h (s := 0) (by decide) (by decide) with ⟨a, b⟩ | ⟨a, b, c⟩
  · have e0 : ab9_ m (slR_ (rp9_ T m) 0 q) = -1 := ab_1 b
    rw [plc_1 a, slc_1 rfl e0 rfl]
    rcases pl_sl1 (q := q) h (s := 1) (by decide) (by decide) with ⟨u, v⟩ | ⟨u, v, w⟩
    · exact Or.inl ⟨u, ab_1 v⟩
    · refine Or.inr ⟨1, by decide, u, v, ?_⟩
      rw [ab_2 (by omega), w]
  · have e0 : ab9_ m (slR_ (rp9_ T m) 0 q) = 20 * m + plN_ T m q 0 (T 449 m 0).toNat 0 := by rw [ab_2 (by omega), c]
    rw [plc_0 (by omega), slc_0 rfl (by omega), e0]
    exact Or.inr ⟨0, by decide, a, b, rfl⟩
/-- whether a match is decided -/
theorem pm_d {T : Zt} {m : Int} (h : PM_ T m) : (T 102 m 6 ≠ -1 ∨ (T 102 m 10 ≠ 0 ∧ T 103 m 3 ≠ 0)) ↔ (T 235 0 m = 2 ∨ T 235 0 m = 3) := by
  rcases h with z | z | z
  · have a := z.1
    have b := z.2.1
    have c := z.2.2.1
    constructor
    · intro u; omega
    · intro u; omega
  · have a := z.2.2.1
    have c := z.2.1
    constructor
    · intro u; omega
    · intro u; omega
  · obtain ⟨n, -, ps⟩ := z.2.2.2.1
    have e := ps.1.2.2.1.2.2
    rw [rp_35, show rs9_ T m 103 3 = T 103 m 3 from rs_d rfl] at e
    have a := z.1
    have b := z.2.1
    constructor
    · intro u; omega
    · intro u; omega
theorem kd_q {T : Zt} {m q : Int} (m0 : 0 ≤ m) (h : SHM_ T m) (g : PM_ T m) (d : T 235 0 m = 2 ∨ T 235 0 m = 3) : kdH_ T q m = kdR_ T q m ∧ (kdH_ T q m = 2 → yvH_ T q m = yvR_ T q m) := by
  rcases g with z | z | z
  · have c := z.2.2.1
    exfalso; omega
  · have c := z.2.1
    rw [kdH_0 (Or.inl z.1), kdR_0 (fun y => by omega)]
    exact ⟨rfl, fun y => absurd y (by decide)⟩
  · obtain ⟨n, -, ps⟩ := z.2.2.2.1
    have e3 := ps.1.2.2.1.2.2
    rw [rp_35] at e3
    have e2 : T 235 0 m = 2 := by omega
    rcases pl_sl (q := q) m0 h with ⟨a, b⟩ | ⟨t, ht, a, b, c⟩
    · rw [kdH_0 (Or.inr a), kdR_0 (fun y => y.2 b)]
      exact ⟨rfl, fun y => absurd y (by decide)⟩
    · have g49 := h.1 t ht.1 ht.2
      have r49 : rs9_ T m 449 t = T 449 m t := rs_d rfl
      have eq := ps.1.2.2.2.2 t (plc_ T m q) ht.1 ht.2 a (by rw [r49]; exact b)
      have d0 : 0 ≤ plc_ T m q ∧ plc_ T m q ≤ 19 := by omega
      rw [show rs9_ T m 472 (plc_ T m q) = T 472 m (plc_ T m q) from rs_d rfl, show rs9_ T m 473 (plc_ T m q) = T 473 m (plc_ T m q) from rs_d rfl, rp_v (m := m) (K := 242) (x := 20 * m + plc_ T m q) (dm_473 d0) rfl rfl, rp_v (m := m) (K := 243) (x := 20 * m + plc_ T m q) (dm_474 d0) rfl rfl, ← c] at eq
      have n1 : ¬ (T 102 m 10 = 0 ∨ plc_ T m q = -1) := fun y => by
        rcases y with y | y
        · exact z.2.1 y
        · omega
      have n2 : T 235 0 m = 2 ∧ slc_ T m q ≠ -1 := ⟨e2, by omega⟩
      rcases eq.2.2 with ⟨y1, -, y3⟩ | ⟨y1, -, y3⟩
      · rw [kdH_1 n1 y1, kdR_1 n2 y3]
        exact ⟨rfl, fun y => absurd y (by decide)⟩
      · rw [kdH_2 n1 y1, kdR_2 n2 (by omega)]
        exact ⟨rfl, fun _ => eq.2.1.symm⟩
theorem sbn_e {red cards : Int} {kd yv kd' yv' : Int → Int} {m : Int} (h : kd' m = kd m) (g : kd m = 2 → yv' m = yv m) : sbn_ red cards kd' yv' m = sbn_ red cards kd yv m := by
  funext x
  by_cases z : kd m = 1
  · rw [sbn_1 z, sbn_1 (h.trans z)]
  · by_cases y : kd m = 2
    · rw [sbn_2 y, sbn_2 (h.trans y), g y]
    · rw [sbn_0 z y, sbn_0 (by rw [h]; exact z) (by rw [h]; exact y)]
/-- the bans are the same -/
theorem bn_q {T : Zt} {N q p : Int} (hT : ok_T T) (hI : IC_ N T) (hP : PLR_ T) (hX : TXR_ T) (hM : MAR_ T) (hE : ENR_ T) (hD : DAR_ T) (hp : 0 ≤ p ∧ p < T 106 0 4) : bnH_ T q p = bnR_ T q p := by
  have hc : 0 ≤ T 102 p 0 ∧ T 102 p 0 < T 106 0 2 := (hI.1.2.1 p hp.1 hp.2).2
  have ec := (hM.2 p hp.1 hp.2).1
  have en := hE.1 _ hc.1 hc.2
  have kc := hI.1.2.2.1 _ hc.1 hc.2
  have rl := (hX.2.2.2.2 _ hc.1 hc.2).1
  have b7 : 0 ≤ T 100 (T 102 p 0) 7 := (bd_f hT 100 7 tl_0_7 _).1
  have ed := hD p hp.1 hp.2
  unfold bnH_ bnR_
  rw [← ec, ← rl 13 (by decide) (by decide), ← rl 14 (by decide) (by decide), ← en.2.2.1, ← en.2.2.2.1, ← ed]
  have hin : ∀ m, T 100 (T 102 p 0) 7 ≤ m → m < T 100 (T 102 p 0) 7 + T 100 (T 102 p 0) 8 → 0 ≤ m ∧ m < T 106 0 4 := fun m a b => by omega
  have hr : ∀ m, T 100 (T 102 p 0) 7 ≤ m → m < T 100 (T 102 p 0) 7 + T 100 (T 102 p 0) 8 → (rlH_ T q m ↔ rlR_ T q m) := fun m a b => by
    have i := hin m a b
    have mm := hM.2 m i.1 i.2
    have dd := hD m i.1 i.2
    have pd := pm_d (hP.1 m i.1 i.2).2
    have h3 : 0 ≤ T 102 m 3 := (bd_f hT 102 3 tl_2_3 m).1
    have h4 : 0 ≤ T 102 m 4 := (bd_f hT 102 4 tl_2_4 m).1
    unfold rlH_ rlR_
    rw [← dd, pd, ← mm.2.2.1, ← mm.2.2.2]
    constructor
    · rintro ⟨u, v⟩
      exact ⟨u, by omega, by omega⟩
    · rintro ⟨u, v, w⟩
      exact ⟨u, by omega⟩
  refine congrArg Prod.fst (bf_c (fun m a b => ?_) hr (fun m a b r => ?_) _)
  · exact hD m (hin m a b).1 (hin m a b).2
  · have i := hin m a b
    have g := hP.1 m i.1 i.2
    have k := kd_q (q := q) i.1 g.1 g.2 r.1
    exact sbn_e k.1 (fun y => k.2 (k.1.trans y))
theorem els_q {T : Zt} {q p : Int} (hP : PLR_ T) (hM : MAR_ T) (hD : DAR_ T) (hp : 0 ≤ p ∧ p < T 106 0 4) : elsH_ T q p ↔ elsR_ T q p := by
  have ed := hD p hp.1 hp.2
  constructor
  · rintro ⟨k, k0, k1, k2, k3, k4, k5⟩
    have g := hP.1 k k0 k1
    refine ⟨k, k0, by have := hM.1; omega, k2, by have := hD k k0 k1; omega, (pm_3 g.2).mp k4, ?_⟩
    rcases pl_sl (q := q) k0 g.1 with y | ⟨t, y⟩
    · exact absurd y.1 k5
    · omega
  · rintro ⟨k, k0, k1, k2, k3, k4, k5⟩
    have k1' : k < T 106 0 4 := by have := hM.1; omega
    have g := hP.1 k k0 k1'
    refine ⟨k, k0, k1', k2, by have := hD k k0 k1'; omega, (pm_3 g.2).mpr k4, ?_⟩
    rcases pl_sl (q := q) k0 g.1 with y | ⟨t, y⟩
    · exact absurd y.2 k5
    · omega
theorem cz_e {A : Type} {P Q : Prop} {x y : A} (h : P ↔ Q) : cz_ P x y = cz_ Q x y := by rw [propext h]
/-- the reason is the same -/
theorem wy_q {T : Zt} {N q p d : Int} (hT : ok_T T) (hI : IC_ N T) (hP : PLR_ T) (hX : TXR_ T) (hM : MAR_ T) (hE : ENR_ T) (hD : DAR_ T) (hp : 0 ≤ p ∧ p < T 106 0 4) : wyH_ T q p d = wyR_ T q p d := by
  have ed := hD p hp.1 hp.2
  have mm := hM.2 p hp.1 hp.2
  have g := hP.1 p hp.1 hp.2
  have sl : plc_ T p q ≠ -1 ↔ slc_ T p q ≠ -1 := by
    rcases pl_sl (q := q) hp.1 g.1 with y | ⟨t, y⟩
    · omega
    · omega
  unfold wyH_ wyR_
  rw [ed, mm.2.2.1, mm.2.2.2, bn_q hT hI hP hX hM hE hD hp, cz_e (els_q hP hM hD hp), cz_e sl]
/-- what the reason of the reference hangs on -/
theorem wyR_k {T T' : Zt} {q p d : Int} (e : ∀ (k : Nat) (j : Int), 200 ≤ k → k ≤ 256 → T' k 0 j = T k 0 j) (e16 : T' 111 0 16 = T 111 0 16) (e29 : T' 111 0 29 = T 111 0 29) : wyR_ T' q p d = wyR_ T q p d := by
  have c : ∀ q d, co9_c T' q d = co9_c T q d := fun q d => coc_k (fun k j h => e k j (by omega) (by omega)) e16
  have rp : ∀ m, rp9_ T' m = rp9_ T m := fun m => rp_x (fun K j h => e K j (by omega) (by omega))
  have s : ∀ m q, slc_ T' m q = slc_ T m q := fun m q => by
    unfold slc_
    rw [rp]
  have e34 : ∀ m, T' 234 0 m = T 234 0 m := fun m => e 234 m (by decide) (by decide)
  have e35 : ∀ m, T' 235 0 m = T 235 0 m := fun m => e 235 m (by decide) (by decide)
  have e32 : ∀ m, T' 232 0 m = T 232 0 m := fun m => e 232 m (by decide) (by decide)
  have e33 : ∀ m, T' 233 0 m = T 233 0 m := fun m => e 233 m (by decide) (by decide)
  have kd : kdR_ T' q = kdR_ T q := by
    funext m
    unfold kdR_
    rw [s, e35, e 243 _ (by decide) (by decide)]
  have yv : yvR_ T' q = yvR_ T q := by
    funext m
    unfold yvR_
    rw [s, e 242 _ (by decide) (by decide)]
  have rl : rlR_ T' q = rlR_ T q := by
    funext m
    unfold rlR_
    rw [c, e34, e35, e32, e33]
  have dy : (fun m => T' 234 0 m) = fun m => T 234 0 m := funext e34
  have bn : bnR_ T' q p = bnR_ T q p := by
    unfold bnR_
    rw [kd, yv, rl, dy, e34, e 230 p (by decide) (by decide), e 205 _ (by decide) (by decide), e 205 _ (by decide) (by decide), e 210 _ (by decide) (by decide), e 211 _ (by decide) (by decide)]
  have el : elsR_ T' q p ↔ elsR_ T q p := by
    unfold elsR_
    rw [e29, e34 p]
    constructor
    · rintro ⟨k, k0, k1, k2, k3, k4, k5⟩
      rw [e34] at k3
      rw [e35] at k4
      rw [s] at k5
      exact ⟨k, k0, k1, k2, k3, k4, k5⟩
    · rintro ⟨k, k0, k1, k2, k3, k4, k5⟩
      rw [← e34] at k3
      rw [← e35] at k4
      rw [← s] at k5
      exact ⟨k, k0, k1, k2, k3, k4, k5⟩
  unfold wyR_
  rw [c, e34, e32, e33, bn, s, cz_e el]
theorem kn9_ (k : Nat) (j : Int) (h : k < 400) : fw_ [(448, []), (449, []), (533, [])] k j = false ∧ fw_ [(533, [])] k j = false := by
  have a : ∀ n : Nat, 400 ≤ n → (k == n) = false := fun n b => by
    rw [beq_eq_false_iff_ne]
    omega
  constructor <;> simp [fw_, a 448 (by decide), a 449 (by decide), a 533 (by decide)]
/-- whether a person may play -/
theorem pl_elig {T T1 : Zt} {N q m t x1 x2 : Int} (hT : ok_T T) (hI : IC_ N T) (hP : PLR_ T) (hX : TXR_ T) (hM : MAR_ T) (hE : ENR_ T) (hD : DAR_ T) (hN : CNR_ T) (f1 : fr_ [(533, [])] T T1) (d1 : ((x1 = -2 ∧ ¬ ((0 ≤ q ∧ q < T 108 0 3) ∧ 0 ≤ m ∧ m < T 106 0 4)) ∨ (((0 ≤ q ∧ q < T 108 0 3) ∧ 0 ≤ m ∧ m < T 106 0 4) ∧ ((x1 = -3 ∧ ¬ (0 ≤ t ∧ t ≤ 1)) ∨ ((0 ≤ t ∧ t ≤ 1) ∧ x1 = wyH_ T q m t))))) (d2 : ((x2 = -2 ∧ ¬ ((0 ≤ q ∧ q < T1 111 0 15) ∧ 0 ≤ m ∧ m < T1 111 0 29)) ∨ (((0 ≤ q ∧ q < T1 111 0 15) ∧ 0 ≤ m ∧ m < T1 111 0 29) ∧ ((x2 = -3 ∧ ¬ (0 ≤ t ∧ t ≤ 1)) ∨ ((0 ≤ t ∧ t ≤ 1) ∧ x2 = wyR_ T1 q m t))))) : x1 = x2 := by
  have mm := hM.1
  have c29 : T1 111 0 29 = T 111 0 29 := f1 111 0 29 rfl
  have c15 : T1 111 0 15 = T 111 0 15 := f1 111 0 15 rfl
  have n2 := hN.2.1
  rcases d1 with ⟨rfl, a⟩ | ⟨a, d1⟩
  · rcases d2 with ⟨rfl, -⟩ | ⟨b, -⟩
    · rfl
    · exfalso; omega
  · obtain ⟨-, d2⟩ := d2.resolve_left (fun z => z.2 (by omega))
    have k : wyR_ T1 q m t = wyR_ T q m t := wyR_k (fun k j a b => f1 k 0 j (kn9_ k j (by omega)).2) (f1 111 0 16 rfl) c29
    rw [k, ← wy_q hT hI hP hX hM hE hD a.2] at d2
    omega
/-- a line-up -/
theorem pl_line {T T1 T2 : Zt} {N q m t x1 x2 : Int} (hT : ok_T T) (hI : IC_ N T) (hR : IR_ T) (hP : PLR_ T) (hL : LDR_ T) (hX : TXR_ T) (hM : MAR_ T) (hE : ENR_ T) (hD : DAR_ T) (hN : CNR_ T) (f1 : fr_ [(448, []), (449, []), (533, [])] T T1) (d1 : ((x1 = -2 ∧ ¬ ((0 ≤ q ∧ q < T 108 0 3) ∧ 0 ≤ m ∧ m < T 106 0 4) ∧ SHN_ T T1) ∨ (((0 ≤ q ∧ q < T 108 0 3) ∧ 0 ≤ m ∧ m < T 106 0 4) ∧ ((x1 = -3 ∧ ¬ (0 ≤ t ∧ t ≤ 1) ∧ SHN_ T T1) ∨ ((0 ≤ t ∧ t ≤ 1) ∧ ((x1 = -4 ∧ ¬ (T 102 m 6 = -1 ∧ T 102 m 10 = 0) ∧ SHN_ T T1) ∨ ((T 102 m 6 = -1 ∧ T 102 m 10 = 0) ∧ ((x1 = -5 ∧ T 401 (T 102 m 0) 9 + 4 ≤ T 449 m t ∧ SHN_ T T1) ∨ (T 449 m t < T 401 (T 102 m 0) 9 + 4 ∧ ((wyH_ T q m t ≠ 0 ∧ x1 = -10 - wyH_ T q m t ∧ SHN_ T T1) ∨ (wyH_ T q m t = 0 ∧ x1 = T 449 m t + 1 ∧ SHH_ T T1 m t q))))))))))) (f2 : fr_ [(239, []), (240, [])] T1 T2) (d2 : ((SH_ T2 ∧ ∀ z, T1 239 0 z ≤ T2 239 0 z) ∧ ((x2 = -2 ∧ ¬ ((0 ≤ q ∧ q < T1 111 0 15) ∧ 0 ≤ m ∧ m < T1 111 0 29) ∧ T1 = T2) ∨ (((0 ≤ q ∧ q < T1 111 0 15) ∧ 0 ≤ m ∧ m < T1 111 0 29) ∧ ((x2 = -3 ∧ ¬ (0 ≤ t ∧ t ≤ 1) ∧ T1 = T2) ∨ ((0 ≤ t ∧ t ≤ 1) ∧ ((x2 = -4 ∧ T1 235 0 m ≠ 0 ∧ T1 = T2) ∨ (T1 235 0 m = 0 ∧ ((x2 = -5 ∧ T1 239 0 (2 * m + t) = T1 205 0 (23 * T1 230 0 m + 9) + 4 ∧ T1 = T2) ∨ (T1 239 0 (2 * m + t) ≠ T1 205 0 (23 * T1 230 0 m + 9) + 4 ∧ ((wyR_ T1 q m t ≠ 0 ∧ x2 = -10 - wyR_ T1 q m t ∧ T1 = T2) ∨ (wyR_ T1 q m t = 0 ∧ x2 = T1 239 0 (2 * m + t) + 1 ∧ SRR_ T1 T2 m t q)))))))))))) : x1 = x2 ∧ PLR_ T2 := by
  have mm := hM.1
  have c4 : T1 106 0 4 = T 106 0 4 := f1 106 0 4 rfl
  have c29 : T1 111 0 29 = T 111 0 29 := f1 111 0 29 rfl
  have c15 : T1 111 0 15 = T 111 0 15 := f1 111 0 15 rfl
  have v4 : T2 106 0 4 = T1 106 0 4 := f2 106 0 4 rfl
  have v29 : T2 111 0 29 = T1 111 0 29 := f2 111 0 29 rfl
  have n2 := hN.2.1
  have kR : ∀ j, KRM_ T T1 j := fun j => kqm_s (ks_f f1 (by decide +kernel))
  have kH : ∀ j, KHM_ T1 T2 j := fun j => khm_s (ks_f f2 (by decide +kernel))
  obtain ⟨-, d2⟩ := d2
  have stay : SHN_ T T1 → T1 = T2 → PLR_ T2 := fun s e => by
    subst e
    refine plr_s (m := -1) hP c4 c29 (fun z => absurd z (by decide)) (fun j _ _ _ => ⟨?_, kR j⟩) (fun j _ _ => ⟨f1 236 0 j rfl, f1 237 0 j rfl⟩)
    refine ⟨fun K i d => ?_, ⟨f1 102 j 0 rfl, f1 102 j 6 rfl, f1 102 j 10 rfl⟩, ⟨f1 103 j 0 rfl, f1 103 j 14 rfl, f1 103 j 15 rfl, f1 103 j 17 rfl⟩, fun w => f1 401 _ w rfl, fun _ i _ _ => f1 190 _ i rfl⟩
    rcases dk_c d with rfl | rfl | rfl | rfl | rfl | rfl | rfl | rfl | rfl | rfl | ⟨rfl, _⟩
    · exact s.1 j i
    · exact s.2 j i
    all_goals exact f1 _ j i rfl
  rcases d1 with ⟨rfl, a, s⟩ | ⟨a, d1⟩
  · rcases d2 with ⟨rfl, -, e⟩ | ⟨b, -⟩
    · exact ⟨rfl, stay s e⟩
    · exfalso; omega
  · obtain ⟨-, d2⟩ := d2.resolve_left (fun z => z.2.1 (by omega))
    have hm := a.2
    have g := hP.1 m hm.1 hm.2
    rcases d1 with ⟨rfl, b, s⟩ | ⟨b, d1⟩
    · rcases d2 with ⟨rfl, -, e⟩ | ⟨y, -⟩
      · exact ⟨rfl, stay s e⟩
      · exact absurd y b
    · obtain ⟨-, d2⟩ := d2.resolve_left (fun z => z.2.1 b)
      have t7 := pm_0 g.2
      have t2 : T1 235 0 m = T 235 0 m := f1 235 0 m rfl
      rcases d1 with ⟨rfl, c, s⟩ | ⟨c, d1⟩
      · rcases d2 with ⟨rfl, -, e⟩ | ⟨y, -⟩
        · exact ⟨rfl, stay s e⟩
        · exfalso; omega
      · obtain ⟨-, d2⟩ := d2.resolve_left (fun z => z.2.1 (by omega))
        have hc : 0 ≤ T 102 m 0 ∧ T 102 m 0 < T 106 0 2 := (hI.1.2.1 m hm.1 hm.2).2
        have e230 : T1 230 0 m = T 102 m 0 := (f1 230 0 m rfl).trans (hM.2 m hm.1 hm.2).1.symm
        have e9 : T1 205 0 (23 * T1 230 0 m + 9) = T 401 (T 102 m 0) 9 := by
          rw [e230, f1 205 0 (23 * T 102 m 0 + 9) rfl]
          exact ((hX.2.2.2.2 _ hc.1 hc.2).1 9 (by decide) (by decide)).symm
        have sm := g.1.1 t b.1 b.2
        have e39 : T1 239 0 (2 * m + t) = T 239 0 (2 * m + t) := f1 239 0 _ rfl
        have sh := (hR.2.2.2.2.2.2.1 m t hm.1 (by have n4 : T 106 0 4 ≤ 400 := (bd_f hT 106 4 tl_6_4 0).2; omega) b.1 b.2).1 (by omega)
        have e9b : T 205 0 (23 * T 230 0 m + 9) = T 401 (T 102 m 0) 9 := by
          rw [← (hM.2 m hm.1 hm.2).1]
          exact ((hX.2.2.2.2 _ hc.1 hc.2).1 9 (by decide) (by decide)).symm
        have kr := hI.1.2.2.2.1 _ hc.1 hc.2
        have k : wyR_ T1 q m t = wyH_ T q m t := (wyR_k (fun k j a b => f1 k 0 j (kn9_ k j (by omega)).1) (f1 111 0 16 rfl) c29).trans (wy_q hT hI hP hX hM hE hD hm).symm
        rw [e9, k] at d2
        rcases d1 with ⟨rfl, u, s⟩ | ⟨u, d1⟩
        · rcases d2 with ⟨rfl, -, e⟩ | ⟨y, -⟩
          · exact ⟨rfl, stay s e⟩
          · exfalso; omega
        · obtain ⟨-, d2⟩ := d2.resolve_left (fun z => by have := z.2.1; omega)
          rcases d1 with ⟨w, e1, s⟩ | ⟨w, e1, s⟩
          · rcases d2 with ⟨-, e2, e⟩ | ⟨y, -⟩
            · exact ⟨by omega, stay s e⟩
            · exact absurd y w
          · rcases d2 with ⟨y, -⟩ | ⟨-, e2, s2⟩
            · exact absurd w y
            · have pn : plc_ T m q = -1 := by
                refine Classical.byContradiction (fun z => ?_)
                by_cases o1 : co9_c T q (T 102 m 5) ≠ cz_ (t = 0) (T 102 m 3) (T 102 m 4)
                · rw [wyH_1 o1] at w; exact absurd w (by decide)
                · by_cases o2 : 0 < bnH_ T q m
                  · rw [wyH_2 o1 o2] at w; exact absurd w (by decide)
                  · rw [wyH_3 o1 o2 z] at w; exact absurd w (by decide)
              have pa : PAA_ T m := by
                rcases g.2 with y | y | y
                · exact y
                · exfalso; have := y.2.1; omega
                · exact absurd c.2 y.2.1
              obtain ⟨s1, s3, s4, s5⟩ := s
              obtain ⟨r1, r3, r4, r5⟩ := s2
              have e49 : ∀ i j, T2 449 i j = T1 449 i j := fun i j => f2 449 i j rfl
              have e48 : ∀ i j, T2 448 i j = T1 448 i j := fun i j => f2 448 i j rfl
              have k39 : ∀ j, T1 239 0 j = T 239 0 j := fun j => f1 239 0 j rfl
              have k40 : ∀ j, T1 240 0 j = T 240 0 j := fun j => f1 240 0 j rfl
              have nq : ∀ y, t * 10 ≤ y → y < t * 10 + T 449 m t → T 448 m y ≠ q := fun y y0 y1 e => by
                have p0 := pl_sl1 (q := q) g.1 (s := 0) (by decide) (by decide)
                by_cases o1 : plN_ T m q 0 (T 449 m 0).toNat 0 = -1
                · rw [plc_1 o1] at pn
                  rcases (by omega : t = 0 ∨ t = 1) with tc | tc
                  · rw [tc] at y0 y1
                    have n := plN_n (T 449 m 0).toNat 0 (by decide) (by decide) o1 y (by omega) (by omega)
                    rw [show (0 : Int) * 10 + y = y by omega] at n
                    exact n e
                  · rw [tc] at y0 y1
                    have n := plN_n (T 449 m 1).toNat 0 (by decide) (by decide) pn (y - 10) (by omega) (by omega)
                    rw [show (1 : Int) * 10 + (y - 10) = y by omega] at n
                    exact n e
                · rw [plc_0 o1] at pn
                  exact o1 pn
              refine ⟨by omega, plr_s (m := m) hP (by omega) (by omega) (fun _ _ => ⟨⟨fun t' u0 u1 => ?_, fun t' x u0 u1 x0 x1 => ?_, fun t' x y u0 u1 x0 x1 y0 y1 e => ?_⟩, Or.inl ?_⟩) (fun j j0 j1 nj => ⟨?_, ?_⟩) (fun j _ _ => ⟨(f2 236 0 j rfl).trans (f1 236 0 j rfl), (f2 237 0 j rfl).trans (f1 237 0 j rfl)⟩)⟩
              · have y := g.1.1 t' u0 u1
                rw [e49]
                by_cases o1 : t' = t
                · rw [o1] at y ⊢
                  omega
                · rw [r5 _ (by omega), k39, s5 m t' (fun z => o1 z.2)]
                  exact y
              · have y := g.1.1 t' u0 u1
                rw [e49] at x1
                rw [e48]
                by_cases o1 : t' = t
                · rw [o1] at x0 x1 y
                  rw [s3] at x1
                  by_cases o2 : x = t * 10 + T 449 m t
                  · rw [o2, s1, show 20 * m + (t * 10 + T 449 m t) = 10 * (2 * m + t) + T1 239 0 (2 * m + t) by omega]
                    exact r1
                  · rw [r4 _ (by omega), k40, s4 m x (fun z => o2 z.2)]
                    exact g.1.2.1 t x b.1 b.2 x0 (by omega)
                · rw [s5 m t' (fun z => o1 z.2)] at x1
                  rw [r4 _ (by omega), k40, s4 m x (fun z => by have := z.2; omega)]
                  exact g.1.2.1 t' x u0 u1 x0 x1
              · have y9 := g.1.1 t' u0 u1
                rw [e49] at x1 y1
                rw [e48, e48] at e
                by_cases o1 : t' = t
                · rw [o1] at x0 x1 y0 y1
                  rw [s3] at x1 y1
                  by_cases o2 : x = t * 10 + T 449 m t
                  · by_cases o3 : y = t * 10 + T 449 m t
                    · omega
                    · rw [o2, s1, s4 m y (fun z => o3 z.2)] at e
                      exact absurd e.symm (nq y y0 (by omega))
                  · by_cases o3 : y = t * 10 + T 449 m t
                    · rw [o3, s1, s4 m x (fun z => o2 z.2)] at e
                      exact absurd e (nq x x0 (by omega))
                    · rw [s4 m x (fun z => o2 z.2), s4 m y (fun z => o3 z.2)] at e
                      exact g.1.2.2 t x y b.1 b.2 x0 (by omega) y0 (by omega) e
                · rw [s5 m t' (fun z => o1 z.2)] at x1 y1
                  rw [s4 m x (fun z => by have := z.2; omega), s4 m y (fun z => by have := z.2; omega)] at e
                  exact g.1.2.2 t' x y u0 u1 x0 x1 y0 y1 e
              · unfold PAA_ at pa ⊢
                rw [f2 102 m 6 rfl, f1 102 m 6 rfl, f2 102 m 10 rfl, f1 102 m 10 rfl, f2 235 0 m rfl, f1 235 0 m rfl, f2 236 0 m rfl, f1 236 0 m rfl, f2 237 0 m rfl, f1 237 0 m rfl, f2 254 0 m rfl, f1 254 0 m rfl, f2 256 0 m rfl, f1 256 0 m rfl]
                exact pa
              · refine khm_t ⟨fun K i d => ?_, ⟨f1 102 j 0 rfl, f1 102 j 6 rfl, f1 102 j 10 rfl⟩, ⟨f1 103 j 0 rfl, f1 103 j 14 rfl, f1 103 j 15 rfl, f1 103 j 17 rfl⟩, fun w => f1 401 _ w rfl, fun _ i _ _ => f1 190 _ i rfl⟩ (kH j)
                rcases dk_c d with rfl | rfl | rfl | rfl | rfl | rfl | rfl | rfl | rfl | rfl | ⟨rfl, _⟩
                · exact s4 j i (fun z => nj z.1)
                · exact s5 j i (fun z => nj z.1)
                all_goals exact f1 _ j i rfl
              · refine kqm_t (kR j) ⟨?_, rw_k (fun k x c => by rcases c with rfl | rfl | rfl | rfl <;> exact f2 _ 0 x rfl) (fun x => f2 252 0 x rfl) (f2 253 0 j rfl) (f2 254 0 j rfl), f2 254 0 j rfl, f2 256 0 j rfl⟩
                funext K i
                by_cases y : dm_ K i = true
                · rw [rp_d y, rp_d y]
                  rcases dm_c y with ⟨z1, z2, z3, z4, z5⟩ | ⟨z1, z2, z3, z4, z5⟩ | ⟨z1, z2, z3, z4, z5⟩ | ⟨z1, z2, z3, z4, z5⟩ | ⟨z1, z2, z3, z4, z5⟩ | ⟨z1, z2, z3, z4, z5⟩ | ⟨z1, z2, z3, z4, z5⟩ | ⟨z1, z2, z3, z4, z5⟩ | ⟨z1, z2, z3, z4, z5⟩ | ⟨z1, z2, z3, z4, z5⟩ | ⟨z1, z2, z4, z5⟩ | ⟨z1, z2, z4, z5⟩ | ⟨z1, z2, z4, z5⟩ | ⟨z1, z2, z4, z5⟩ | ⟨z1, z2, z4, z5⟩ <;> rw [z4, z5] <;> first | exact f2 _ 0 _ rfl | exact r5 _ (by omega) | exact r4 _ (by omega)
                · rw [rp_z y, rp_z y]
-- postponements, plans, competitions, referees and title: the plays stay alike
/-- each match is of clubs that are there -/
def CLM_ (T : Zt) : Prop := ∀ m, 0 ≤ m → m < T 106 0 4 → T 102 m 3 < T 108 0 2 ∧ T 102 m 4 < T 108 0 2
theorem sa_q {T T1 : Zt} {N : Int} {f f' : Int → Int} {a b x : Int} (hT : ok_T T) (hI : IC_ N T) (hP : PLR_ T) (hX : TXR_ T) (hM : MAR_ T) (hH : THR_ T) (hC : CLM_ T) (e : ∀ (k : Nat) (j : Int), k = 205 ∨ k = 213 ∨ k = 230 ∨ k = 232 ∨ k = 233 ∨ k = 235 → T1 k 0 j = T k 0 j) (a0 : 0 ≤ a) (a1 : a < T 106 0 4) (b0 : 0 ≤ b) (b1 : b < T 106 0 4) (hf : f' b = f b) : SAR_ T1 f' a b x ↔ SAH_ T f a b x := by
  have ma := hM.2 a a0 a1
  have mb := hM.2 b b0 b1
  have ca := (hI.1.2.1 a a0 a1).2
  have cb := (hI.1.2.1 b b0 b1).2
  have na : 0 ≤ T 102 a 3 := (bd_f hT 102 3 tl_2_3 a).1
  have nb : 0 ≤ T 102 b 3 := (bd_f hT 102 3 tl_2_3 b).1
  have ta := (hH.1 _ na (hC a a0 a1).1).1
  have tb := (hH.1 _ nb (hC b b0 b1).1).1
  unfold SAR_ SAH_
  refine sa_e ?_ ?_ ⟨?_, ?_⟩ ?_ ?_ hf
  · unfold sqR_ sqH_
    rw [e 213 _ (by decide), e 213 _ (by decide), e 232 _ (by decide), e 232 _ (by decide), ← ma.2.2.1, ← mb.2.2.1, ta, tb]
  · unfold hqR_ hqH_
    rw [e 232 a (by decide), e 232 b (by decide), e 233 a (by decide), e 233 b (by decide), ← ma.2.2.1, ← mb.2.2.1, ← ma.2.2.2, ← mb.2.2.2]
    constructor
    · intro u; omega
    · intro u; omega
  · unfold rsR_ rsH_
    rw [e 205 _ (by decide), e 230 _ (by decide), ← ma.1]
    exact ((hX.2.2.2.2 _ ca.1 ca.2).1 8 (by decide) (by decide)).symm
  · unfold rsR_ rsH_
    rw [e 205 _ (by decide), e 230 _ (by decide), ← mb.1]
    exact ((hX.2.2.2.2 _ cb.1 cb.2).1 8 (by decide) (by decide)).symm
  · unfold abR_ abH_
    rw [e 235 _ (by decide)]
    exact (pm_3 (hP.1 a a0 a1).2).symm
  · unfold abR_ abH_
    rw [e 235 _ (by decide)]
    exact (pm_3 (hP.1 b b0 b1).2).symm
/-- a match put off -/
theorem pl_post {T T1 T2 : Zt} {N m d x1 x2 : Int} (hT : ok_T T) (hI : IC_ N T) (hP : PLR_ T) (hX : TXR_ T) (hM : MAR_ T) (hH : THR_ T) (hC : CLM_ T) (hD : DAR_ T) (hV : MVR_ T) (hN : CNR_ T) (f1 : fr_ [(535, []), (534, []), (102, [5]), (533, []), (531, []), (106, [12])] T T1) (d1 : ((x1 = -2 ∧ ¬ (0 ≤ m ∧ m < T 106 0 4) ∧ T = T1) ∨ ((0 ≤ m ∧ m < T 106 0 4) ∧ ((x1 = -3 ∧ ¬ (T 108 0 13 < d ∧ d ≤ 999 ∧ 0 ≤ d) ∧ T = T1) ∨ ((T 108 0 13 < d ∧ d ≤ 999 ∧ 0 ≤ d) ∧ ((x1 = -4 ∧ ¬ ((T 102 m 6 = -1 ∧ T 102 m 10 = 0) ∧ T 102 m 5 ≠ d) ∧ T = T1) ∨ (((T 102 m 6 = -1 ∧ T 102 m 10 = 0) ∧ T 102 m 5 ≠ d) ∧ PTO_ T T1 m d x1))))))) (f2 : fr_ [(234, []), (271, []), (272, []), (111, [73, 75]), (274, [])] T1 T2) (d2 : ((x2 = -2 ∧ ¬ (0 ≤ m ∧ m < T1 111 0 29) ∧ T1 = T2) ∨ ((0 ≤ m ∧ m < T1 111 0 29) ∧ ((x2 = -3 ∧ ¬ (T1 111 0 3 < d ∧ d ≤ 999 ∧ 0 ≤ d) ∧ T1 = T2) ∨ ((T1 111 0 3 < d ∧ d ≤ 999 ∧ 0 ≤ d) ∧ ((x2 = -4 ∧ ¬ (T1 235 0 m = 0 ∧ T1 234 0 m ≠ d) ∧ T1 = T2) ∨ ((T1 235 0 m = 0 ∧ T1 234 0 m ≠ d) ∧ PTQ_ T1 T2 m d x2))))))) : x1 = x2 ∧ DAR_ T2 ∧ MVR_ T2 := by
  have c4 : T1 106 0 4 = T 106 0 4 := f1 106 0 4 rfl
  have c29 : T1 111 0 29 = T 111 0 29 := f1 111 0 29 rfl
  have c3 : T1 111 0 3 = T 111 0 3 := f1 111 0 3 rfl
  have v4 : T2 106 0 4 = T1 106 0 4 := f2 106 0 4 rfl
  have v5 : ∀ i, T2 102 i 5 = T1 102 i 5 := fun i => f2 102 i 5 rfl
  have v12 : T2 106 0 12 = T1 106 0 12 := f2 106 0 12 rfl
  have v31 : ∀ j, T2 531 0 j = T1 531 0 j := fun j => f2 531 0 j rfl
  have c34 : ∀ j, T1 234 0 j = T 234 0 j := fun j => f1 234 0 j rfl
  have c74 : ∀ j, T1 274 0 j = T 274 0 j := fun j => f1 274 0 j rfl
  have c75 : T1 111 0 75 = T 111 0 75 := f1 111 0 75 rfl
  have c35 : ∀ j, T1 235 0 j = T 235 0 j := fun j => f1 235 0 j rfl
  have mm := hM.1
  have t6 := hN.2.2.2
  have m4 : 0 ≤ T 106 0 4 ∧ T 106 0 4 ≤ 400 := bd_f hT 106 4 tl_6_4 0
  rcases d1 with ⟨rfl, hn, rfl⟩ | ⟨hm, d1⟩
  · rcases d2 with ⟨rfl, -, rfl⟩ | ⟨hm2, -⟩
    · exact ⟨rfl, hD, hV⟩
    · exfalso; omega
  · obtain ⟨-, d2⟩ := d2.resolve_left (fun z => z.2.1 (by omega))
    rcases d1 with ⟨rfl, a, rfl⟩ | ⟨a, d1⟩
    · rcases d2 with ⟨rfl, -, rfl⟩ | ⟨y, -⟩
      · exact ⟨rfl, hD, hV⟩
      · exfalso; omega
    · obtain ⟨-, d2⟩ := d2.resolve_left (fun z => z.2.1 (by omega))
      have t7 := pm_0 (hP.1 m hm.1 hm.2).2
      have t5 := hD m hm.1 hm.2
      have u5 := c34 m
      have u6 := c35 m
      rcases d1 with ⟨rfl, b, rfl⟩ | ⟨b, d1⟩
      · rcases d2 with ⟨rfl, -, rfl⟩ | ⟨y, -⟩
        · exact ⟨rfl, hD, hV⟩
        · exfalso; omega
      · obtain ⟨-, d2⟩ := d2.resolve_left (fun z => z.2.1 (by omega))
        have ee : ∀ (k : Nat) (j : Int), k = 205 ∨ k = 213 ∨ k = 230 ∨ k = 232 ∨ k = 233 ∨ k = 235 → T1 k 0 j = T k 0 j := fun k j h => by
          rcases h with rfl | rfl | rfl | rfl | rfl | rfl <;> exact f1 _ 0 j rfl
        have dq : ∀ j, 0 ≤ j → j < T 106 0 4 → T1 234 0 j = T 102 j 5 := fun j j0 j1 => (c34 j).trans (hD j j0 j1).symm
        have ag : ∀ k, 0 ≤ k → k < T 106 0 4 → (AGR_ T1 m d k ↔ AGH_ T m d k) := fun k k0 k1 => sa_q hT hI hP hX hM hH hC ee hm.1 hm.2 k0 k1 (dq k k0 k1)
        have bk : ∀ (f f' : Int → Int) (k x : Int), (∀ j, 0 ≤ j → j < T 106 0 4 → f' j = f j) → 0 ≤ k → k < T 106 0 4 → (BKR_ T1 f' k x ↔ BKH_ T f k x) := fun f f' k x h k0 k1 => by
          unfold BKR_ BKH_ BK_
          constructor
          · rintro ⟨z, z0, z1, z2⟩
            exact ⟨z, z0, by omega, (sa_q hT hI hP hX hM hH hC ee k0 k1 z0 (by omega) (h z z0 (by omega))).mp z2⟩
          · rintro ⟨z, z0, z1, z2⟩
            exact ⟨z, z0, by omega, (sa_q hT hI hP hX hM hH hC ee k0 k1 z0 z1 (h z z0 z1)).mpr z2⟩
        have mv := mv_e (bk := BKH_ T) (bk' := BKR_ T1) (ag := AGH_ T m d) (ag' := AGR_ T1 m d) (d := d) (day := u1_ (fun m => T 102 m 5) m d) (day' := u1_ (fun m => T1 234 0 m) m d) (n := T 106 0 4) (fun j j0 j1 => by
          by_cases z : j = m
          · rw [z, u1_s, u1_s]
          · rw [u1_n z, u1_n z]
            exact dq j j0 j1) ag bk (T 106 0 4).toNat (by omega)
        have tl : (∀ k, 0 ≤ k → k < T1 111 0 29 → AGR_ T1 m d k → TLR_ T1 k) ↔ (∀ k, 0 ≤ k → k < T 106 0 4 → AGH_ T m d k → TLD_ T k) := by
          constructor
          · intro h k k0 k1 k2
            have y : T1 235 0 k = 0 := h k k0 (by omega) ((ag k k0 k1).mpr k2)
            exact (pm_0 (hP.1 k k0 k1).2).mpr ((c35 k).symm.trans y)
          · intro h k k0 k1 k2
            have k1' : k < T 106 0 4 := by omega
            show T1 235 0 k = 0
            rw [c35]
            exact (pm_0 (hP.1 k k0 k1').2).mp (h k k0 k1' ((ag k k0 k1').mp k2))
        have e2 : (mvR_ T1 m d (T1 111 0 29)).2 = (mvH_ T m d (T 106 0 4)).2 := by
          unfold mvR_ mvH_
          rw [show T1 111 0 29 = T 106 0 4 by omega]
          exact mv.1
        have e3 : ∀ j, 0 ≤ j → j < T 106 0 4 → (mvR_ T1 m d (T1 111 0 29)).1 j = (mvH_ T m d (T 106 0 4)).1 j := fun j j0 j1 => by
          unfold mvR_ mvH_
          rw [show T1 111 0 29 = T 106 0 4 by omega]
          exact mv.2 j j0 j1
        unfold PTO_ at d1
        unfold PTQ_ at d2
        rw [tl, e2] at d2
        rcases d1 with ⟨x, y, z1, z2, z3⟩ | ⟨x, y1, y2, z1, z2, z3, z4⟩
        · rcases d2 with ⟨u, -, w1, w2, w3⟩ | ⟨-, u1, u2, -⟩
          · refine ⟨by omega, fun j j0 j1 => ?_, ?_, fun k k0 k1 => ?_⟩
            · rw [v5, z1, w1, c34]
              exact hD j j0 (by omega)
            · have := hV.1; omega
            · rw [v31, z2, w2, c74]
              exact hV.2 k k0 (by omega)
          · exact absurd ⟨u1, u2⟩ y
        · rcases d2 with ⟨-, u, -⟩ | ⟨u, -, -, w1, w2, w3⟩
          · exact absurd ⟨y1, y2⟩ u
          · rw [show T1 111 0 29 = T 106 0 4 by omega] at w2
            have lq := lhd_q z3 w2 (fun j j0 j1 => (ag j (by omega) (by omega)).symm) x u
            refine ⟨lq.1, fun j j0 j1 => ?_, by omega, fun k k0 k1 => ?_⟩
            · rw [v5, z1, w1]
              exact (e3 j j0 (by omega)).symm
            · rw [v31]
              exact lq.2 k k0 (by omega)
/-- what both plans do -/
theorem enr_b {T T1 T2 : Zt} {c f x1 x2 : Int} (h : ENR_ T) (hm : MAR_ T) (ht : TXR_ T) (hd : T 108 0 13 = T 111 0 3) (hd0 : 0 ≤ T 108 0 13) (h0 : 0 ≤ T 106 0 4) (hb5 : ∀ d, 0 ≤ T 100 d 5 ∧ T 100 d 5 ≤ 12) (d1 : PH9_ T T1 c f x1) (r : krn_ T T1) (rp : krp_ T T1) (rt : ktr_ T T1) (r3 : T1 111 0 3 = T 111 0 3) (d2 : PR9_ T1 T2 c f x2) (s2 : (x2 < 0 ∧ T2 = T1) ∨ PQ9_ T1 T2 c) : (T1 = T ∧ T2 = T1) ∨ ((0 ≤ c ∧ c < T 106 0 2) ∧ SJ_ T T1 c ∧ PQ9_ T1 T2 c ∧ ∃ l, AP9_ T T1 c l ∧ AR9_ T1 T2 c l) := by
  obtain ⟨t1, t2, t3, t4, t5⟩ := ht
  by_cases hc : 0 ≤ c ∧ c < T 106 0 2
  · obtain ⟨z1, z2, z3, z4, z5, z6⟩ := h.1 c hc.1 hc.2
    have tc := (t5 c hc.1 hc.2).1
    have q6 := tc 6 (by omega) (by omega)
    have q7 := tc 7 (by omega) (by omega)
    have rc := r.2 c
    have e8 : T1 208 0 c = T 100 c 5 := by omega
    have e9 : T1 209 0 c = T 100 c 6 := by omega
    have e6 : T1 205 0 (23 * c + 6) = T 401 c 6 := by rw [rt.2.2.2.2]; omega
    have e7 : T1 205 0 (23 * c + 7) = T 401 c 7 := by rw [rt.2.2.2.2]; omega
    have am := an9_m (x := T 100 c 5) (by have := hb5 c; omega)
    have e29 : T1 111 0 29 = T 106 0 4 := by have := rp.1; have := hm.1; omega
    unfold PR9_ at d2
    rw [e8, e9, e6, e7, e29, r3, ← hd, Int.mul_comm (T 401 c 6) (T 100 c 5 + T 100 c 5 % 2 - 1), Int.mul_comm (T 401 c 6) (T 100 c 5 * (T 100 c 5 - 1) / 2)] at d2
    unfold PH9_ at d1
    rw [am] at d1
    have hc2 : 0 ≤ c ∧ c < T1 111 0 6 := by have := rt.2.2.1; omega
    rcases d1 with ⟨a0, a⟩ | ⟨a1, a2, a3, a4, a5, a6, a7, a8, a9⟩
    · rcases d2 with ⟨b0, b⟩ | ⟨b1, b2, b3, b4, b5, b6, b7, b8, b9⟩
      · exact Or.inl ⟨a0, b0⟩
      · exfalso
        omega
    · rcases d2 with ⟨b0, b⟩ | ⟨b1, b2, b3, b4, b5, b6, b7, b8, b9⟩
      · exfalso
        omega
      · exact Or.inr ⟨hc, a8, s2.resolve_left (fun z => by omega), _, a9, b9⟩
  · have hc2 : ¬ (0 ≤ c ∧ c < T1 111 0 6) := by have := rt.2.2.1; omega
    unfold PR9_ at d2
    unfold PH9_ at d1
    rcases d1 with ⟨a0, -⟩ | ⟨a1, -⟩
    · rcases d2 with ⟨b0, -⟩ | ⟨b1, -⟩
      · exact Or.inl ⟨a0, b0⟩
      · exact absurd b1 hc2
    · exact absurd a1 hc
/-- a plan -/
theorem pl_plan {T T1 T2 : Zt} {N c : Int} (hI : IC_ N T) (hR : IR_ T) (hP : PLR_ T) (hL : LDR_ T) (hM : MAR_ T) (hD : DAR_ T) (hC : CLM_ T) (i2 : IC_ (N + 1) T2) (j2 : IR_ T2) (hE2 : ENR_ T2) (hN2 : CNR_ T2) (c4 : T 106 0 2 ≤ 4) (cl3_ : ∀ i, 0 ≤ T2 102 i 3 ∧ T2 102 i 3 < 12) (cl4_ : ∀ i, 0 ≤ T2 102 i 4 ∧ T2 102 i 4 < 12) (h40 : T2 111 0 29 ≤ 400) (sk : SQ8_ T T1) (g : (T1 = T ∧ T2 = T1) ∨ ((0 ≤ c ∧ c < T 106 0 2) ∧ SJ_ T T1 c ∧ PQ9_ T1 T2 c ∧ ∃ l, AP9_ T T1 c l ∧ AR9_ T1 T2 c l)) (f2 : fr_ [(230, []), (231, []), (232, []), (233, []), (234, []), (235, []), (238, []), (253, []), (255, []), (111, [29]), (209, []), (210, []), (211, [])] T1 T2) : PLR_ T2 ∧ LDR_ T2 ∧ DAR_ T2 ∧ CLM_ T2 := by
  rcases g with ⟨rfl, rfl⟩ | ⟨hc, ⟨-, f1, od, -, ⟨s6, s7, s8⟩, oc⟩, ⟨⟨am1, am2, am3, am4⟩, -, -, -, -, -⟩, l, ⟨p1, p2⟩, q1, q2⟩
  · exact ⟨hP, hL, hD, hC⟩
  · have c29 : T1 111 0 29 = T 111 0 29 := f1 111 0 29 rfl
    have v4 : T2 106 0 4 = T1 106 0 4 := f2 106 0 4 rfl
    have mm := hM.1
    have kH : ∀ j, KHM_ T1 T2 j := fun j => khm_s (ks_f f2 (by decide +kernel))
    have new : ∀ m, T 106 0 4 ≤ m → m < T1 106 0 4 → ∃ (k : Nat) (q : Fx9_), m = T 106 0 4 + (k : Int) ∧ l[k]? = some q := fun m a b => by
      have hk : (m - T 106 0 4).toNat < l.length := by omega
      exact ⟨(m - T 106 0 4).toNat, l[(m - T 106 0 4).toNat], by omega, List.getElem?_eq_getElem hk⟩
    have old : ∀ j, 0 ≤ j → j < T 106 0 4 → KHM_ T T2 j ∧ KRM_ T T2 j := fun j j0 j1 => by
      refine ⟨khm_t ⟨fun K i d => ?_, ⟨od j 0 j1, od j 6 j1, od j 10 j1⟩, ⟨f1 103 j 0 rfl, f1 103 j 14 rfl, f1 103 j 15 rfl, f1 103 j 17 rfl⟩, fun w => f1 401 _ w rfl, fun _ i _ _ => f1 190 _ i rfl⟩ (kH j), kqm_t (kqm_s (ks_f f1 (by decide +kernel))) ⟨?_, rw_k (fun k x c => by rcases c with rfl | rfl | rfl | rfl <;> exact f2 _ 0 x rfl) (fun x => f2 252 0 x rfl) (am2 j (by omega)).2.2.2.2.2.2.2.1 (f2 254 0 j rfl), f2 254 0 j rfl, f2 256 0 j rfl⟩⟩
      · rcases dk_c d with rfl | rfl | rfl | rfl | rfl | rfl | rfl | rfl | rfl | rfl | ⟨rfl, _⟩
        · exact sk.1 448 j i (Or.inl rfl) j1
        · exact sk.1 449 j i (Or.inr rfl) j1
        all_goals exact f1 _ j i rfl
      · funext K i
        by_cases y : dm_ K i = true
        · rw [rp_d y, rp_d y]
          rcases dm_c y with ⟨z1, z2, z3, z4, z5⟩ | ⟨z1, z2, z3, z4, z5⟩ | ⟨z1, z2, z3, z4, z5⟩ | ⟨z1, z2, z3, z4, z5⟩ | ⟨z1, z2, z3, z4, z5⟩ | ⟨z1, z2, z3, z4, z5⟩ | ⟨z1, z2, z3, z4, z5⟩ | ⟨z1, z2, z3, z4, z5⟩ | ⟨z1, z2, z3, z4, z5⟩ | ⟨z1, z2, z3, z4, z5⟩ | ⟨z1, z2, z4, z5⟩ | ⟨z1, z2, z4, z5⟩ | ⟨z1, z2, z4, z5⟩ | ⟨z1, z2, z4, z5⟩ | ⟨z1, z2, z4, z5⟩ <;> rw [z4, z5] <;> first | exact f2 _ 0 _ rfl | exact (am2 j (by omega)).2.2.2.2.2.1
        · rw [rp_z y, rp_z y]
    refine ⟨⟨fun j j0 j1 => ?_, fun j j0 j1 => ?_⟩, ?_, fun j j0 j1 => ?_, fun j j0 j1 => ?_⟩
    · by_cases z : j < T 106 0 4
      · have g := hP.1 j j0 z
        have k := old j j0 z
        exact ⟨shm_k g.1 k.1 k.2, pm_k g.2 k.1 k.2⟩
      · obtain ⟨k, q, e, hq⟩ := new j (by omega) (by omega)
        have y := p2 k q hq
        have w := q2 k q hq
        rw [show T1 111 0 29 + (k : Int) = j by omega] at w
        rw [← e] at y
        have s9 := hR.2.2.2.2.2.2.1 j
        have e49 : ∀ t, 0 ≤ t → T2 449 j t = 0 := fun t t0 => (f2 449 j t rfl).trans (sk.2 j t (by omega) (by omega) t0)
        have e39 : ∀ t, 0 ≤ t → t ≤ 1 → T2 239 0 (2 * j + t) = 0 := fun t t0 t1 => (f2 239 0 _ rfl).trans ((f1 239 0 _ rfl).trans ((s9 t (by omega) (by omega) t0 t1).2 (by omega)))
        have rz := hR.2.2.2.2.2.2.2.2.2.1 j (by omega) (by omega)
        have hz := hP.2 j (by omega) (by omega)
        refine ⟨⟨fun t t0 t1 => ?_, fun t x t0 t1 x0 x1 => ?_, fun t x y t0 t1 x0 x1 y0 y1 e => ?_⟩, Or.inl ⟨?_, ?_, w.2.2.2.2.2.1, ?_, ?_, ?_, ?_⟩⟩
        · rw [e39 t t0 t1, e49 t t0]
          exact ⟨rfl, by decide, by decide⟩
        · rw [e49 t t0] at x1
          exfalso; omega
        · rw [e49 t t0] at x1
          exfalso; omega
        · rw [f2 102 j 6 rfl]; exact y.2.2.2.2.2.1
        · rw [f2 102 j 10 rfl]; exact y.2.2.2.2.2.2.2
        · exact (f2 236 0 j rfl).trans ((f1 236 0 j rfl).trans hz.1)
        · exact (f2 237 0 j rfl).trans ((f1 237 0 j rfl).trans hz.2)
        · exact (f2 254 0 j rfl).trans ((f1 254 0 j rfl).trans rz.1)
        · exact (f2 256 0 j rfl).trans ((f1 256 0 j rfl).trans rz.2)
    · have hz := hP.2 j (by omega) j1
      have y1 : T2 236 0 j = T 236 0 j := (f2 236 0 j rfl).trans (f1 236 0 j rfl)
      have y2 : T2 237 0 j = T 237 0 j := (f2 237 0 j rfl).trans (f1 237 0 j rfl)
      omega
    · have e10 : ∀ j, 0 ≤ j → j < T2 106 0 4 → T2 102 j 10 ≠ 0 → j < T 106 0 4 ∧ T 102 j 10 ≠ 0 := fun j j0 j1 jp => by
        by_cases z : j < T 106 0 4
        · rw [f2 102 j 10 rfl, od j 10 z] at jp
          exact ⟨z, jp⟩
        · exfalso
          obtain ⟨k, q, e, hq⟩ := new j (by omega) (by omega)
          have y := p2 k q hq
          rw [← e] at y
          rw [f2 102 j 10 rfl] at jp
          exact jp y.2.2.2.2.2.2.2
      have e14 : ∀ j, T2 103 j 14 = T 103 j 14 := fun j => (f2 103 j 14 rfl).trans (f1 103 j 14 rfl)
      have e16 : ∀ j, T2 103 j 16 = T 103 j 16 := fun j => (f2 103 j 16 rfl).trans (f1 103 j 16 rfl)
      have e44 : T2 104 0 4 = T 104 0 4 := (f2 104 0 4 rfl).trans (f1 104 0 4 rfl)
      have e15 : T2 109 0 15 = T 109 0 15 := (f2 109 0 15 rfl).trans (f1 109 0 15 rfl)
      have e91 : T2 191 0 0 = T 191 0 0 := (f2 191 0 0 rfl).trans (f1 191 0 0 rfl)
      refine ⟨by have := hL.1; omega, fun i i0 i1 ip => ?_⟩
      have y := e10 i i0 i1 ip
      have u := hL.2 i i0 y.1 y.2
      rw [e14, e16, e44, e15]
      refine ⟨u.1, fun j j0 j1 jp n => ?_⟩
      have y2 := e10 j j0 j1 jp
      rw [e14, e16]
      exact u.2 j j0 y2.1 y2.2 n
    · by_cases z : j < T 106 0 4
      · rw [f2 102 j 5 rfl, od j 5 z, (am2 j (by omega)).2.2.2.2.1, f1 234 0 j rfl]
        exact hD j j0 z
      · obtain ⟨k, q, e, hq⟩ := new j (by omega) (by omega)
        have y := p2 k q hq
        have w := q2 k q hq
        rw [show T1 111 0 29 + (k : Int) = j by omega] at w
        rw [← e] at y
        rw [f2 102 j 5 rfl, y.2.2.2.2.1, w.2.2.2.2.1]
    · have e108 : T2 108 0 2 = T 108 0 2 := (f2 108 0 2 rfl).trans (f1 108 0 2 rfl)
      by_cases z : j < T 106 0 4
      · rw [f2 102 j 3 rfl, f2 102 j 4 rfl, od j 3 z, od j 4 z, e108]
        exact hC j j0 z
      · have b2 : T2 106 0 2 = T 106 0 2 := (f2 106 0 2 rfl).trans (f1 106 0 2 rfl)
        have h7 : T2 100 c 7 = T1 100 c 7 := f2 100 c 7 rfl
        have h8 : T2 100 c 8 = T1 100 c 8 := f2 100 c 8 rfl
        have ks := i2.1.2.2.2.2.1 c hc.1 (by omega) j (by omega) (by omega)
        have en := hE2.1 c hc.1 (by omega)
        have ee := (j2.2.2.2.1 c hc.1 (by omega)).1
        have n2 := hN2.1
        have key : ∀ b, 0 ≤ b → b < 12 → 0 ≤ T2 404 c b → b < T2 108 0 2 := fun b b0 b1 s => by
          rcases en.2.2.2.2.2 b b0 b1 with y | ⟨y1, y2, y3⟩
          · omega
          · have u := en.2.2.2.2.1 _ y1 y2
            have v := ee _ y1 (by have := en.1; omega)
            rw [← u, y3] at v
            omega
        exact ⟨key _ (cl3_ j).1 (cl3_ j).2 ks.2.1, key _ (cl4_ j).1 (cl4_ j).2 ks.2.2⟩
/-- the plays under what leaves all rows but one -/
theorem plr_a {T T1 : Zt} {N w : Int} (hl : LP_ N T) (hP : PLR_ T) (k : ks_ [(102, [0, 6, 10]), (103, []), (448, []), (449, []), (466, []), (467, []), (468, []), (469, []), (470, []), (471, []), (472, []), (473, []), (401, [])] T T1) (kr : ks_ FRF_ T T1) (c1 : T1 106 0 4 = T 106 0 4) (c2 : T1 111 0 29 = T 111 0 29) (h : ∀ x j, x < T 191 0 0 → x ≠ w → T1 190 x j = T 190 x j) (g : ∀ m, 0 ≤ m → m < T 106 0 4 → T 102 m 10 ≠ 0 → T 103 m 14 ≠ w) : PLR_ T1 := by
  refine plr_s (m := -1) hP c1 c2 (fun z => absurd z (by decide)) (fun j j0 j1 _ => ⟨⟨fun K i d => ?_, ⟨k 102 j 0 rfl, k 102 j 6 rfl, k 102 j 10 rfl⟩, ⟨k 103 j 0 rfl, k 103 j 14 rfl, k 103 j 15 rfl, k 103 j 17 rfl⟩, fun w => k 401 _ w rfl, fun q i _ _ => h _ i (hl j j0 j1 q).1.2.2.2.2.2.1 (g j j0 j1 q)⟩, kqm_s kr⟩) (fun j _ _ => ⟨kr 236 0 j rfl, kr 237 0 j rfl⟩)
  rcases dk_c d with rfl | rfl | rfl | rfl | rfl | rfl | rfl | rfl | rfl | rfl | ⟨rfl, _⟩ <;> exact k _ j i rfl
theorem ldr_a {T T1 : Zt} {N : Int} (hl : LP_ N T) (h : LDR_ T) (e : T1 106 0 4 = T 106 0 4) (e15 : T1 109 0 15 = T 109 0 15) (g : ∀ m, T1 102 m 10 = T 102 m 10 ∧ T1 103 m 14 = T 103 m 14 ∧ T1 103 m 16 = T 103 m 16) (l : T 191 0 0 ≤ T1 191 0 0) (k : T1 104 0 4 = T 104 0 4 ∨ (T1 104 0 4 = T 191 0 0 ∧ T 191 0 0 < T1 191 0 0)) : LDR_ T1 := by
  refine ⟨by have := h.1; omega, fun m m0 m1 mp => ?_⟩
  have gm := g m
  have y := h.2 m m0 (by omega) (by omega)
  have lm := (hl m m0 (by omega) (by omega)).1.2.2.2.2.2.1
  refine ⟨by have := y.1; omega, fun j j0 j1 jp n => ?_⟩
  have gj := g j
  have w := y.2 j j0 (by omega) (by omega) n
  omega
theorem ldr_c {T T1 : Zt} {N : Int} (hl : LP_ N T) (h : LDR_ T) (e : T1 106 0 4 = T 106 0 4) (e44 : T1 104 0 4 = T 104 0 4) (g : ∀ m, T1 102 m 10 = T 102 m 10 ∧ T1 103 m 14 = T 103 m 14 ∧ T1 103 m 16 = T 103 m 16) (l : T 191 0 0 ≤ T1 191 0 0) (k : T1 109 0 15 = T 109 0 15 ∨ (T1 109 0 15 = T 191 0 0 + 1 ∧ T 191 0 0 < T1 191 0 0)) : LDR_ T1 := by
  refine ⟨by have := h.1; omega, fun m m0 m1 mp => ?_⟩
  have gm := g m
  have y := h.2 m m0 (by omega) (by omega)
  have lm := (hl m m0 (by omega) (by omega)).1.2.2.2.2.2.1
  refine ⟨by have := y.1; omega, fun j j0 j1 jp n => ?_⟩
  have gj := g j
  have w := y.2 j j0 (by omega) (by omega) n
  omega
/-- referees shared out -/
theorem pl_assign {T T1 : Zt} {N : Int} (hI : IC_ N T) (hP : PLR_ T) (hL : LDR_ T) (f1 : fr_ [(104, [3, 4]), (482, []), (102, [7]), (190, []), (191, [0])] T T1) (k : KPA_ T T1) (lh : lh_ T T1) : PLR_ T1 ∧ LDR_ T1 :=
  ⟨plr_a hI.2.2.2.1 hP (ks_f f1 (by decide +kernel)) (ks_f f1 (by decide +kernel)) (f1 106 0 4 rfl) (f1 111 0 29 rfl) k.1 (fun m a b c => (hL.2 m a b c).1.2.1), ldr_a hI.2.2.2.1 hL (f1 106 0 4 rfl) (f1 109 0 15 rfl) (fun m => ⟨f1 102 m 10 rfl, f1 103 m 14 rfl, f1 103 m 16 rfl⟩) lh.2 k.2⟩
/-- the title asked for -/
theorem pl_can {T T1 : Zt} {N : Int} (hI : IC_ N T) (hP : PLR_ T) (hL : LDR_ T) (f1 : fr_ [(109, [5, 3, 9, 6, 2, 15]), (584, []), (588, []), (587, []), (591, []), (592, []), (590, []), (593, []), (594, []), (107, [1]), (542, []), (543, []), (544, []), (545, []), (546, []), (190, []), (191, [0])] T T1) (k : KPT_ T T1) (lh : lh_ T T1) : PLR_ T1 ∧ LDR_ T1 :=
  ⟨plr_a (w := T 109 0 15 - 1) hI.2.2.2.1 hP (ks_f f1 (by decide +kernel)) (ks_f f1 (by decide +kernel)) (f1 106 0 4 rfl) (f1 111 0 29 rfl) (fun x j a b => k.1 x j a (by omega)) (fun m a b c => by have := (hL.2 m a b c).1.2.2; omega), ldr_c hI.2.2.2.1 hL (f1 106 0 4 rfl) (f1 104 0 4 rfl) (fun m => ⟨f1 102 m 10 rfl, f1 103 m 14 rfl, f1 103 m 16 rfl⟩) lh.2 k.2⟩
/-- a new competition -/
theorem pl_comp {T T1 : Zt} {N : Int} (hI : IC_ N T) (hP : PLR_ T) (k : ks_ [(102, [0, 6, 10]), (103, []), (448, []), (449, []), (466, []), (467, []), (468, []), (469, []), (470, []), (471, []), (472, []), (473, []), (190, [])] T T1) (kr : ks_ FRF_ T T1) (c1 : T1 106 0 4 = T 106 0 4) (c2 : T1 111 0 29 = T 111 0 29) (h : ∀ i j, i ≠ T 106 0 2 → T1 401 i j = T 401 i j) : PLR_ T1 := by
  refine plr_s (m := -1) hP c1 c2 (fun z => absurd z (by decide)) (fun j j0 j1 _ => ⟨⟨fun K i d => ?_, ⟨k 102 j 0 rfl, k 102 j 6 rfl, k 102 j 10 rfl⟩, ⟨k 103 j 0 rfl, k 103 j 14 rfl, k 103 j 15 rfl, k 103 j 17 rfl⟩, fun w => h _ w (by have := (hI.1.2.1 j j0 j1).2; omega), fun _ i _ _ => k 190 _ i rfl⟩, kqm_s kr⟩) (fun j _ _ => ⟨kr 236 0 j rfl, kr 237 0 j rfl⟩)
  rcases dk_c d with rfl | rfl | rfl | rfl | rfl | rfl | rfl | rfl | rfl | rfl | ⟨rfl, _⟩ <;> exact k _ j i rfl
/-- a home has its matches of a competition on different days still -/
theorem dd_p {T T1 : Zt} {p d x : Int} (hd : DD_ T) (e4 : T1 106 0 4 = T 106 0 4) (m4 : 0 ≤ T 106 0 4) (h : PTO_ T T1 p d x) : DD_ T1 := by
  rcases h with ⟨-, -, o, -, -⟩ | ⟨-, -, y2, z1, z2, -, -⟩
  · intro i j i0 i1 j1 a b c e q
    rw [o i 6] at a
    rw [o j 6] at b
    rw [o i 0, o j 0] at c
    rw [o i 3, o j 3] at e
    rw [o i 5, o j 5] at q
    rw [e4] at j1
    exact hd i j i0 i1 j1 a b c e q
  · intro i j i0 i1 j1 a b c e q
    rw [z2 i 6 (by decide)] at a
    rw [z2 j 6 (by decide)] at b
    rw [z2 i 0 (by decide), z2 j 0 (by decide)] at c
    rw [z2 i 3 (by decide), z2 j 3 (by decide)] at e
    rw [z1, z1] at q
    rw [e4] at j1
    have g := mv_dd (sq := sqH_ T) (hq := hqH_ T) (R := fun a b => T 102 a 0 = T 102 b 0 ∧ T 102 a 3 = T 102 b 3) (rs := rsH_ T) (ab := abH_ T) (n := T 106 0 4) (p := p) (d := d) (ag := AGH_ T p d) (day := u1_ (fun m => T 102 m 5) p d) (fun a b r => by
        show T 560 0 (T 102 a 3) = T 560 0 (T 102 b 3)
        rw [r.2]) (fun a b r => ⟨r.1.symm, r.2.symm⟩) (fun a b a0 a1 b0 b1 ne ha hb r eq => by
        by_cases wa : a = p
        · refine Or.inl ⟨wa, fun w => ne (wa.trans w), wa ▸ ha, hb, Or.inl ⟨?_, ?_⟩⟩
          · rw [wa, u1_s, u1_n (fun w => ne (wa.trans w.symm))] at eq
            exact eq
          · show T 560 0 (T 102 p 3) = T 560 0 (T 102 b 3)
            rw [← wa, r.2]
        · by_cases wb : b = p
          · refine Or.inr ⟨wb, fun w => wa w.symm, wb ▸ hb, ha, Or.inl ⟨?_, ?_⟩⟩
            · rw [wb, u1_s, u1_n wa] at eq
              exact eq.symm
            · show T 560 0 (T 102 p 3) = T 560 0 (T 102 a 3)
              rw [← wb, r.2]
          · rw [u1_n wa, u1_n wb] at eq
            exfalso
            rcases Int.lt_or_gt_of_ne ne with u | u
            · exact hd a b a0 u b1 ha hb r.1 r.2 eq
            · exact hd b a b0 u a1 hb ha r.1.symm r.2.symm eq.symm) (T 106 0 4).toNat (by omega) y2 i j i0 (by omega) (by omega) j1 (by omega) a b ⟨c, e⟩ q
    omega
theorem dd_q {T T1 : Zt} {m d x : Int} (hd : DD_ T) (e4 : T1 106 0 4 = T 106 0 4) (m4 : 0 ≤ T 106 0 4) (h : ((x = -2 ∧ ¬ (0 ≤ m ∧ m < T 106 0 4) ∧ T = T1) ∨ ((0 ≤ m ∧ m < T 106 0 4) ∧ ((x = -3 ∧ ¬ (T 108 0 13 < d ∧ d ≤ 999 ∧ 0 ≤ d) ∧ T = T1) ∨ ((T 108 0 13 < d ∧ d ≤ 999 ∧ 0 ≤ d) ∧ ((x = -4 ∧ ¬ ((T 102 m 6 = -1 ∧ T 102 m 10 = 0) ∧ T 102 m 5 ≠ d) ∧ T = T1) ∨ (((T 102 m 6 = -1 ∧ T 102 m 10 = 0) ∧ T 102 m 5 ≠ d) ∧ PTO_ T T1 m d x))))))) : DD_ T1 := by
  rcases h with ⟨-, -, rfl⟩ | ⟨-, h⟩
  · exact hd
  · rcases h with ⟨-, -, rfl⟩ | ⟨-, h⟩
    · exact hd
    · rcases h with ⟨-, -, rfl⟩ | ⟨-, h⟩
      · exact hd
      · exact dd_p hd e4 m4 h
-- what is asked of a match, both sides alike
theorem pl_match {T : Zt} {N m w x1 x2 : Int} (hI : IC_ N T) (hP : PLR_ T) (hM : MAR_ T) (hD : DAR_ T) (hO : CNO_ T) (d1 : ((x1 = -2 ∧ ¬ (0 ≤ m ∧ m < T 106 0 4)) ∨ ((0 ≤ m ∧ m < T 106 0 4) ∧ ((w = 0 ∧ x1 = T 100 (T 102 m 0) 0) ∨ (w = 1 ∧ x1 = T 102 m 2) ∨ (w = 2 ∧ x1 = T 102 m 3) ∨ (w = 3 ∧ x1 = T 102 m 4) ∨ (w = 4 ∧ x1 = T 102 m 5) ∨ (w = 5 ∧ ((T 102 m 6 ≠ -1 ∧ x1 = 3) ∨ (T 102 m 6 = -1 ∧ ((T 102 m 10 = 0 ∧ x1 = 0) ∨ (T 102 m 10 ≠ 0 ∧ ((T 103 m 3 = 0 ∧ x1 = 1) ∨ (T 103 m 3 ≠ 0 ∧ x1 = 2))))))) ∨ (w = 6 ∧ ((T 102 m 6 ≠ -1 ∧ ((0 = T 102 m 6 ∧ x1 = 0) ∨ (0 ≠ T 102 m 6 ∧ x1 = T 401 (T 102 m 0) 12))) ∨ (T 102 m 6 = -1 ∧ ((T 102 m 10 = 0 ∧ x1 = 0) ∨ (T 102 m 10 ≠ 0 ∧ x1 = T 468 m 0))))) ∨ (w = 7 ∧ ((T 102 m 6 ≠ -1 ∧ ((1 = T 102 m 6 ∧ x1 = 0) ∨ (1 ≠ T 102 m 6 ∧ x1 = T 401 (T 102 m 0) 12))) ∨ (T 102 m 6 = -1 ∧ ((T 102 m 10 = 0 ∧ x1 = 0) ∨ (T 102 m 10 ≠ 0 ∧ x1 = T 468 m 1))))) ∨ (¬ (0 ≤ w ∧ w ≤ 7) ∧ x1 = -3))))) (d2 : ((x2 = -2 ∧ ¬ (0 ≤ m ∧ m < T 111 0 29)) ∨ ((0 ≤ m ∧ m < T 111 0 29) ∧ ((w = 0 ∧ x2 = T 230 0 m) ∨ (w = 1 ∧ x2 = T 231 0 m) ∨ (w = 2 ∧ x2 = T 232 0 m) ∨ (w = 3 ∧ x2 = T 233 0 m) ∨ (w = 4 ∧ x2 = T 234 0 m) ∨ (w = 5 ∧ x2 = T 235 0 m) ∨ (w = 6 ∧ x2 = T 236 0 m) ∨ (w = 7 ∧ x2 = T 237 0 m) ∨ (¬ (0 ≤ w ∧ w ≤ 7) ∧ x2 = -3))))) : x1 = x2 := by
  have m1 := hM.1
  rcases d1 with ⟨rfl, a⟩ | ⟨hm, d1⟩
  · rcases d2 with ⟨rfl, -⟩ | ⟨b, -⟩
    · rfl
    · exfalso; omega
  · obtain ⟨-, d2⟩ := d2.resolve_left (fun z => z.2 (by omega))
    have mm := hM.2 m hm.1 hm.2
    have dd := hD m hm.1 hm.2
    have hc : 0 ≤ T 102 m 0 ∧ T 102 m 0 < T 106 0 2 := (hI.1.2.1 m hm.1 hm.2).2
    have ho := hO _ hc.1 hc.2
    rcases (hP.1 m hm.1 hm.2).2 with z | z | z
    · unfold PAA_ at z
      omega
    · unfold PBB_ at z
      omega
    · obtain ⟨p1, p2, -, ⟨n, -, ps⟩, -⟩ := z
      have e3 := ps.1.2.2.1.2.2
      rw [rp_35, show rs9_ T m 103 3 = T 103 m 3 from rs_d rfl] at e3
      have s0 := (eq_j ps.1 (s := 0) (by decide) (by decide)).2.2.2.2.1
      have s1 := (eq_j ps.1 (s := 1) (by decide) (by decide)).2.2.2.2.1
      rw [rp_36, show rs9_ T m 468 0 = T 468 m 0 from rs_d rfl] at s0
      rw [rp_37, show rs9_ T m 468 1 = T 468 m 1 from rs_d rfl] at s1
      omega
theorem pl_rows {T : Zt} {N m w x1 x2 : Int} (hI : IC_ N T) (hR : IR_ T) (hP : PLR_ T) (hM : MAR_ T) (d1 : ((x1 = -2 ∧ ¬ (0 ≤ m ∧ m < T 106 0 4)) ∨ ((0 ≤ m ∧ m < T 106 0 4) ∧ ((¬ (0 ≤ w ∧ w ≤ 1) ∧ x1 = -3) ∨ ((0 ≤ w ∧ w ≤ 1) ∧ ((T 102 m 10 = 0 ∧ x1 = 0) ∨ (T 102 m 10 ≠ 0 ∧ ((w = 0 ∧ x1 = T 103 m 15) ∨ (w = 1 ∧ x1 = T 103 m 17))))))))) (d2 : ((x2 = -2 ∧ ¬ (0 ≤ m ∧ m < T 111 0 29)) ∨ ((0 ≤ m ∧ m < T 111 0 29) ∧ ((¬ (0 ≤ w ∧ w ≤ 1) ∧ x2 = -3) ∨ (w = 0 ∧ x2 = T 254 0 m) ∨ (w = 1 ∧ x2 = T 256 0 m))))) : x1 = x2 := by
  have m1 := hM.1
  rcases d1 with ⟨rfl, a⟩ | ⟨hm, d1⟩
  · rcases d2 with ⟨rfl, -⟩ | ⟨b, -⟩
    · rfl
    · exfalso; omega
  · obtain ⟨-, d2⟩ := d2.resolve_left (fun z => z.2 (by omega))
    rcases (hP.1 m hm.1 hm.2).2 with z | z | z
    · unfold PAA_ at z
      omega
    · unfold PBB_ at z
      omega
    · have e := pcc_n z (hI.2.2.2.1 m hm.1 hm.2 z.2.1).1.1 (rx_n hR.2.2.2.2.2.2.2.2.1 hm.1 (by omega))
      have e2 := z.2.2.2.2.2.2.2
      have e3 := z.2.1
      omega
theorem pl_state {T : Zt} {m w x1 x2 : Int} (hP : PLR_ T) (hM : MAR_ T) (d1 : ((x1 = -2 ∧ ¬ (0 ≤ m ∧ m < T 106 0 4)) ∨ ((0 ≤ m ∧ m < T 106 0 4) ∧ ((¬ (0 ≤ w ∧ w ≤ 7) ∧ x1 = -3) ∨ ((0 ≤ w ∧ w ≤ 7) ∧ ((T 102 m 10 = 0 ∧ x1 = -4) ∨ (T 102 m 10 ≠ 0 ∧ ((w = 0 ∧ x1 = T 103 m 4) ∨ ((w = 1 ∨ w = 2) ∧ x1 = T 466 m (w - 1)) ∨ ((w = 3 ∨ w = 4) ∧ x1 = T 467 m (w - 3)) ∨ (w = 5 ∧ x1 = T 103 m 5) ∨ ((w = 6 ∨ w = 7) ∧ x1 = T 469 m (w - 6)))))))))) (d2 : ((x2 = -2 ∧ ¬ (0 ≤ m ∧ m < T 111 0 29)) ∨ ((0 ≤ m ∧ m < T 111 0 29) ∧ ((¬ (0 ≤ w ∧ w ≤ 7) ∧ x2 = -3) ∨ ((0 ≤ w ∧ w ≤ 7) ∧ ((¬ (T 235 0 m = 1 ∨ T 235 0 m = 2) ∧ x2 = -4) ∨ ((T 235 0 m = 1 ∨ T 235 0 m = 2) ∧ x2 = T 246 0 (8 * m + w)))))))) : x1 = x2 := by
  have m1 := hM.1
  rcases d1 with ⟨rfl, a⟩ | ⟨hm, d1⟩
  · rcases d2 with ⟨rfl, -⟩ | ⟨b, -⟩
    · rfl
    · exfalso; omega
  · obtain ⟨-, d2⟩ := d2.resolve_left (fun z => z.2 (by omega))
    rcases (hP.1 m hm.1 hm.2).2 with z | z | z
    · unfold PAA_ at z
      omega
    · unfold PBB_ at z
      omega
    · obtain ⟨p1, p2, -, ⟨n, -, ps⟩, -⟩ := z
      have e3 := ps.1.2.2.1
      have s0 := eq_j ps.1 (s := 0) (by decide) (by decide)
      have s1 := eq_j ps.1 (s := 1) (by decide) (by decide)
      have b0 : rp9_ T m 103 4 = T 246 0 (8 * m) := rp_v rfl rfl rfl
      have b5 : rp9_ T m 103 5 = T 246 0 (8 * m + 5) := rp_v rfl rfl rfl
      have b1 : rp9_ T m 466 0 = T 246 0 (8 * m + 1 + 0) := rp_v rfl rfl rfl
      have b2 : rp9_ T m 466 1 = T 246 0 (8 * m + 1 + 1) := rp_v rfl rfl rfl
      have b3 : rp9_ T m 467 0 = T 246 0 (8 * m + 3 + 0) := rp_v rfl rfl rfl
      have b4 : rp9_ T m 467 1 = T 246 0 (8 * m + 3 + 1) := rp_v rfl rfl rfl
      have b6 : rp9_ T m 469 0 = T 246 0 (8 * m + 6 + 0) := rp_v rfl rfl rfl
      have b7 : rp9_ T m 469 1 = T 246 0 (8 * m + 6 + 1) := rp_v rfl rfl rfl
      rw [show 8 * m + 1 + 0 = 8 * m + 1 by omega] at b1
      rw [show 8 * m + 1 + 1 = 8 * m + 2 by omega] at b2
      rw [show 8 * m + 3 + 0 = 8 * m + 3 by omega] at b3
      rw [show 8 * m + 3 + 1 = 8 * m + 4 by omega] at b4
      rw [show 8 * m + 6 + 0 = 8 * m + 6 by omega] at b6
      rw [show 8 * m + 6 + 1 = 8 * m + 7 by omega] at b7
      have a4 : rs9_ T m 103 4 = T 103 m 4 := rs_d rfl
      have a5 : rs9_ T m 103 5 = T 103 m 5 := rs_d rfl
      have a3 : rs9_ T m 103 3 = T 103 m 3 := rs_d rfl
      have g0 : rs9_ T m 466 0 = T 466 m 0 := rs_d rfl
      have g1 : rs9_ T m 466 1 = T 466 m 1 := rs_d rfl
      have g2 : rs9_ T m 467 0 = T 467 m 0 := rs_d rfl
      have g3 : rs9_ T m 467 1 = T 467 m 1 := rs_d rfl
      have g6 : rs9_ T m 469 0 = T 469 m 0 := rs_d rfl
      have g7 : rs9_ T m 469 1 = T 469 m 1 := rs_d rfl
      rw [rp_35, b0, b5, a3, a4, a5] at e3
      rw [b1, b3, b6, g0, g2, g6] at s0
      rw [b2, b4, b7, g1, g3, g7] at s1
      rcases d1 with ⟨u, rfl⟩ | ⟨u, d1⟩
      · rcases d2 with ⟨-, rfl⟩ | ⟨y, -⟩
        · rfl
        · exact absurd y u
      · obtain ⟨-, d2⟩ := d2.resolve_left (fun y => y.1 u)
        have d2 := d2.resolve_left (fun y => y.1 (by omega))
        have d1 := d1.resolve_left (fun y => p2 y.1)
        obtain ⟨-, d1⟩ := d1
        obtain ⟨-, rfl⟩ := d2
        rcases d1 with ⟨rfl, rfl⟩ | ⟨c | c, rfl⟩ | ⟨c | c, rfl⟩ | ⟨rfl, rfl⟩ | ⟨c | c, rfl⟩
        · rw [Int.add_zero]; omega
        · rw [c]; show T 466 m 0 = T 246 0 (8 * m + 1); omega
        · rw [c]; show T 466 m 1 = T 246 0 (8 * m + 2); omega
        · rw [c]; show T 467 m 0 = T 246 0 (8 * m + 3); omega
        · rw [c]; show T 467 m 1 = T 246 0 (8 * m + 4); omega
        · omega
        · rw [c]; show T 469 m 0 = T 246 0 (8 * m + 6); omega
        · rw [c]; show T 469 m 1 = T 246 0 (8 * m + 7); omega
theorem pl_field {T : Zt} {m t i x1 x2 : Int} (hP : PLR_ T) (hM : MAR_ T) (d1 : ((x1 = -2 ∧ ¬ (0 ≤ m ∧ m < T 106 0 4)) ∨ ((0 ≤ m ∧ m < T 106 0 4) ∧ ((¬ (0 ≤ t ∧ t ≤ 1) ∧ x1 = -3) ∨ ((0 ≤ t ∧ t ≤ 1) ∧ ((¬ (T 102 m 10 ≠ 0 ∧ 0 ≤ i ∧ i < T 470 m t) ∧ x1 = -1) ∨ (T 102 m 10 ≠ 0 ∧ (0 ≤ i ∧ i < T 470 m t) ∧ x1 = T 448 m (T 471 m (t * 6 + i))))))))) (d2 : ((x2 = -2 ∧ ¬ (0 ≤ m ∧ m < T 111 0 29)) ∨ ((0 ≤ m ∧ m < T 111 0 29) ∧ ((¬ (0 ≤ t ∧ t ≤ 1) ∧ x2 = -3) ∨ ((0 ≤ t ∧ t ≤ 1) ∧ ((¬ ((T 235 0 m = 1 ∨ T 235 0 m = 2) ∧ 0 ≤ i ∧ i < T 244 0 (2 * m + t)) ∧ x2 = -1) ∨ ((T 235 0 m = 1 ∨ T 235 0 m = 2) ∧ (0 ≤ i ∧ i < T 244 0 (2 * m + t)) ∧ x2 = T 240 0 (T 245 0 (6 * (2 * m + t) + i))))))))) : x1 = x2 := by
  have m1 := hM.1
  rcases d1 with ⟨rfl, a⟩ | ⟨hm, d1⟩
  · rcases d2 with ⟨rfl, -⟩ | ⟨b, -⟩
    · rfl
    · exfalso; omega
  · obtain ⟨-, d2⟩ := d2.resolve_left (fun z => z.2 (by omega))
    rcases d1 with ⟨u, rfl⟩ | ⟨u, d1⟩
    · rcases d2 with ⟨-, rfl⟩ | ⟨y, -⟩
      · rfl
      · exact absurd y u
    · obtain ⟨-, d2⟩ := d2.resolve_left (fun y => y.1 u)
      have g := hP.1 m hm.1 hm.2
      rcases g.2 with z | z | z
      · have e1 := z.2.1
        have e2 := z.2.2.1
        omega
      · have e1 := z.1
        have e2 := z.2.1
        omega
      · obtain ⟨p1, p2, -, ⟨n, -, ps⟩, -⟩ := z
        have e3 := ps.1.2.2.1.2.2
        rw [rp_35] at e3
        have f := (eq_j ps.1 u.1 u.2).2.1
        rw [rp_v (m := m) (K := 244) (x := 2 * m + t) (dm_470 u) rfl rfl, show rs9_ T m 470 t = T 470 m t from rs_d rfl] at f
        rcases d1 with ⟨v, rfl⟩ | ⟨-, v, rfl⟩
        · rcases d2 with ⟨-, rfl⟩ | ⟨y1, y2, -⟩
          · rfl
          · exact absurd ⟨p2, by omega, by omega⟩ v
        · rcases d2 with ⟨y, -⟩ | ⟨-, -, rfl⟩
          · exact absurd ⟨by omega, by omega, by omega⟩ y
          · have w := ps.2.1
            have w1 := w.1 t u.1 u.2
            rw [show rs9_ T m 470 t = T 470 m t from rs_d rfl] at w1
            have r70 : rs9_ T m 470 t = T 470 m t := rs_d rfl
            have q := ps.1.2.2.2.1 t (t * 6 + i) u.1 u.2 (by omega) (by rw [r70]; omega)
            have s := w.2.1 t (t * 6 + i) u.1 u.2 (by omega) (by rw [r70]; omega)
            rw [rp_v (m := m) (K := 245) (x := 12 * m + (t * 6 + i)) (dm_471 ⟨by omega, by omega⟩) rfl rfl, show rs9_ T m 471 (t * 6 + i) = T 471 m (t * 6 + i) from rs_d rfl] at q
            rw [show rs9_ T m 471 (t * 6 + i) = T 471 m (t * 6 + i) from rs_d rfl, show rs9_ T m 449 t = T 449 m t from rs_d rfl] at s
            rw [show 6 * (2 * m + t) + i = 12 * m + (t * 6 + i) by omega, q]
            exact (g.1.2.1 t _ u.1 u.2 s.1 s.2.1).symm
theorem pl_moved {T : Zt} {k x1 x2 : Int} (hV : MVR_ T) (d1 : ((0 ≤ k ∧ k < T 106 0 12 ∧ x1 = T 531 0 k) ∨ (¬ (0 ≤ k ∧ k < T 106 0 12) ∧ x1 = -1))) (d2 : ((0 ≤ k ∧ k < T 111 0 75 ∧ x2 = T 274 0 k) ∨ (¬ (0 ≤ k ∧ k < T 111 0 75) ∧ x2 = -1))) : x1 = x2 := by
  have h := hV.1
  rcases d1 with ⟨a, b, rfl⟩ | ⟨a, rfl⟩
  · rcases d2 with ⟨-, -, rfl⟩ | ⟨y, -⟩
    · exact hV.2 k a b
    · exact absurd ⟨a, by omega⟩ y
  · rcases d2 with ⟨y1, y2, -⟩ | ⟨-, rfl⟩
    · exact absurd ⟨y1, by omega⟩ a
    · rfl
theorem pl_count {T : Zt} {w x1 x2 : Int} (hN : CNR_ T) (hS : SPR_ T) (hX : TXR_ T) (hM : MAR_ T) (hC : RCR_ T) (d1 : ((w = 0 ∧ x1 = T 108 0 2) ∨ (w = 1 ∧ x1 = T 108 0 3) ∨ (w = 2 ∧ x1 = T 108 0 5) ∨ (w = 3 ∧ x1 = T 108 0 12) ∨ (w = 4 ∧ x1 = T 106 0 2) ∨ (w = 5 ∧ x1 = T 106 0 4) ∨ (w = 6 ∧ x1 = T 106 0 5) ∨ (w = 7 ∧ x1 = T 108 0 13) ∨ (¬ (0 ≤ w ∧ w ≤ 7) ∧ x1 = -3))) (d2 : ((w = 0 ∧ x2 = T 111 0 12) ∨ (w = 1 ∧ x2 = T 111 0 15) ∨ (w = 2 ∧ x2 = T 111 0 16) ∨ (w = 3 ∧ x2 = T 111 0 21) ∨ (w = 4 ∧ x2 = T 111 0 6) ∨ (w = 5 ∧ x2 = T 111 0 29) ∨ (w = 6 ∧ x2 = T 111 0 47) ∨ (w = 7 ∧ x2 = T 111 0 3) ∨ (¬ (0 ≤ w ∧ w ≤ 7) ∧ x2 = -3))) : x1 = x2 := by
  have a1 := hN.1
  have a2 := hN.2.1
  have a3 := hN.2.2.1
  have a4 := hN.2.2.2
  have a5 := hS.1
  have a6 := hX.2.2.1
  have a7 := hM.1
  have a8 : T 106 0 5 = T 111 0 47 := hC
  omega
/-- a walkover takes no match back -/
theorem wo_k {T T1 : Zt} {m d x : Int} (h : ((x = -2 ∧ ¬ (0 ≤ m ∧ m < T 106 0 4) ∧ T = T1) ∨ ((0 ≤ m ∧ m < T 106 0 4) ∧ ((x = -3 ∧ ¬ (0 ≤ d ∧ d ≤ 1) ∧ T = T1) ∨ ((0 ≤ d ∧ d ≤ 1) ∧ ((x = -4 ∧ ¬ ((T 102 m 6 = -1 ∧ T 102 m 10 = 0) ∧ T 102 m 5 ≤ T 108 0 13) ∧ T = T1) ∨ (x = 1 ∧ ((T 102 m 6 = -1 ∧ T 102 m 10 = 0) ∧ T 102 m 5 ≤ T 108 0 13) ∧ T1 = up_ T 102 m 6 d))))))) : ∀ i, T1 102 i 6 = T 102 i 6 ∨ T1 102 i 6 ≠ -1 := by
  rcases h with ⟨-, -, rfl⟩ | ⟨-, h⟩
  · exact fun i => Or.inl rfl
  · rcases h with ⟨-, -, rfl⟩ | ⟨a, h⟩
    · exact fun i => Or.inl rfl
    · rcases h with ⟨-, -, rfl⟩ | ⟨-, -, u⟩
      · exact fun i => Or.inl rfl
      · intro i
        by_cases z : i = m
        · exact Or.inr (by rw [z, up_f u]; omega)
        · exact Or.inl (up_g u (fun y => z y.2.1))
-- tables: pure words. A view of the matches of a competition: match, item (0 counts, 1 home, 2 away, 3 and 4 the scores, 5 and 6 the cards)
abbrev Mv_ : Type := Int → Int → Int
def ptm9_ (ru : Int → Int) (a b : Int) : Int := if b < a then ru 1 else if a = b then ru 2 else ru 3
def cv9_ (ru : Int → Int) (w a b : Int) : Int := if w = 0 then 1 else if w = 1 then (if b < a then 1 else 0) else if w = 2 then (if a = b then 1 else 0) else if w = 3 then (if a < b then 1 else 0) else if w = 4 then a else if w = 5 then b else ptm9_ ru a b
/-- what match k gives club x in column w -/
def td9_ (ru : Int → Int) (v : Mv_) (x w k : Int) : Int :=
  if v k 0 = 1 then (if w = 7 then (if v k 2 = x then v k 4 else 0) else if w = 8 then (if v k 1 = x then v k 5 else 0) + (if v k 2 = x then v k 6 else 0) else (if v k 1 = x then cv9_ ru w (v k 3) (v k 4) else 0) + (if v k 2 = x then cv9_ ru w (v k 4) (v k 3) else 0)) else 0
def tn9_ (ru : Int → Int) (v : Mv_) (x w : Int) : Nat → Int
  | 0 => 0
  | n + 1 => tn9_ ru v x w n + td9_ ru v x w (n : Int)
/-- two views tell the same of the first n matches -/
def VE_ (n : Int) (v v' : Mv_) : Prop := ∀ k : Int, 0 ≤ k → k < n → v k 0 = v' k 0 ∧ (v k 0 = 1 → v k 1 = v' k 1 ∧ v k 2 = v' k 2 ∧ v k 3 = v' k 3 ∧ v k 4 = v' k 4 ∧ v k 5 = v' k 5 ∧ v k 6 = v' k 6)
theorem td_0 {ru : Int → Int} {v : Mv_} {x w k : Int} (h : v k 0 ≠ 1) : td9_ ru v x w k = 0 := if_neg h
theorem td_1 {ru : Int → Int} {v : Mv_} {x w k : Int} (h : v k 0 = 1) : td9_ ru v x w k = (if w = 7 then (if v k 2 = x then v k 4 else 0) else if w = 8 then (if v k 1 = x then v k 5 else 0) + (if v k 2 = x then v k 6 else 0) else (if v k 1 = x then cv9_ ru w (v k 3) (v k 4) else 0) + (if v k 2 = x then cv9_ ru w (v k 4) (v k 3) else 0)) := if_pos h
theorem td_e {ru : Int → Int} {v v' : Mv_} {x w k : Int} (h : v k 0 = v' k 0 ∧ (v k 0 = 1 → v k 1 = v' k 1 ∧ v k 2 = v' k 2 ∧ v k 3 = v' k 3 ∧ v k 4 = v' k 4 ∧ v k 5 = v' k 5 ∧ v k 6 = v' k 6)) : td9_ ru v x w k = td9_ ru v' x w k := by
  by_cases z : v k 0 = 1
  · obtain ⟨e1, e2, e3, e4, e5, e6⟩ := h.2 z
    rw [td_1 z, td_1 (h.1.symm.trans z), e1, e2, e3, e4, e5, e6]
  · rw [td_0 z, td_0 (fun y => z (h.1.trans y))]
theorem tn_e {ru : Int → Int} {v v' : Mv_} {x w : Int} : ∀ n : Nat, VE_ (n : Int) v v' → tn9_ ru v x w n = tn9_ ru v' x w n
  | 0, _ => rfl
  | n + 1, h => by
    have i := tn_e (ru := ru) (x := x) (w := w) n (fun k a b => h k a (by omega))
    have d := td_e (ru := ru) (x := x) (w := w) (h (n : Int) (by omega) (by omega))
    show tn9_ ru v x w n + td9_ ru v x w (n : Int) = tn9_ ru v' x w n + td9_ ru v' x w (n : Int)
    rw [i, d]
-- among two clubs
theorem cz_g {A : Type} {P Q : Prop} {x y : A} (h : P ↔ Q) : cz_ P x y = cz_ Q x y := by
  by_cases z : P
  · rw [cz_t z, cz_t (h.1 z)]
  · rw [cz_f z, cz_f (fun q => z (h.2 q))]
theorem cz_0 {P : Prop} {x : Int} (h : x = 0) : cz_ P x 0 = 0 := by
  by_cases z : P
  · exact (cz_t z).trans h
  · exact cz_f z
noncomputable def hq9_ (ru : Int → Int) (v : Mv_) (a b k : Int) : Int := cz_ (v k 0 = 1) (cz_ (v k 1 = a ∧ v k 2 = b) (ptm9_ ru (v k 3) (v k 4)) 0 + cz_ (v k 2 = a ∧ v k 1 = b) (ptm9_ ru (v k 4) (v k 3)) 0) 0
noncomputable def hg9_ (v : Mv_) (a b k : Int) : Int := cz_ (v k 0 = 1) (cz_ (v k 1 = a ∧ v k 2 = b) (v k 3) 0 + cz_ (v k 2 = a ∧ v k 1 = b) (v k 4) 0) 0
noncomputable def hp9_ (ru : Int → Int) (v : Mv_) (a b : Int) : Nat → Int
  | 0 => 0
  | n + 1 => hp9_ ru v a b n + hq9_ ru v a b (n : Int)
noncomputable def hs9_ (v : Mv_) (a b : Int) : Nat → Int
  | 0 => 0
  | n + 1 => hs9_ v a b n + hg9_ v a b (n : Int)
-- among a group
def mb9_ (g x : Int) : Prop := an_ (sr_ g x) 1 = 1
def gv9_ (ru : Int → Int) (i a b : Int) : Int := if i = 0 then ptm9_ ru a b else if i = 1 then a - b else a
noncomputable def gh9_ (ru : Int → Int) (v : Mv_) (g x i k : Int) : Int := cz_ (v k 0 = 1 ∧ mb9_ g (v k 1) ∧ mb9_ g (v k 2)) (cz_ (v k 1 = x) (gv9_ ru i (v k 3) (v k 4)) 0 + cz_ (v k 2 = x) (gv9_ ru i (v k 4) (v k 3)) 0) 0
noncomputable def gn9_ (ru : Int → Int) (v : Mv_) (g x i : Int) : Nat → Int
  | 0 => 0
  | n + 1 => gn9_ ru v g x i n + gh9_ ru v g x i (n : Int)
/-- a sum over the seats of a group -/
noncomputable def hw9_ (f : Int → Int) (g : Int) (cl : Int → Int) : Nat → Int
  | 0 => 0
  | e + 1 => hw9_ f g cl e + cz_ (mb9_ g (cl (e : Int))) (f (cl (e : Int))) 0
theorem hw_a {f f' : Int → Int} {g : Int} {cl : Int → Int} : ∀ e : Nat, hw9_ (fun o => f o + f' o) g cl e = hw9_ f g cl e + hw9_ f' g cl e
  | 0 => rfl
  | e + 1 => by
    show hw9_ (fun o => f o + f' o) g cl e + cz_ (mb9_ g (cl (e : Int))) (f (cl (e : Int)) + f' (cl (e : Int))) 0 = hw9_ f g cl e + cz_ (mb9_ g (cl (e : Int))) (f (cl (e : Int))) 0 + (hw9_ f' g cl e + cz_ (mb9_ g (cl (e : Int))) (f' (cl (e : Int))) 0)
    rw [hw_a e]
    by_cases z : mb9_ g (cl (e : Int))
    · rw [cz_t z, cz_t z, cz_t z]; omega
    · rw [cz_f z, cz_f z, cz_f z]; omega
theorem hw_k {f f' : Int → Int} {g : Int} {cl : Int → Int} : ∀ e : Nat, (∀ s : Int, 0 ≤ s → s < (e : Int) → f (cl s) = f' (cl s)) → hw9_ f g cl e = hw9_ f' g cl e
  | 0, _ => rfl
  | e + 1, h => by
    show hw9_ f g cl e + cz_ (mb9_ g (cl (e : Int))) (f (cl (e : Int))) 0 = hw9_ f' g cl e + cz_ (mb9_ g (cl (e : Int))) (f' (cl (e : Int))) 0
    rw [hw_k e (fun s a b => h s a (by omega)), h (e : Int) (by omega) (by omega)]
theorem hw_0 {g : Int} {cl : Int → Int} : ∀ e : Nat, hw9_ (fun _ => 0) g cl e = 0
  | 0 => rfl
  | e + 1 => by
    show hw9_ (fun _ => 0) g cl e + cz_ (mb9_ g (cl (e : Int))) 0 0 = 0
    rw [hw_0 e, cz_0 rfl]
    rfl
theorem hw_z {A : Prop} {b p g : Int} {cl : Int → Int} (e : Nat) (h : ∀ s : Int, 0 ≤ s → s < (e : Int) → cl s ≠ b) : hw9_ (fun o => cz_ (A ∧ b = o) p 0) g cl e = 0 := by
  rw [hw_k (f := fun o => cz_ (A ∧ b = o) p 0) (f' := fun _ => 0) (cl := cl) e (fun s a c => cz_f (fun q => h s a c q.2.symm))]
  exact hw_0 e
/-- one seat alone counts -/
theorem hw_1 {A : Prop} {b p g : Int} {cl : Int → Int} : ∀ e : Nat, (∀ s t : Int, 0 ≤ s → s < (e : Int) → 0 ≤ t → t < (e : Int) → cl s = cl t → s = t) → ∀ s : Int, 0 ≤ s → s < (e : Int) → cl s = b → hw9_ (fun o => cz_ (A ∧ b = o) p 0) g cl e = cz_ (A ∧ mb9_ g b) p 0
  | 0, _, _, _, _, _ => by omega
  | e + 1, hi, s, s0, s1, es => by
    show hw9_ (fun o => cz_ (A ∧ b = o) p 0) g cl e + cz_ (mb9_ g (cl (e : Int))) (cz_ (A ∧ b = cl (e : Int)) p 0) 0 = cz_ (A ∧ mb9_ g b) p 0
    by_cases z : s = (e : Int)
    · have e0 : hw9_ (fun o => cz_ (A ∧ b = o) p 0) g cl e = 0 := hw_z e (fun t t0 t1 et => by have := hi t s t0 (by omega) s0 s1 (et.trans es.symm); omega)
      have e1 : cl (e : Int) = b := by rw [← z]; exact es
      rw [e0, e1]
      by_cases y : mb9_ g b
      · rw [cz_t y]
        by_cases w : A
        · rw [cz_t ⟨w, rfl⟩, cz_t ⟨w, y⟩]; omega
        · rw [cz_f (fun q => w q.1), cz_f (fun q => w q.1)]; omega
      · rw [cz_f y, cz_f (fun q => y q.2)]; omega
    · have n : b ≠ cl (e : Int) := fun q => z (hi s (e : Int) s0 s1 (by omega) (by omega) (es.trans q))
      rw [hw_1 e (fun s t a c a' c' q => hi s t a (by omega) a' (by omega) q) s s0 (by omega) es, cz_f (P := A ∧ b = cl (e : Int)) (fun q => n q.2), cz_0 rfl]
      omega
/-- every club of the first n matches that count has a seat, and only one -/
def SE_ (n e : Int) (v : Mv_) (cl : Int → Int) : Prop := (∀ s t : Int, 0 ≤ s → s < e → 0 ≤ t → t < e → cl s = cl t → s = t) ∧ ∀ k : Int, 0 ≤ k → k < n → v k 0 = 1 → ∀ i, i = 1 ∨ i = 2 → ∃ s, 0 ≤ s ∧ s < e ∧ cl s = v k i
theorem hw_q {ru : Int → Int} {v : Mv_} {g x k : Int} {cl : Int → Int} (e : Nat) (hi : ∀ s t : Int, 0 ≤ s → s < (e : Int) → 0 ≤ t → t < (e : Int) → cl s = cl t → s = t) (hv : v k 0 = 1 → ∀ i, i = 1 ∨ i = 2 → ∃ s, 0 ≤ s ∧ s < (e : Int) ∧ cl s = v k i) (hx : mb9_ g x) :
    hw9_ (fun o => hq9_ ru v x o k) g cl e = gh9_ ru v g x 0 k ∧ hw9_ (fun o => hg9_ v x o k) g cl e = gh9_ ru v g x 2 k ∧ hw9_ (fun o => hg9_ v x o k) g cl e - hw9_ (fun o => hg9_ v o x k) g cl e = gh9_ ru v g x 1 k := by
  by_cases z : v k 0 = 1
  · obtain ⟨s1, a1, b1, c1⟩ := hv z 1 (Or.inl rfl)
    obtain ⟨s2, a2, b2, c2⟩ := hv z 2 (Or.inr rfl)
    have P : ∀ (p q : Int), hw9_ (fun o => cz_ (v k 1 = x ∧ v k 2 = o) p 0 + cz_ (v k 2 = x ∧ v k 1 = o) q 0) g cl e = cz_ (v k 1 = x ∧ mb9_ g (v k 2)) p 0 + cz_ (v k 2 = x ∧ mb9_ g (v k 1)) q 0 := fun p q => by
      rw [hw_a (f := fun o => cz_ (v k 1 = x ∧ v k 2 = o) p 0) (f' := fun o => cz_ (v k 2 = x ∧ v k 1 = o) q 0), hw_1 e hi s2 a2 b2 c2, hw_1 e hi s1 a1 b1 c1]
    have q1 : hw9_ (fun o => hq9_ ru v x o k) g cl e = cz_ (v k 1 = x ∧ mb9_ g (v k 2)) (ptm9_ ru (v k 3) (v k 4)) 0 + cz_ (v k 2 = x ∧ mb9_ g (v k 1)) (ptm9_ ru (v k 4) (v k 3)) 0 := (hw_k (f := fun o => hq9_ ru v x o k) (f' := fun o => cz_ (v k 1 = x ∧ v k 2 = o) (ptm9_ ru (v k 3) (v k 4)) 0 + cz_ (v k 2 = x ∧ v k 1 = o) (ptm9_ ru (v k 4) (v k 3)) 0) (cl := cl) e (fun s _ _ => cz_t z)).trans (P _ _)
    have q2 : hw9_ (fun o => hg9_ v x o k) g cl e = cz_ (v k 1 = x ∧ mb9_ g (v k 2)) (v k 3) 0 + cz_ (v k 2 = x ∧ mb9_ g (v k 1)) (v k 4) 0 := (hw_k (f := fun o => hg9_ v x o k) (f' := fun o => cz_ (v k 1 = x ∧ v k 2 = o) (v k 3) 0 + cz_ (v k 2 = x ∧ v k 1 = o) (v k 4) 0) (cl := cl) e (fun s _ _ => cz_t z)).trans (P _ _)
    have q3 : hw9_ (fun o => hg9_ v o x k) g cl e = cz_ (v k 1 = x ∧ mb9_ g (v k 2)) (v k 4) 0 + cz_ (v k 2 = x ∧ mb9_ g (v k 1)) (v k 3) 0 := by
      refine (hw_k (f := fun o => hg9_ v o x k) (cl := cl) (f' := fun o => cz_ (v k 1 = x ∧ v k 2 = o) (v k 4) 0 + cz_ (v k 2 = x ∧ v k 1 = o) (v k 3) 0) e (fun s _ _ => ?_)).trans (P _ _)
      show cz_ (v k 0 = 1) (cz_ (v k 1 = cl s ∧ v k 2 = x) (v k 3) 0 + cz_ (v k 2 = cl s ∧ v k 1 = x) (v k 4) 0) 0 = cz_ (v k 1 = x ∧ v k 2 = cl s) (v k 4) 0 + cz_ (v k 2 = x ∧ v k 1 = cl s) (v k 3) 0
      rw [cz_t z, cz_g (P := v k 1 = cl s ∧ v k 2 = x) (Q := v k 2 = x ∧ v k 1 = cl s) And.comm, cz_g (P := v k 2 = cl s ∧ v k 1 = x) (Q := v k 1 = x ∧ v k 2 = cl s) And.comm]
      exact Int.add_comm _ _
    have R : ∀ (i p q : Int), gv9_ ru i (v k 3) (v k 4) = p → gv9_ ru i (v k 4) (v k 3) = q → gh9_ ru v g x i k = cz_ (v k 1 = x ∧ mb9_ g (v k 2)) p 0 + cz_ (v k 2 = x ∧ mb9_ g (v k 1)) q 0 := fun i p q ep eq => by
      unfold gh9_
      rw [ep, eq]
      by_cases y1 : v k 1 = x
      · have m1 : mb9_ g (v k 1) := by rw [y1]; exact hx
        by_cases m2 : mb9_ g (v k 2)
        · by_cases y2 : v k 2 = x
          · rw [cz_t (P := v k 0 = 1 ∧ mb9_ g (v k 1) ∧ mb9_ g (v k 2)) ⟨z, m1, m2⟩, cz_t (P := v k 1 = x) y1, cz_t (P := v k 2 = x) y2, cz_t (P := v k 1 = x ∧ mb9_ g (v k 2)) ⟨y1, m2⟩, cz_t (P := v k 2 = x ∧ mb9_ g (v k 1)) ⟨y2, m1⟩]
          · rw [cz_t (P := v k 0 = 1 ∧ mb9_ g (v k 1) ∧ mb9_ g (v k 2)) ⟨z, m1, m2⟩, cz_t (P := v k 1 = x) y1, cz_f (P := v k 2 = x) y2, cz_t (P := v k 1 = x ∧ mb9_ g (v k 2)) ⟨y1, m2⟩, cz_f (P := v k 2 = x ∧ mb9_ g (v k 1)) (fun w => y2 w.1)]
        · have y2 : ¬ v k 2 = x := fun w => m2 (by rw [w]; exact hx)
          rw [cz_f (P := v k 0 = 1 ∧ mb9_ g (v k 1) ∧ mb9_ g (v k 2)) (fun w => m2 w.2.2), cz_f (P := v k 1 = x ∧ mb9_ g (v k 2)) (fun w => m2 w.2), cz_f (P := v k 2 = x ∧ mb9_ g (v k 1)) (fun w => y2 w.1)]
          try rfl
      · by_cases y2 : v k 2 = x
        · have m2 : mb9_ g (v k 2) := by rw [y2]; exact hx
          by_cases m1 : mb9_ g (v k 1)
          · rw [cz_t (P := v k 0 = 1 ∧ mb9_ g (v k 1) ∧ mb9_ g (v k 2)) ⟨z, m1, m2⟩, cz_f (P := v k 1 = x) y1, cz_t (P := v k 2 = x) y2, cz_f (P := v k 1 = x ∧ mb9_ g (v k 2)) (fun w => y1 w.1), cz_t (P := v k 2 = x ∧ mb9_ g (v k 1)) ⟨y2, m1⟩]
          · rw [cz_f (P := v k 0 = 1 ∧ mb9_ g (v k 1) ∧ mb9_ g (v k 2)) (fun w => m1 w.2.1), cz_f (P := v k 1 = x ∧ mb9_ g (v k 2)) (fun w => y1 w.1), cz_f (P := v k 2 = x ∧ mb9_ g (v k 1)) (fun w => m1 w.2)]
            try rfl
        · rw [cz_f (P := v k 1 = x ∧ mb9_ g (v k 2)) (fun w => y1 w.1), cz_f (P := v k 2 = x ∧ mb9_ g (v k 1)) (fun w => y2 w.1), cz_f (P := v k 1 = x) y1, cz_f (P := v k 2 = x) y2]
          exact cz_0 rfl
    rw [q1, q2, q3, R 0 (ptm9_ ru (v k 3) (v k 4)) (ptm9_ ru (v k 4) (v k 3)) rfl rfl, R 2 (v k 3) (v k 4) rfl rfl, R 1 (v k 3 - v k 4) (v k 4 - v k 3) rfl rfl]
    refine ⟨rfl, rfl, ?_⟩
    show cz_ (v k 1 = x ∧ mb9_ g (v k 2)) (v k 3) 0 + cz_ (v k 2 = x ∧ mb9_ g (v k 1)) (v k 4) 0 - (cz_ (v k 1 = x ∧ mb9_ g (v k 2)) (v k 4) 0 + cz_ (v k 2 = x ∧ mb9_ g (v k 1)) (v k 3) 0) = cz_ (v k 1 = x ∧ mb9_ g (v k 2)) (v k 3 - v k 4) 0 + cz_ (v k 2 = x ∧ mb9_ g (v k 1)) (v k 4 - v k 3) 0
    by_cases y : v k 1 = x ∧ mb9_ g (v k 2)
    · by_cases w : v k 2 = x ∧ mb9_ g (v k 1)
      · rw [cz_t y, cz_t y, cz_t y, cz_t w, cz_t w, cz_t w]; omega
      · rw [cz_t y, cz_t y, cz_t y, cz_f w, cz_f w, cz_f w]; omega
    · by_cases w : v k 2 = x ∧ mb9_ g (v k 1)
      · rw [cz_f y, cz_f y, cz_f y, cz_t w, cz_t w, cz_t w]; omega
      · rw [cz_f y, cz_f y, cz_f y, cz_f w, cz_f w, cz_f w]; omega
  · have q1 : hw9_ (fun o => hq9_ ru v x o k) g cl e = 0 := (hw_k (f := fun o => hq9_ ru v x o k) (f' := fun _ => 0) (cl := cl) e (fun s _ _ => cz_f z)).trans (hw_0 e)
    have q2 : hw9_ (fun o => hg9_ v x o k) g cl e = 0 := (hw_k (f := fun o => hg9_ v x o k) (f' := fun _ => 0) (cl := cl) e (fun s _ _ => cz_f z)).trans (hw_0 e)
    have q3 : hw9_ (fun o => hg9_ v o x k) g cl e = 0 := (hw_k (f := fun o => hg9_ v o x k) (f' := fun _ => 0) (cl := cl) e (fun s _ _ => cz_f z)).trans (hw_0 e)
    have R : ∀ i, gh9_ ru v g x i k = 0 := fun i => cz_f (fun w => z w.1)
    rw [q1, q2, q3, R, R, R]
    exact ⟨rfl, rfl, rfl⟩
/-- the head of a club in a group: both ways of adding up -/
theorem hw_n {ru : Int → Int} {v : Mv_} {g x : Int} {cl : Int → Int} (e : Nat) (hx : mb9_ g x) : ∀ n : Nat, SE_ (n : Int) (e : Int) v cl →
    hw9_ (fun o => hp9_ ru v x o n) g cl e = gn9_ ru v g x 0 n ∧ hw9_ (fun o => hs9_ v x o n) g cl e = gn9_ ru v g x 2 n ∧ hw9_ (fun o => hs9_ v x o n) g cl e - hw9_ (fun o => hs9_ v o x n) g cl e = gn9_ ru v g x 1 n
  | 0, _ => by
    have z : hw9_ (fun _ => 0) g cl e = 0 := hw_0 e
    refine ⟨z, z, ?_⟩
    show hw9_ (fun _ => 0) g cl e - hw9_ (fun _ => 0) g cl e = 0
    omega
  | n + 1, h => by
    obtain ⟨i1, i2, i3⟩ := hw_n (ru := ru) e hx n ⟨h.1, fun k a b => h.2 k a (by omega)⟩
    obtain ⟨d1, d2, d3⟩ := hw_q (ru := ru) (v := v) (g := g) (x := x) (k := (n : Int)) e h.1 (h.2 (n : Int) (by omega) (by omega)) hx
    have a1 : hw9_ (fun o => hp9_ ru v x o (n + 1)) g cl e = hw9_ (fun o => hp9_ ru v x o n) g cl e + hw9_ (fun o => hq9_ ru v x o (n : Int)) g cl e := hw_a (f := fun o => hp9_ ru v x o n) (f' := fun o => hq9_ ru v x o (n : Int)) e
    have a2 : hw9_ (fun o => hs9_ v x o (n + 1)) g cl e = hw9_ (fun o => hs9_ v x o n) g cl e + hw9_ (fun o => hg9_ v x o (n : Int)) g cl e := hw_a (f := fun o => hs9_ v x o n) (f' := fun o => hg9_ v x o (n : Int)) e
    have a3 : hw9_ (fun o => hs9_ v o x (n + 1)) g cl e = hw9_ (fun o => hs9_ v o x n) g cl e + hw9_ (fun o => hg9_ v o x (n : Int)) g cl e := hw_a (f := fun o => hs9_ v o x n) (f' := fun o => hg9_ v o x (n : Int)) e
    have b : ∀ i, gn9_ ru v g x i (n + 1) = gn9_ ru v g x i n + gh9_ ru v g x i (n : Int) := fun _ => rfl
    rw [a1, a2, a3, b, b, b]
    exact ⟨by omega, by omega, by omega⟩
-- tables: the order by classes as a machine of pure words
def ud9_ (o : Int → Int) (j v : Int) : Int → Int := fun k => if k = j then v else o k
theorem ud_s {o : Int → Int} {j v : Int} : ud9_ o j v j = v := if_pos rfl
theorem ud_n {o : Int → Int} {j v k : Int} (h : k ≠ j) : ud9_ o j v k = o k := if_neg h
theorem ud_c {o cl : Int → Int} {j v : Int} : (fun k => cl (ud9_ o j v k)) = ud9_ (fun k => cl (o k)) j (cl v) := by
  funext k
  by_cases z : k = j
  · rw [z, ud_s, ud_s]
  · rw [ud_n z, ud_n z]
/-- x goes to its place among n before it -/
def in9_ (W : Int → Int) (f x : Int) : Nat → (Int → Int) → (Int → Int)
  | 0, o => ud9_ o f x
  | n + 1, o => if W (o (f + (n : Int))) < W x then in9_ W f x n (ud9_ o (f + (n : Int) + 1) (o (f + (n : Int)))) else ud9_ o (f + (n : Int) + 1) x
theorem in_t {W : Int → Int} {f x : Int} {n : Nat} {o : Int → Int} (h : W (o (f + (n : Int))) < W x) : in9_ W f x (n + 1) o = in9_ W f x n (ud9_ o (f + (n : Int) + 1) (o (f + (n : Int)))) := if_pos h
theorem in_f {W : Int → Int} {f x : Int} {n : Nat} {o : Int → Int} (h : ¬ W (o (f + (n : Int))) < W x) : in9_ W f x (n + 1) o = ud9_ o (f + (n : Int) + 1) x := if_neg h
def som9_ (W : Int → Int) (f : Int) : Nat → (Int → Int) → (Int → Int)
  | 0, o => o
  | n + 1, o => in9_ W f (som9_ W f n o (f + (n : Int) + 1)) (n + 1) (som9_ W f n o)
/-- what holds of all that stand holds behind it too; others stay -/
theorem in_q {W : Int → Int} {f x : Int} {Q : Int → Prop} (hx : Q x) : ∀ (n : Nat) (o : Int → Int), (∀ k, f ≤ k → k < f + (n : Int) → Q (o k)) → (∀ k, f ≤ k → k ≤ f + (n : Int) → Q (in9_ W f x n o k)) ∧ ∀ k, k < f ∨ f + (n : Int) < k → in9_ W f x n o k = o k
  | 0, o, _ => by
    refine ⟨fun k a b => ?_, fun k a => ?_⟩
    · show Q (ud9_ o f x k)
      rw [show k = f by omega, ud_s]
      exact hx
    · exact ud_n (by omega)
  | n + 1, o, h => by
    by_cases z : W (o (f + (n : Int))) < W x
    · obtain ⟨i1, i2⟩ := in_q (W := W) (f := f) hx n (ud9_ o (f + (n : Int) + 1) (o (f + (n : Int)))) (fun k a b => by rw [ud_n (by omega)]; exact h k a (by omega))
      rw [in_t z]
      refine ⟨fun k a b => ?_, fun k a => ?_⟩
      · by_cases y : k ≤ f + (n : Int)
        · exact i1 k a y
        · rw [i2 k (by omega), show k = f + (n : Int) + 1 by omega, ud_s]
          exact h _ (by omega) (by omega)
      · rw [i2 k (by omega), ud_n (by omega)]
    · rw [in_f z]
      refine ⟨fun k a b => ?_, fun k a => ?_⟩
      · by_cases y : k = f + (n : Int) + 1
        · rw [y, ud_s]; exact hx
        · rw [ud_n y]; exact h k a (by omega)
      · exact ud_n (by omega)
theorem so_q {W : Int → Int} {f : Int} {Q : Int → Prop} : ∀ (n : Nat) (o : Int → Int), (∀ k, f ≤ k → k ≤ f + (n : Int) → Q (o k)) → (∀ k, f ≤ k → k ≤ f + (n : Int) → Q (som9_ W f n o k)) ∧ ∀ k, k < f ∨ f + (n : Int) < k → som9_ W f n o k = o k
  | 0, o, h => ⟨h, fun _ _ => rfl⟩
  | n + 1, o, h => by
    obtain ⟨i1, i2⟩ := so_q (W := W) (f := f) n o (fun k a b => h k a (by omega))
    have x := h (f + (n : Int) + 1) (by omega) (by omega)
    have e : som9_ W f n o (f + (n : Int) + 1) = o (f + (n : Int) + 1) := i2 _ (by omega)
    obtain ⟨j1, j2⟩ := in_q (W := W) (f := f) (x := som9_ W f n o (f + (n : Int) + 1)) (Q := Q) (by rw [e]; exact x) (n + 1) (som9_ W f n o) (fun k a b => i1 k a (by omega))
    refine ⟨fun k a b => ?_, fun k a => ?_⟩
    · exact j1 k a (by omega)
    · exact (j2 k (by omega)).trans (i2 k (by omega))
/-- by seats or by clubs: the same -/
theorem in_c {W Ws cl : Int → Int} {f x : Int} (hx : Ws x = W (cl x)) : ∀ (n : Nat) (o : Int → Int), (∀ k, f ≤ k → k < f + (n : Int) → Ws (o k) = W (cl (o k))) → (fun k => cl (in9_ Ws f x n o k)) = in9_ W f (cl x) n (fun k => cl (o k))
  | 0, o, _ => ud_c
  | n + 1, o, h => by
    have y := h (f + (n : Int)) (by omega) (by omega)
    by_cases z : Ws (o (f + (n : Int))) < Ws x
    · have z' : W ((fun k => cl (o k)) (f + (n : Int))) < W (cl x) := by
        show W (cl (o (f + (n : Int)))) < W (cl x)
        omega
      have i := in_c (W := W) (Ws := Ws) (cl := cl) (f := f) hx n (ud9_ o (f + (n : Int) + 1) (o (f + (n : Int)))) (fun k a b => by rw [ud_n (by omega)]; exact h k a (by omega))
      exact (congrArg (fun g : Int → Int => fun k => cl (g k)) (in_t z)).trans (i.trans ((congrArg (in9_ W f (cl x) n) ud_c).trans (in_t z').symm))
    · have z' : ¬ W ((fun k => cl (o k)) (f + (n : Int))) < W (cl x) := by
        show ¬ W (cl (o (f + (n : Int)))) < W (cl x)
        omega
      exact (congrArg (fun g : Int → Int => fun k => cl (g k)) (in_f z)).trans (ud_c.trans (in_f z').symm)
theorem so_c {W Ws cl : Int → Int} {f : Int} : ∀ (n : Nat) (o : Int → Int), (∀ k, f ≤ k → k ≤ f + (n : Int) → Ws (o k) = W (cl (o k))) → (fun k => cl (som9_ Ws f n o k)) = som9_ W f n (fun k => cl (o k))
  | 0, o, _ => rfl
  | n + 1, o, h => by
    have i := so_c (W := W) (Ws := Ws) (cl := cl) (f := f) n o (fun k a b => h k a (by omega))
    have q := so_q (W := Ws) (f := f) (Q := fun s => Ws s = W (cl s)) n o (fun k a b => h k a (by omega))
    have e : som9_ Ws f n o (f + (n : Int) + 1) = o (f + (n : Int) + 1) := q.2 _ (by omega)
    have c := in_c (W := W) (Ws := Ws) (cl := cl) (f := f) (x := som9_ Ws f n o (f + (n : Int) + 1)) (by rw [e]; exact h _ (by omega) (by omega)) (n + 1) (som9_ Ws f n o) (fun k a b => q.1 k a (by omega))
    show (fun k => cl (in9_ Ws f (som9_ Ws f n o (f + (n : Int) + 1)) (n + 1) (som9_ Ws f n o) k)) = in9_ W f (som9_ W f n (fun k => cl (o k)) (f + (n : Int) + 1)) (n + 1) (som9_ W f n (fun k => cl (o k)))
    refine c.trans ?_
    rw [← i]
-- the pile
abbrev Pl_ : Type := List (Int × Int × Int)
def pu9_ (kc b k nx : Int) (q : Pl_) : Pl_ := if k - b < 2 ∨ kc < nx then q else (b, k, nx) :: q
theorem pu_t {kc b k nx : Int} {q : Pl_} (h : k - b < 2 ∨ kc < nx) : pu9_ kc b k nx q = q := if_pos h
theorem pu_f {kc b k nx : Int} {q : Pl_} (h : ¬ (k - b < 2 ∨ kc < nx)) : pu9_ kc b k nx q = (b, k, nx) :: q := if_neg h
def bt9_ (o : Int → Int) (f : Int) : Nat → Int
  | 0 => 0
  | n + 1 => or_ (bt9_ o f n) (sl_ 1 (o (f + (n : Int))))
/-- the heads of a group, from the front: where the last one starts, who is parted by what, the pile -/
def gl9_ (V : Int → Int) (f t key nx kc : Int) (p : Int → Int) (q : Pl_) : Nat → Int × (Int → Int) × Pl_
  | 0 => (f, p, q)
  | n + 1 => if f + (n : Int) + 1 = t ∨ V (f + (n : Int) + 1) ≠ V (f + (n : Int)) then (f + (n : Int) + 1, (if f + (n : Int) + 1 < t then ud9_ (gl9_ V f t key nx kc p q n).2.1 (f + (n : Int)) key else (gl9_ V f t key nx kc p q n).2.1), pu9_ kc (gl9_ V f t key nx kc p q n).1 (f + (n : Int) + 1) nx (gl9_ V f t key nx kc p q n).2.2) else gl9_ V f t key nx kc p q n
theorem gl_t {V : Int → Int} {f t key nx kc : Int} {p : Int → Int} {q : Pl_} {n : Nat} (h : f + (n : Int) + 1 = t ∨ V (f + (n : Int) + 1) ≠ V (f + (n : Int))) : gl9_ V f t key nx kc p q (n + 1) = (f + (n : Int) + 1, (if f + (n : Int) + 1 < t then ud9_ (gl9_ V f t key nx kc p q n).2.1 (f + (n : Int)) key else (gl9_ V f t key nx kc p q n).2.1), pu9_ kc (gl9_ V f t key nx kc p q n).1 (f + (n : Int) + 1) nx (gl9_ V f t key nx kc p q n).2.2) := if_pos h
theorem gl_f {V : Int → Int} {f t key nx kc : Int} {p : Int → Int} {q : Pl_} {n : Nat} (h : ¬ (f + (n : Int) + 1 = t ∨ V (f + (n : Int) + 1) ≠ V (f + (n : Int)))) : gl9_ V f t key nx kc p q (n + 1) = gl9_ V f t key nx kc p q n := if_neg h
def nx9_ (V : Int → Int) (rd f t key : Int) : Int := if V f ≠ V (t - 1) ∧ rd = 1 then 0 else key + 1
/-- a group is ordered: who stands where, who is parted by what, the pile -/
def sg9_ (WW : Int → Int → Int → Int) (rd kc f t key : Int) (o p : Int → Int) (q : Pl_) : (Int → Int) × (Int → Int) × Pl_ :=
  (som9_ (WW key (bt9_ o f (t - f).toNat)) f (t - f - 1).toNat o, (gl9_ (fun k => WW key (bt9_ o f (t - f).toNat) (som9_ (WW key (bt9_ o f (t - f).toNat)) f (t - f - 1).toNat o k)) f t key (nx9_ (fun k => WW key (bt9_ o f (t - f).toNat) (som9_ (WW key (bt9_ o f (t - f).toNat)) f (t - f - 1).toNat o k)) rd f t key) kc p q (t - f).toNat).2)
def rk9_ (WW : Int → Int → Int → Int) (rd kc : Int) : Nat → (Int → Int) → (Int → Int) → Pl_ → (Int → Int) × (Int → Int)
  | 0, o, p, _ => (o, p)
  | _ + 1, o, p, [] => (o, p)
  | n + 1, o, p, (f, t, key) :: q => rk9_ WW rd kc n (sg9_ WW rd kc f t key o p q).1 (sg9_ WW rd kc f t key o p q).2.1 (sg9_ WW rd kc f t key o p q).2.2
theorem rk_0 {WW : Int → Int → Int → Int} {rd kc : Int} {n : Nat} {o p : Int → Int} : rk9_ WW rd kc n o p [] = (o, p) := by
  cases n <;> rfl
theorem rk_s {WW : Int → Int → Int → Int} {rd kc f t key : Int} {n : Nat} {o p : Int → Int} {q : Pl_} : rk9_ WW rd kc (n + 1) o p ((f, t, key) :: q) = rk9_ WW rd kc n (sg9_ WW rd kc f t key o p q).1 (sg9_ WW rd kc f t key o p q).2.1 (sg9_ WW rd kc f t key o p q).2.2 := rfl
/-- how long the pile can keep the machine busy, and how many it holds -/
def ph9_ : Pl_ → Int
  | [] => 0
  | (f, t, key) :: q => 16 * (t - f) - 16 - key + ph9_ q
def sz9_ : Pl_ → Int
  | [] => 0
  | (f, t, _) :: q => t - f + sz9_ q
/-- a pile as it should be -/
def PWm_ (e kc : Int) : Pl_ → Prop
  | [] => True
  | (f, t, key) :: q => (0 ≤ f ∧ f + 2 ≤ t ∧ t ≤ e ∧ 0 ≤ key ∧ key ≤ kc) ∧ PWm_ e kc q
theorem pw_p {e kc b k nx : Int} {q : Pl_} (h : PWm_ e kc q) (hb : 0 ≤ b ∧ b ≤ k ∧ k ≤ e ∧ 0 ≤ nx) : PWm_ e kc (pu9_ kc b k nx q) := by
  by_cases z : k - b < 2 ∨ kc < nx
  · rw [pu_t z]; exact h
  · rw [pu_f z]; exact ⟨by omega, h⟩
theorem pu_h {kc b k nx : Int} {q : Pl_} (hb : b < k ∧ 0 ≤ nx) : ph9_ (pu9_ kc b k nx q) ≤ ph9_ q + (16 * (k - b) - 16) ∧ (ph9_ (pu9_ kc b k nx q) = ph9_ q ∨ ph9_ (pu9_ kc b k nx q) = 16 * (k - b) - 16 - nx + ph9_ q) ∧ sz9_ (pu9_ kc b k nx q) ≤ sz9_ q + (k - b) := by
  by_cases z : k - b < 2 ∨ kc < nx
  · rw [pu_t z]; exact ⟨by omega, Or.inl rfl, by omega⟩
  · rw [pu_f z]
    have e1 : ph9_ ((b, k, nx) :: q) = 16 * (k - b) - 16 - nx + ph9_ q := rfl
    have e2 : sz9_ ((b, k, nx) :: q) = k - b + sz9_ q := rfl
    exact ⟨by omega, Or.inr e1, by omega⟩
theorem ph_0 {e kc : Int} (hk : kc ≤ 7) : ∀ {q : Pl_}, PWm_ e kc q → 0 ≤ ph9_ q ∧ 2 * (q.length : Int) ≤ sz9_ q
  | [], _ => ⟨Int.le_refl _, by show 2 * ((0 : Nat) : Int) ≤ 0; omega⟩
  | (f, t, key) :: q, h => by
    have i := ph_0 hk h.2
    have a := h.1
    have e1 : ph9_ ((f, t, key) :: q) = 16 * (t - f) - 16 - key + ph9_ q := rfl
    have e2 : sz9_ ((f, t, key) :: q) = t - f + sz9_ q := rfl
    have e3 : (((f, t, key) :: q).length : Int) = (q.length : Int) + 1 := by rw [List.length_cons]; omega
    omega
/-- the heads of a group: where they start, what they weigh -/
theorem gl_w {V : Int → Int} {f t key nx kc : Int} {p : Int → Int} {q : Pl_} {e : Int} (hf : 0 ≤ f) (ht : t ≤ e) (hn : 0 ≤ nx) (hq : PWm_ e kc q) : ∀ n : Nat, f + (n : Int) ≤ t →
    (f ≤ (gl9_ V f t key nx kc p q n).1 ∧ (gl9_ V f t key nx kc p q n).1 ≤ f + (n : Int) ∧ (f + (n : Int) = t → (n : Int) ≠ 0 → (gl9_ V f t key nx kc p q n).1 = t)) ∧ PWm_ e kc (gl9_ V f t key nx kc p q n).2.2 ∧ sz9_ (gl9_ V f t key nx kc p q n).2.2 ≤ sz9_ q + ((gl9_ V f t key nx kc p q n).1 - f) ∧
    (((gl9_ V f t key nx kc p q n).1 = f ∧ ph9_ (gl9_ V f t key nx kc p q n).2.2 = ph9_ q ∧ ∀ k : Int, f ≤ k → k ≤ f + (n : Int) → k < t → V k = V f) ∨
     (f < (gl9_ V f t key nx kc p q n).1 ∧ (gl9_ V f t key nx kc p q n).1 < t ∧ ph9_ (gl9_ V f t key nx kc p q n).2.2 ≤ ph9_ q + 16 * ((gl9_ V f t key nx kc p q n).1 - f) - 16) ∨
     ((gl9_ V f t key nx kc p q n).1 = t ∧ f < t ∧ (ph9_ (gl9_ V f t key nx kc p q n).2.2 ≤ ph9_ q + 16 * (t - f) - 32 ∨ (V (t - 1) = V f ∧ (ph9_ (gl9_ V f t key nx kc p q n).2.2 = ph9_ q ∨ ph9_ (gl9_ V f t key nx kc p q n).2.2 = 16 * (t - f) - 16 - nx + ph9_ q)))))
  | 0, h => by
    refine ⟨⟨Int.le_refl _, by show f ≤ _; omega, fun _ c => absurd rfl c⟩, hq, by show sz9_ q ≤ sz9_ q + (f - f); omega, Or.inl ⟨rfl, rfl, fun k a b _ => ?_⟩⟩
    rw [show k = f by omega]
  | n + 1, h => by
    obtain ⟨⟨i1, i2, _⟩, i4, i5, i6⟩ := gl_w (V := V) (f := f) (t := t) (key := key) (nx := nx) (kc := kc) (p := p) (q := q) (e := e) hf ht hn hq n (by omega)
    by_cases z : f + (n : Int) + 1 = t ∨ V (f + (n : Int) + 1) ≠ V (f + (n : Int))
    · rw [gl_t z]
      have u := pu_h (kc := kc) (b := (gl9_ V f t key nx kc p q n).1) (k := f + (n : Int) + 1) (nx := nx) (q := (gl9_ V f t key nx kc p q n).2.2) (by omega)
      refine ⟨⟨by show f ≤ f + (n : Int) + 1; omega, by show f + (n : Int) + 1 ≤ _; omega, fun c _ => by show f + (n : Int) + 1 = t; omega⟩, pw_p i4 (by omega), ?_, ?_⟩
      · show sz9_ (pu9_ kc (gl9_ V f t key nx kc p q n).1 (f + (n : Int) + 1) nx (gl9_ V f t key nx kc p q n).2.2) ≤ sz9_ q + (f + (n : Int) + 1 - f)
        omega
      · show (f + (n : Int) + 1 = f ∧ _) ∨ (f < f + (n : Int) + 1 ∧ f + (n : Int) + 1 < t ∧ ph9_ (pu9_ kc (gl9_ V f t key nx kc p q n).1 (f + (n : Int) + 1) nx (gl9_ V f t key nx kc p q n).2.2) ≤ ph9_ q + 16 * (f + (n : Int) + 1 - f) - 16) ∨ (f + (n : Int) + 1 = t ∧ f < t ∧ (ph9_ (pu9_ kc (gl9_ V f t key nx kc p q n).1 (f + (n : Int) + 1) nx (gl9_ V f t key nx kc p q n).2.2) ≤ ph9_ q + 16 * (t - f) - 32 ∨ (V (t - 1) = V f ∧ (ph9_ (pu9_ kc (gl9_ V f t key nx kc p q n).1 (f + (n : Int) + 1) nx (gl9_ V f t key nx kc p q n).2.2) = ph9_ q ∨ ph9_ (pu9_ kc (gl9_ V f t key nx kc p q n).1 (f + (n : Int) + 1) nx (gl9_ V f t key nx kc p q n).2.2) = 16 * (t - f) - 16 - nx + ph9_ q))))
        by_cases y : f + (n : Int) + 1 = t
        · refine Or.inr (Or.inr ⟨y, by omega, ?_⟩)
          rcases i6 with c | c | c
          · refine Or.inr ⟨c.2.2 (t - 1) (by omega) (by omega) (by omega), ?_⟩
            obtain ⟨c1, c2, -⟩ := c
            have u2 := u.2.1
            rw [c1, c2, y] at u2
            rw [c1, y]
            exact u2
          · exact Or.inl (by omega)
          · omega
        · refine Or.inr (Or.inl ⟨by omega, by omega, ?_⟩)
          rcases i6 with c | c | c
          · obtain ⟨c1, c2, -⟩ := c
            omega
          · omega
          · omega
    · rw [gl_f z]
      refine ⟨⟨i1, by omega, fun c _ => absurd (Or.inl (by omega)) z⟩, i4, i5, ?_⟩
      rcases i6 with c | c | c
      · refine Or.inl ⟨c.1, c.2.1, fun k a b d => ?_⟩
        by_cases y : k = f + (n : Int) + 1
        · have w9 : V (f + (n : Int) + 1) = V (f + (n : Int)) := by
            by_cases w : V (f + (n : Int) + 1) = V (f + (n : Int))
            · exact w
            · exact absurd (Or.inr w) z
          rw [y, w9]
          exact c.2.2 _ (by omega) (by omega) (by omega)
        · exact c.2.2 k a (by omega) d
      · exact Or.inr (Or.inl c)
      · exact Or.inr (Or.inr c)
/-- a step: the pile stays as it should be, grows lighter, holds no more -/
theorem gl_d {V p : Int → Int} {rd kc f t key e : Int} {q : Pl_} (h : PWm_ e kc ((f, t, key) :: q)) (hk : kc ≤ 7) : PWm_ e kc (gl9_ V f t key (nx9_ V rd f t key) kc p q (t - f).toNat).2.2 ∧ ph9_ (gl9_ V f t key (nx9_ V rd f t key) kc p q (t - f).toNat).2.2 + 1 ≤ ph9_ ((f, t, key) :: q) ∧ sz9_ (gl9_ V f t key (nx9_ V rd f t key) kc p q (t - f).toNat).2.2 ≤ sz9_ ((f, t, key) :: q) := by
  obtain ⟨⟨h1, h2, h3, h4, h5⟩, h6⟩ := h
  have e1 : ph9_ ((f, t, key) :: q) = 16 * (t - f) - 16 - key + ph9_ q := rfl
  have e2 : sz9_ ((f, t, key) :: q) = t - f + sz9_ q := rfl
  have nb : (nx9_ V rd f t key = key + 1) ∨ (nx9_ V rd f t key = 0 ∧ V f ≠ V (t - 1)) := by
    unfold nx9_
    by_cases z : V f ≠ V (t - 1) ∧ rd = 1
    · rw [if_pos z]; exact Or.inr ⟨rfl, z.1⟩
    · rw [if_neg z]; exact Or.inl rfl
  have w := gl_w (V := V) (f := f) (t := t) (key := key) (nx := nx9_ V rd f t key) (kc := kc) (p := p) (q := q) (e := e) h1 h3 (by omega) h6 (t - f).toNat (by omega)
  obtain ⟨⟨w1, w2, w3⟩, w4, w5, w6⟩ := w
  have w7 := w3 (by omega) (by omega)
  refine ⟨w4, ?_, by omega⟩
  rcases w6 with c | c | c
  · obtain ⟨c1, -, -⟩ := c
    omega
  · omega
  · obtain ⟨-, -, c | ⟨c1, c2⟩⟩ := c
    · omega
    · rcases nb with nb | nb
      · omega
      · exact absurd c1.symm nb.2
theorem sg_w {WW : Int → Int → Int → Int} {rd kc f t key e : Int} {o p : Int → Int} {q : Pl_} (h : PWm_ e kc ((f, t, key) :: q)) (hk : kc ≤ 7) : PWm_ e kc (sg9_ WW rd kc f t key o p q).2.2 ∧ ph9_ (sg9_ WW rd kc f t key o p q).2.2 + 1 ≤ ph9_ ((f, t, key) :: q) ∧ sz9_ (sg9_ WW rd kc f t key o p q).2.2 ≤ sz9_ ((f, t, key) :: q) := gl_d (V := fun k => WW key (bt9_ o f (t - f).toNat) (som9_ (WW key (bt9_ o f (t - f).toNat)) f (t - f - 1).toNat o k)) (rd := rd) (p := p) h hk
/-- more time than the pile needs changes nothing -/
theorem rk_m {WW : Int → Int → Int → Int} {rd kc e : Int} (hk : kc ≤ 7) : ∀ (n m : Nat) (o p : Int → Int) (q : Pl_), PWm_ e kc q → ph9_ q ≤ (n : Int) → ph9_ q ≤ (m : Int) → rk9_ WW rd kc n o p q = rk9_ WW rd kc m o p q := by
  have big : ∀ (f t key : Int) (q : Pl_), PWm_ e kc ((f, t, key) :: q) → 9 ≤ ph9_ ((f, t, key) :: q) := fun f t key q h => by
    have i := ph_0 hk h.2
    have e1 : ph9_ ((f, t, key) :: q) = 16 * (t - f) - 16 - key + ph9_ q := rfl
    have := h.1
    omega
  intro n
  induction n with
  | zero =>
    intro m o p q h a b
    cases q with
    | nil => rw [rk_0, rk_0]
    | cons x q =>
      obtain ⟨f, t, key⟩ := x
      have := big f t key q h
      omega
  | succ n ih =>
    intro m o p q h a b
    cases q with
    | nil => rw [rk_0, rk_0]
    | cons x q =>
      obtain ⟨f, t, key⟩ := x
      have g := big f t key q h
      cases m with
      | zero => omega
      | succ m =>
        have w := sg_w (WW := WW) (rd := rd) (o := o) (p := p) h hk
        rw [rk_s, rk_s]
        exact ih m _ _ _ w.1 (by omega) (by omega)
