-- bans: matches in the order of their days
abbrev Dy_ : Type := Int × Int
/-- all that count, in order, as far as a place in it -/
noncomputable def bf_ (day : Int → Int) (rel : Int → Prop) (st : Int → Dy_ → Dy_) (f n : Int) : Nat → Dy_
  | 0 => (0, 0)
  | K + 1 => cz_ (f ≤ (K : Int) % 400 ∧ (K : Int) % 400 < f + n ∧ day ((K : Int) % 400) = (K : Int) / 400 ∧ rel ((K : Int) % 400)) (st ((K : Int) % 400) (bf_ day rel st f n K)) (bf_ day rel st f n K)
theorem bf_t {day : Int → Int} {rel : Int → Prop} {st : Int → Dy_ → Dy_} {f n : Int} {K : Nat} (h : f ≤ (K : Int) % 400 ∧ (K : Int) % 400 < f + n ∧ day ((K : Int) % 400) = (K : Int) / 400 ∧ rel ((K : Int) % 400)) : bf_ day rel st f n (K + 1) = st ((K : Int) % 400) (bf_ day rel st f n K) := cz_t h
theorem bf_f {day : Int → Int} {rel : Int → Prop} {st : Int → Dy_ → Dy_} {f n : Int} {K : Nat} (h : ¬ (f ≤ (K : Int) % 400 ∧ (K : Int) % 400 < f + n ∧ day ((K : Int) % 400) = (K : Int) / 400 ∧ rel ((K : Int) % 400))) : bf_ day rel st f n (K + 1) = bf_ day rel st f n K := cz_f h
/-- where none counts, nothing is done -/
theorem bf_g {day : Int → Int} {rel : Int → Prop} {st : Int → Dy_ → Dy_} {f n : Int} (A : Nat) : ∀ t : Nat, (∀ m, f ≤ m → m < f + n → rel m → (A : Int) ≤ day m * 400 + m → ¬ day m * 400 + m < (A : Int) + (t : Int)) → bf_ day rel st f n (A + t) = bf_ day rel st f n A
  | 0, _ => rfl
  | t + 1, h => by
    show bf_ day rel st f n (A + t + 1) = _
    rw [bf_f (fun c => h _ c.1 c.2.1 c.2.2.2 (by rw [c.2.2.1]; omega) (by rw [c.2.2.1]; omega))]
    exact bf_g A t (fun m a b c d e => h m a b c d (by omega))
theorem bf_i {day : Int → Int} {rel : Int → Prop} {st : Int → Dy_ → Dy_} {f n A B : Int} (h0 : 0 ≤ A) (h1 : A ≤ B) (h : ∀ m, f ≤ m → m < f + n → rel m → A ≤ day m * 400 + m → ¬ day m * 400 + m < B) : bf_ day rel st f n B.toNat = bf_ day rel st f n A.toNat := by
  rw [show B.toNat = A.toNat + (B - A).toNat by omega]
  exact bf_g A.toNat (B - A).toNat (fun m a b c d e => h m a b c (by omega) (by omega))
theorem bf_s {day : Int → Int} {rel : Int → Prop} {st : Int → Dy_ → Dy_} {f n m : Int} (m0 : 0 ≤ m) (m1 : m < 400) (d0 : 0 ≤ day m) (hf : f ≤ m) (hn : m < f + n) (hr : rel m) : bf_ day rel st f n (day m * 400 + m + 1).toNat = st m (bf_ day rel st f n (day m * 400 + m).toNat) := by
  rw [show (day m * 400 + m + 1).toNat = (day m * 400 + m).toNat + 1 by omega]
  have e1 : (((day m * 400 + m).toNat : Nat) : Int) % 400 = m := by omega
  have e2 : (((day m * 400 + m).toNat : Nat) : Int) / 400 = day m := by omega
  rw [bf_t (by rw [e1, e2]; exact ⟨hf, hn, rfl, hr⟩), e1]
theorem bf_n {day : Int → Int} {rel : Int → Prop} {st : Int → Dy_ → Dy_} {f n m : Int} (m0 : 0 ≤ m) (m1 : m < 400) (d0 : 0 ≤ day m) (hr : ¬ rel m) : bf_ day rel st f n (day m * 400 + m + 1).toNat = bf_ day rel st f n (day m * 400 + m).toNat := by
  rw [show (day m * 400 + m + 1).toNat = (day m * 400 + m).toNat + 1 by omega]
  have e1 : (((day m * 400 + m).toNat : Nat) : Int) % 400 = m := by omega
  rw [bf_f (by rw [e1]; exact fun c => hr c.2.2.2)]
theorem bf_c {day day' : Int → Int} {rel rel' : Int → Prop} {st st' : Int → Dy_ → Dy_} {f n : Int} (hd : ∀ m, f ≤ m → m < f + n → day' m = day m) (hr : ∀ m, f ≤ m → m < f + n → (rel' m ↔ rel m)) (hs : ∀ m, f ≤ m → m < f + n → rel m → st' m = st m) : ∀ K : Nat, bf_ day' rel' st' f n K = bf_ day rel st f n K
  | 0 => rfl
  | K + 1 => by
    by_cases z : f ≤ (K : Int) % 400 ∧ (K : Int) % 400 < f + n ∧ day ((K : Int) % 400) = (K : Int) / 400 ∧ rel ((K : Int) % 400)
    · have z' : f ≤ (K : Int) % 400 ∧ (K : Int) % 400 < f + n ∧ day' ((K : Int) % 400) = (K : Int) / 400 ∧ rel' ((K : Int) % 400) := ⟨z.1, z.2.1, (hd _ z.1 z.2.1).trans z.2.2.1, (hr _ z.1 z.2.1).mpr z.2.2.2⟩
      rw [bf_t z, bf_t z', bf_c hd hr hs K, hs _ z.1 z.2.1 z.2.2.2]
    · have z' : ¬ (f ≤ (K : Int) % 400 ∧ (K : Int) % 400 < f + n ∧ day' ((K : Int) % 400) = (K : Int) / 400 ∧ rel' ((K : Int) % 400)) := fun c => z ⟨c.1, c.2.1, (hd _ c.1 c.2.1).symm.trans c.2.2.1, (hr _ c.1 c.2.1).mp c.2.2.2⟩
      rw [bf_f z, bf_f z', bf_c hd hr hs K]
/-- what a match does to debt and yellow cards: kd 0 nothing, 1 sent off, 2 cards yv -/
noncomputable def sbn_ (red cards : Int) (kd yv : Int → Int) (m : Int) (x : Dy_) : Dy_ :=
  cz_ (kd m = 1) (wr_ (wr_ (x.1 - cz_ (0 < x.1) 1 0) + red), x.2) (cz_ (kd m = 2) (wr_ (wr_ (x.1 - cz_ (0 < x.1) 1 0) + cz_ (0 < cards ∧ dq_ x.2 cards < dq_ (wr_ (x.2 + yv m)) cards) 1 0), wr_ (x.2 + yv m)) (wr_ (x.1 - cz_ (0 < x.1) 1 0), x.2))
theorem sbn_1 {red cards : Int} {kd yv : Int → Int} {m : Int} {x : Dy_} (h : kd m = 1) : sbn_ red cards kd yv m x = (wr_ (wr_ (x.1 - cz_ (0 < x.1) 1 0) + red), x.2) := cz_t h
theorem sbn_2 {red cards : Int} {kd yv : Int → Int} {m : Int} {x : Dy_} (h : kd m = 2) : sbn_ red cards kd yv m x = (wr_ (wr_ (x.1 - cz_ (0 < x.1) 1 0) + cz_ (0 < cards ∧ dq_ x.2 cards < dq_ (wr_ (x.2 + yv m)) cards) 1 0), wr_ (x.2 + yv m)) := by
  unfold sbn_
  rw [cz_f (by omega), cz_t h]
theorem sbn_0 {red cards : Int} {kd yv : Int → Int} {m : Int} {x : Dy_} (h : kd m ≠ 1) (g : kd m ≠ 2) : sbn_ red cards kd yv m x = (wr_ (x.1 - cz_ (0 < x.1) 1 0), x.2) := by
  unfold sbn_
  rw [cz_f h, cz_f g]
-- a list of those that count, in order
def LHD_ (day : Int → Int) (rel : Int → Prop) (L : Int → Int) (f k kp x : Int) : Prop :=
  (∀ j, 0 ≤ j → j < x → f ≤ L j ∧ L j < f + k ∧ rel (L j) ∧ day (L j) * 400 + L j < kp) ∧ (∀ i j, 0 ≤ i → i < j → j < x → day (L i) * 400 + L i < day (L j) * 400 + L j) ∧ ∀ m, f ≤ m → m < f + k → rel m → day m * 400 + m < kp → ∃ j, 0 ≤ j ∧ j < x ∧ L j = m
theorem lhd_0 {day : Int → Int} {rel : Int → Prop} {L : Int → Int} {f kp : Int} : LHD_ day rel L f 0 kp 0 := ⟨fun j a b => by omega, fun i j a b c => by omega, fun m a b => by omega⟩
theorem lhd_n {day : Int → Int} {rel : Int → Prop} {L : Int → Int} {f k kp x : Int} (h : LHD_ day rel L f k kp x) (hn : ¬ (rel (f + k) ∧ day (f + k) * 400 + (f + k) < kp)) : LHD_ day rel L f (k + 1) kp x := by
  refine ⟨fun j a b => ?_, h.2.1, fun m a b c d => ?_⟩
  · have y := h.1 j a b
    exact ⟨y.1, by omega, y.2.2⟩
  · by_cases z : m = f + k
    · exact absurd ⟨z ▸ c, z ▸ d⟩ hn
    · exact h.2.2 m a (by omega) c d
theorem lhd_e {day : Int → Int} {rel : Int → Prop} {L L' : Int → Int} {f k kp x : Int} (h : LHD_ day rel L f k kp x) (e : ∀ j, 0 ≤ j → j < x → L' j = L j) : LHD_ day rel L' f k kp x := by
  refine ⟨fun j a b => ?_, fun i j a b c => ?_, fun m a b c d => ?_⟩
  · rw [e j a b]; exact h.1 j a b
  · rw [e i a (by omega), e j (by omega) c]; exact h.2.1 i j a b c
  · obtain ⟨j, j0, j1, j2⟩ := h.2.2 m a b c d
    exact ⟨j, j0, j1, by rw [e j j0 j1]; exact j2⟩
/-- one more is put where it belongs -/
theorem lhd_i {day : Int → Int} {rel : Int → Prop} {L L' : Int → Int} {f k kp x t m : Int} (h : LHD_ day rel L f k kp x) (hm : m = f + k) (h0 : 0 ≤ f) (h4 : f + k < 400) (k0 : 0 ≤ k) (hr : rel m) (hk : day m * 400 + m < kp) (t0 : 0 ≤ t) (t1 : t ≤ x) (g1 : ∀ j, t ≤ j → j < x → day m < day (L j)) (g2 : t = 0 ∨ day (L (t - 1)) ≤ day m) (e1 : ∀ j, 0 ≤ j → j < t → L' j = L j) (e2 : L' t = m) (e3 : ∀ j, t < j → j ≤ x → L' j = L (j - 1)) : LHD_ day rel L' f (k + 1) kp (x + 1) := by
  have lo : ∀ j, 0 ≤ j → j < t → day (L j) * 400 + L j < day m * 400 + m := fun j a b => by
    have y1 := h.1 j a (by omega)
    have y2 := h.1 (t - 1) (by omega) (by omega)
    rcases g2 with z | z
    · omega
    · by_cases w : j = t - 1
      · rw [w] at y1 ⊢; omega
      · have y3 := h.2.1 j (t - 1) a (by omega) (by omega)
        omega
  have hi : ∀ j, t ≤ j → j < x → day m * 400 + m < day (L j) * 400 + L j := fun j a b => by
    have y1 := g1 j a b
    have y2 := h.1 j (by omega) b
    omega
  refine ⟨fun j a b => ?_, fun i j a b c => ?_, fun q a b c d => ?_⟩
  · rcases Int.lt_trichotomy j t with z | z | z
    · rw [e1 j a z]
      have y := h.1 j a (by omega)
      exact ⟨y.1, by omega, y.2.2⟩
    · rw [z, e2]
      exact ⟨by omega, by omega, hr, hk⟩
    · rw [e3 j z (by omega)]
      have y := h.1 (j - 1) (by omega) (by omega)
      exact ⟨y.1, by omega, y.2.2⟩
  · rcases Int.lt_trichotomy j t with z | z | z
    · rw [e1 i a (by omega), e1 j (by omega) z]; exact h.2.1 i j a b (by omega)
    · rw [z, e2, e1 i a (by omega)]; exact lo i a (by omega)
    · rw [e3 j z (by omega)]
      rcases Int.lt_trichotomy i t with w | w | w
      · rw [e1 i a w]
        by_cases u : i = j - 1
        · omega
        · exact h.2.1 i (j - 1) a (by omega) (by omega)
      · rw [w, e2]; exact hi (j - 1) (by omega) (by omega)
      · rw [e3 i w (by omega)]; exact h.2.1 (i - 1) (j - 1) (by omega) (by omega) (by omega)
  · by_cases z : q = m
    · exact ⟨t, t0, by omega, by rw [e2, z]⟩
    · obtain ⟨j, j0, j1, j2⟩ := h.2.2 q a (by omega) c d
      by_cases w : j < t
      · exact ⟨j, j0, by omega, by rw [e1 j j0 w]; exact j2⟩
      · exact ⟨j + 1, by omega, by omega, by rw [e3 (j + 1) (by omega) (by omega), show j + 1 - 1 = j from Int.le_antisymm (by omega) (by omega)]; exact j2⟩
/-- the next one behind lo, ahead of hi -/
def NXM_ (day : Int → Int) (f n lo hi x : Int) : Prop := (x = -1 ∧ ∀ m, f ≤ m → m < f + n → lo < day m * 400 + m → ¬ day m * 400 + m < hi) ∨ ((f ≤ x ∧ x < f + n ∧ lo < day x * 400 + x ∧ day x * 400 + x < hi) ∧ ∀ m, f ≤ m → m < f + n → lo < day m * 400 + m → day m * 400 + m < hi → day x * 400 + x ≤ day m * 400 + m)
theorem nxm_0 {day : Int → Int} {f lo hi : Int} : NXM_ day f 0 lo hi (-1) := Or.inl ⟨rfl, fun m a b => by omega⟩
theorem nxm_k {day : Int → Int} {f n lo hi x : Int} (h : NXM_ day f n lo hi x) (c : ¬ (lo < day (f + n) * 400 + (f + n) ∧ day (f + n) * 400 + (f + n) < hi) ∨ (x ≠ -1 ∧ day x * 400 + x ≤ day (f + n) * 400 + (f + n))) : NXM_ day f (n + 1) lo hi x := by
  rcases h with ⟨z, h⟩ | ⟨z, h⟩
  · refine Or.inl ⟨z, fun m a b d e => ?_⟩
    by_cases w : m = f + n
    · rcases c with c | c
      · exact c ⟨by rw [w] at d; exact d, by rw [w] at e; exact e⟩
      · exact c.1 z
    · exact h m a (by omega) d e
  · refine Or.inr ⟨⟨z.1, by omega, z.2.2⟩, fun m a b d e => ?_⟩
    by_cases w : m = f + n
    · rcases c with c | c
      · exact absurd ⟨by rw [w] at d; exact d, by rw [w] at e; exact e⟩ c
      · rw [w]; exact c.2
    · exact h m a (by omega) d e
theorem nxm_t {day : Int → Int} {f n lo hi x : Int} (h : NXM_ day f n lo hi x) (f0 : 0 ≤ f) (n0 : 0 ≤ n) (c : lo < day (f + n) * 400 + (f + n) ∧ day (f + n) * 400 + (f + n) < hi) (d : x = -1 ∨ day (f + n) * 400 + (f + n) ≤ day x * 400 + x) : NXM_ day f (n + 1) lo hi (f + n) := by
  refine Or.inr ⟨⟨by omega, by omega, c.1, c.2⟩, fun m a b e g => ?_⟩
  by_cases w : m = f + n
  · rw [w]; exact Int.le_refl _
  · rcases h with ⟨z, h⟩ | ⟨z, h⟩
    · exact absurd g (h m a (by omega) e)
    · rcases d with d | d
      · exact absurd z.1 (by omega)
      · have y := h m a (by omega) e g
        omega
theorem sb_d {d : Int} (hd : 0 ≤ d ∧ d ≤ 1000000) {d1 : Int} (e : (0 < d ∧ d1 = d - 1) ∨ (¬ 0 < d ∧ d1 = d)) : wr_ (d - cz_ (0 < d) 1 0) = d1 := by
  rcases e with ⟨z, e⟩ | ⟨z, e⟩
  · rw [cz_t z, wr_9 (by omega), e]
  · rw [cz_f z, wr_9 (by omega), e]; omega
theorem sb_0 {red cards : Int} {kd yv : Int → Int} {m d y d2 : Int} (hk : kd m = 0) (hd : 0 ≤ d ∧ d ≤ 1000000) (e : (0 < d ∧ d2 = d - 1) ∨ (¬ 0 < d ∧ d2 = d)) : (d2, y) = sbn_ red cards kd yv m (d, y) := by
  rw [sbn_0 (by omega) (by omega)]
  show (d2, y) = (wr_ (d - cz_ (0 < d) 1 0), y)
  rw [sb_d hd e]
theorem sb_1 {red cards : Int} {kd yv : Int → Int} {m d y d1 d2 : Int} (hk : kd m = 1) (hd : 0 ≤ d ∧ d ≤ 1000000) (hr : 0 ≤ red ∧ red ≤ 1000) (e : (0 < d ∧ d1 = d - 1) ∨ (¬ 0 < d ∧ d1 = d)) (e2 : d2 = d1 + red) : (d2, y) = sbn_ red cards kd yv m (d, y) := by
  rw [sbn_1 hk]
  show (d2, y) = (wr_ (wr_ (d - cz_ (0 < d) 1 0) + red), y)
  rw [sb_d hd e, wr_9 (by omega), e2]
theorem sb_2 {red cards : Int} {kd yv : Int → Int} {m d y d1 d2 y2 : Int} (hk : kd m = 2) (hd : 0 ≤ d ∧ d ≤ 1000000) (e : (0 < d ∧ d1 = d - 1) ∨ (¬ 0 < d ∧ d1 = d)) (e2 : ((0 < cards ∧ dq_ y cards < dq_ (wr_ (y + yv m)) cards) ∧ d2 = d1 + 1) ∨ (¬ (0 < cards ∧ dq_ y cards < dq_ (wr_ (y + yv m)) cards) ∧ d2 = d1)) (ey : y2 = wr_ (y + yv m)) : (d2, y2) = sbn_ red cards kd yv m (d, y) := by
  rw [sbn_2 hk]
  show (d2, y2) = (wr_ (wr_ (d - cz_ (0 < d) 1 0) + cz_ (0 < cards ∧ dq_ y cards < dq_ (wr_ (y + yv m)) cards) 1 0), wr_ (y + yv m))
  rw [sb_d hd e, ey]
  rcases e2 with ⟨z, e2⟩ | ⟨z, e2⟩
  · rw [cz_t z, wr_9 (x := d1 + 1) (by omega), e2]
  · rw [cz_f z, Int.add_zero, wr_9 (x := d1) (by omega), e2]
/-- the first of a list: nothing is done before it -/
theorem bf_L0 {day : Int → Int} {rel : Int → Prop} {st : Int → Dy_ → Dy_} {L : Int → Int} {f n kp x B : Int} (h : LHD_ day rel L f n kp x) (b0 : 0 ≤ B) (h1 : 0 < x → B = day (L 0) * 400 + L 0) (h2 : ¬ 0 < x → B = kp) : bf_ day rel st f n B.toNat = (0, 0) := by
  rw [bf_i (A := 0) (B := B) (by omega) b0 (fun m a b c d e => ?_)]
  · rfl
  · by_cases z : 0 < x
    · have y := h1 z
      have y0 := (h.1 0 (by omega) z).2.2.2
      obtain ⟨j, j0, j1, j2⟩ := h.2.2 m a b c (by omega)
      by_cases w : j = 0
      · rw [w] at j2; rw [j2] at y; omega
      · have q := h.2.1 0 j (by omega) (by omega) j1
        rw [j2] at q; omega
    · obtain ⟨j, j0, j1, j2⟩ := h.2.2 m a b c (by have := h2 z; omega)
      omega
theorem bf_Ls {day : Int → Int} {rel : Int → Prop} {st : Int → Dy_ → Dy_} {L : Int → Int} {f n kp x B k : Int} (h : LHD_ day rel L f n kp x) (f0 : 0 ≤ f) (f4 : f + n ≤ 400) (dp : ∀ m, f ≤ m → m < f + n → 0 ≤ day m) (k0 : 0 ≤ k) (k1 : k < x) (h1 : k + 1 < x → B = day (L (k + 1)) * 400 + L (k + 1)) (h2 : ¬ k + 1 < x → B = kp) : bf_ day rel st f n B.toNat = st (L k) (bf_ day rel st f n (day (L k) * 400 + L k).toNat) := by
  have y := h.1 k k0 k1
  have d0 := dp (L k) y.1 y.2.1
  have hb : day (L k) * 400 + L k < B := by
    by_cases z : k + 1 < x
    · rw [h1 z]; exact h.2.1 k (k + 1) k0 (by omega) z
    · rw [h2 z]; exact y.2.2.2
  rw [← bf_s (st := st) (by omega) (by omega) d0 y.1 y.2.1 y.2.2.1]
  refine bf_i (by omega) (by omega) (fun m a b c d e => ?_)
  by_cases z : k + 1 < x
  · have yb := h1 z
    have y2 := (h.1 (k + 1) (by omega) z).2.2.2
    obtain ⟨j, j0, j1, j2⟩ := h.2.2 m a b c (by omega)
    rcases Int.lt_trichotomy j k with w | w | w
    · have q := h.2.1 j k j0 w k1
      rw [j2] at q; omega
    · rw [w] at j2; rw [j2] at d; omega
    · by_cases u : j = k + 1
      · rw [u] at j2; rw [j2] at yb; omega
      · have q := h.2.1 (k + 1) j (by omega) (by omega) j1
        rw [j2] at q; omega
  · have yb := h2 z
    obtain ⟨j, j0, j1, j2⟩ := h.2.2 m a b c (by omega)
    rcases Int.lt_trichotomy j k with w | w | w
    · have q := h.2.1 j k j0 w k1
      rw [j2] at q; omega
    · rw [w] at j2; rw [j2] at d; omega
    · omega
-- where a person is on the sheets
def plN_ (T : Zt) (m q s : Int) : Nat → Int → Int
  | 0, _ => -1
  | n + 1, i => if T 448 m (s * 10 + i) = q then s * 10 + i else plN_ T m q s n (i + 1)
theorem plN_t {T : Zt} {m q s i : Int} {n : Nat} (h : T 448 m (s * 10 + i) = q) : plN_ T m q s (n + 1) i = s * 10 + i := if_pos h
theorem plN_f {T : Zt} {m q s i : Int} {n : Nat} (h : T 448 m (s * 10 + i) ≠ q) : plN_ T m q s (n + 1) i = plN_ T m q s n (i + 1) := if_neg h
noncomputable def plc_ (T : Zt) (m q : Int) : Int := cz_ (plN_ T m q 0 (T 449 m 0).toNat 0 ≠ -1) (plN_ T m q 0 (T 449 m 0).toNat 0) (plN_ T m q 1 (T 449 m 1).toNat 0)
theorem plN_b {T : Zt} {m q s : Int} : ∀ (n : Nat) (i : Int), plN_ T m q s n i = -1 ∨ (s * 10 + i ≤ plN_ T m q s n i ∧ plN_ T m q s n i < s * 10 + i + n ∧ T 448 m (plN_ T m q s n i) = q)
  | 0, _ => Or.inl rfl
  | n + 1, i => by
    by_cases z : T 448 m (s * 10 + i) = q
    · rw [plN_t z]; exact Or.inr ⟨Int.le_refl _, by omega, z⟩
    · rw [plN_f z]
      rcases plN_b (T := T) (m := m) (q := q) (s := s) n (i + 1) with y | y
      · exact Or.inl y
      · exact Or.inr ⟨by omega, by omega, y.2.2⟩
theorem plc_0 {T : Zt} {m q : Int} (h : plN_ T m q 0 (T 449 m 0).toNat 0 ≠ -1) : plc_ T m q = plN_ T m q 0 (T 449 m 0).toNat 0 := cz_t h
theorem plc_1 {T : Zt} {m q : Int} (h : plN_ T m q 0 (T 449 m 0).toNat 0 = -1) : plc_ T m q = plN_ T m q 1 (T 449 m 1).toNat 0 := cz_f (fun c => c h)
theorem plc_b {T : Zt} {m q : Int} (h0 : T 449 m 0 ≤ 10) (h1 : T 449 m 1 ≤ 10) : plc_ T m q = -1 ∨ (0 ≤ plc_ T m q ∧ plc_ T m q < 20 ∧ T 448 m (plc_ T m q) = q) := by
  by_cases z : plN_ T m q 0 (T 449 m 0).toNat 0 = -1
  · rw [plc_1 z]
    rcases plN_b (T := T) (m := m) (q := q) (s := 1) (T 449 m 1).toNat 0 with y | y
    · exact Or.inl y
    · exact Or.inr ⟨by omega, by omega, y.2.2⟩
  · rw [plc_0 z]
    rcases plN_b (T := T) (m := m) (q := q) (s := 0) (T 449 m 0).toNat 0 with y | y
    · exact Or.inl y
    · exact Or.inr ⟨by omega, by omega, y.2.2⟩
/-- which matches count for a person's bans, as the house tells them -/
def rlH_ (T : Zt) (q m : Int) : Prop := (T 102 m 6 ≠ -1 ∨ (T 102 m 10 ≠ 0 ∧ T 103 m 3 ≠ 0)) ∧ (T 102 m 3 = co9_c T q (T 102 m 5) ∨ T 102 m 4 = co9_c T q (T 102 m 5))
noncomputable def kdH_ (T : Zt) (q m : Int) : Int := cz_ (T 102 m 10 = 0 ∨ plc_ T m q = -1) 0 (cz_ (T 472 m (plc_ T m q) = 3) 1 2)
noncomputable def yvH_ (T : Zt) (q m : Int) : Int := T 473 m (plc_ T m q)
theorem kdH_0 {T : Zt} {q m : Int} (h : T 102 m 10 = 0 ∨ plc_ T m q = -1) : kdH_ T q m = 0 := cz_t h
theorem kdH_1 {T : Zt} {q m : Int} (h : ¬ (T 102 m 10 = 0 ∨ plc_ T m q = -1)) (g : T 472 m (plc_ T m q) = 3) : kdH_ T q m = 1 := by
  unfold kdH_
  rw [cz_f h, cz_t g]
theorem kdH_2 {T : Zt} {q m : Int} (h : ¬ (T 102 m 10 = 0 ∨ plc_ T m q = -1)) (g : T 472 m (plc_ T m q) ≠ 3) : kdH_ T q m = 2 := by
  unfold kdH_
  rw [cz_f h, cz_f g]
/-- whether a person is banned, as the house tells it -/
noncomputable def bnH_ (T : Zt) (q p : Int) : Int := (bf_ (fun m => T 102 m 5) (rlH_ T q) (sbn_ (T 401 (T 102 p 0) 14) (T 401 (T 102 p 0) 13) (kdH_ T q) (yvH_ T q)) (T 100 (T 102 p 0) 7) (T 100 (T 102 p 0) 8) (T 102 p 5 * 400 + p).toNat).1
/-- as the reference tells it -/
def rlR_ (T : Zt) (q m : Int) : Prop := (T 235 0 m = 2 ∨ T 235 0 m = 3) ∧ co9_c T q (T 234 0 m) ≠ -1 ∧ (co9_c T q (T 234 0 m) = T 232 0 m ∨ co9_c T q (T 234 0 m) = T 233 0 m)
noncomputable def slc_ (T : Zt) (m q : Int) : Int := cz_ (ab9_ m (slR_ (rp9_ T m) 0 q) ≠ -1) (ab9_ m (slR_ (rp9_ T m) 0 q)) (ab9_ m (slR_ (rp9_ T m) 1 q))
noncomputable def kdR_ (T : Zt) (q m : Int) : Int := cz_ (T 235 0 m = 2 ∧ slc_ T m q ≠ -1) (cz_ (T 243 0 (slc_ T m q) = 1) 1 2) 0
noncomputable def yvR_ (T : Zt) (q m : Int) : Int := T 242 0 (slc_ T m q)
noncomputable def bnR_ (T : Zt) (q p : Int) : Int := (bf_ (fun m => T 234 0 m) (rlR_ T q) (sbn_ (T 205 0 (23 * T 230 0 p + 14)) (T 205 0 (23 * T 230 0 p + 13)) (kdR_ T q) (yvR_ T q)) (T 210 0 (T 230 0 p)) (T 211 0 (T 230 0 p)) (T 234 0 p * 400 + p).toNat).1
theorem kdR_0 {T : Zt} {q m : Int} (h : ¬ (T 235 0 m = 2 ∧ slc_ T m q ≠ -1)) : kdR_ T q m = 0 := cz_f h
theorem kdR_1 {T : Zt} {q m : Int} (h : T 235 0 m = 2 ∧ slc_ T m q ≠ -1) (g : T 243 0 (slc_ T m q) = 1) : kdR_ T q m = 1 := by
  unfold kdR_
  rw [cz_t h, cz_t g]
theorem kdR_2 {T : Zt} {q m : Int} (h : T 235 0 m = 2 ∧ slc_ T m q ≠ -1) (g : T 243 0 (slc_ T m q) ≠ 1) : kdR_ T q m = 2 := by
  unfold kdR_
  rw [cz_t h, cz_f g]
theorem slc_0 {T : Zt} {m q a : Int} (e : a = ab9_ m (slR_ (rp9_ T m) 0 q)) (h : a ≠ -1) : slc_ T m q = a := by
  unfold slc_
  rw [← e, cz_t h]
theorem slc_1 {T : Zt} {m q a b : Int} (e : a = ab9_ m (slR_ (rp9_ T m) 0 q)) (h : a = -1) (eb : b = ab9_ m (slR_ (rp9_ T m) 1 q)) : slc_ T m q = b := by
  unfold slc_
  rw [← e, ← eb, cz_f (fun c => c h)]
-- why a person may not come on a sheet
def elsH_ (T : Zt) (q p : Int) : Prop := ∃ k, 0 ≤ k ∧ k < T 106 0 4 ∧ k ≠ p ∧ T 102 k 5 = T 102 p 5 ∧ T 102 k 6 = -1 ∧ plc_ T k q ≠ -1
noncomputable def wyH_ (T : Zt) (q p d : Int) : Int := cz_ (co9_c T q (T 102 p 5) ≠ cz_ (d = 0) (T 102 p 3) (T 102 p 4)) 1 (cz_ (0 < bnH_ T q p) 2 (cz_ (plc_ T p q ≠ -1) 3 (cz_ (elsH_ T q p) 4 0)))
def elsR_ (T : Zt) (q p : Int) : Prop := ∃ k, 0 ≤ k ∧ k < T 111 0 29 ∧ k ≠ p ∧ T 234 0 k = T 234 0 p ∧ T 235 0 k ≠ 3 ∧ slc_ T k q ≠ -1
noncomputable def wyR_ (T : Zt) (q p d : Int) : Int := cz_ (co9_c T q (T 234 0 p) ≠ cz_ (d = 0) (T 232 0 p) (T 233 0 p)) 1 (cz_ (0 < bnR_ T q p) 2 (cz_ (slc_ T p q ≠ -1) 3 (cz_ (elsR_ T q p) 4 0)))
theorem wyH_1 {T : Zt} {q p d : Int} (h : co9_c T q (T 102 p 5) ≠ cz_ (d = 0) (T 102 p 3) (T 102 p 4)) : wyH_ T q p d = 1 := cz_t h
theorem wyH_2 {T : Zt} {q p d : Int} (h : ¬ co9_c T q (T 102 p 5) ≠ cz_ (d = 0) (T 102 p 3) (T 102 p 4)) (g : 0 < bnH_ T q p) : wyH_ T q p d = 2 := by
  unfold wyH_
  rw [cz_f h, cz_t g]
theorem wyH_3 {T : Zt} {q p d : Int} (h : ¬ co9_c T q (T 102 p 5) ≠ cz_ (d = 0) (T 102 p 3) (T 102 p 4)) (g : ¬ 0 < bnH_ T q p) (i : plc_ T p q ≠ -1) : wyH_ T q p d = 3 := by
  unfold wyH_
  rw [cz_f h, cz_f g, cz_t i]
theorem wyH_4 {T : Zt} {q p d : Int} (h : ¬ co9_c T q (T 102 p 5) ≠ cz_ (d = 0) (T 102 p 3) (T 102 p 4)) (g : ¬ 0 < bnH_ T q p) (i : ¬ plc_ T p q ≠ -1) (j : elsH_ T q p) : wyH_ T q p d = 4 := by
  unfold wyH_
  rw [cz_f h, cz_f g, cz_f i, cz_t j]
theorem wyH_0 {T : Zt} {q p d : Int} (h : ¬ co9_c T q (T 102 p 5) ≠ cz_ (d = 0) (T 102 p 3) (T 102 p 4)) (g : ¬ 0 < bnH_ T q p) (i : ¬ plc_ T p q ≠ -1) (j : ¬ elsH_ T q p) : wyH_ T q p d = 0 := by
  unfold wyH_
  rw [cz_f h, cz_f g, cz_f i, cz_f j]
theorem wyH_b {T : Zt} {q p d : Int} : 0 ≤ wyH_ T q p d ∧ wyH_ T q p d ≤ 4 := by
  unfold wyH_
  exact cz_p (Q := fun z : Int => 0 ≤ z ∧ z ≤ 4) (fun _ => by decide) (fun _ => cz_p (Q := fun z : Int => 0 ≤ z ∧ z ≤ 4) (fun _ => by decide) (fun _ => cz_p (Q := fun z : Int => 0 ≤ z ∧ z ≤ 4) (fun _ => by decide) (fun _ => cz_p (Q := fun z : Int => 0 ≤ z ∧ z ≤ 4) (fun _ => by decide) (fun _ => by decide))))
theorem wyR_1 {T : Zt} {q p d : Int} (h : co9_c T q (T 234 0 p) ≠ cz_ (d = 0) (T 232 0 p) (T 233 0 p)) : wyR_ T q p d = 1 := cz_t h
theorem wyR_2 {T : Zt} {q p d : Int} (h : ¬ co9_c T q (T 234 0 p) ≠ cz_ (d = 0) (T 232 0 p) (T 233 0 p)) (g : 0 < bnR_ T q p) : wyR_ T q p d = 2 := by
  unfold wyR_
  rw [cz_f h, cz_t g]
theorem wyR_3 {T : Zt} {q p d : Int} (h : ¬ co9_c T q (T 234 0 p) ≠ cz_ (d = 0) (T 232 0 p) (T 233 0 p)) (g : ¬ 0 < bnR_ T q p) (i : slc_ T p q ≠ -1) : wyR_ T q p d = 3 := by
  unfold wyR_
  rw [cz_f h, cz_f g, cz_t i]
theorem wyR_4 {T : Zt} {q p d : Int} (h : ¬ co9_c T q (T 234 0 p) ≠ cz_ (d = 0) (T 232 0 p) (T 233 0 p)) (g : ¬ 0 < bnR_ T q p) (i : ¬ slc_ T p q ≠ -1) (j : elsR_ T q p) : wyR_ T q p d = 4 := by
  unfold wyR_
  rw [cz_f h, cz_f g, cz_f i, cz_t j]
theorem wyR_0 {T : Zt} {q p d : Int} (h : ¬ co9_c T q (T 234 0 p) ≠ cz_ (d = 0) (T 232 0 p) (T 233 0 p)) (g : ¬ 0 < bnR_ T q p) (i : ¬ slc_ T p q ≠ -1) (j : ¬ elsR_ T q p) : wyR_ T q p d = 0 := by
  unfold wyR_
  rw [cz_f h, cz_f g, cz_f i, cz_f j]
theorem wyR_b {T : Zt} {q p d : Int} : 0 ≤ wyR_ T q p d ∧ wyR_ T q p d ≤ 4 := by
  unfold wyR_
  exact cz_p (Q := fun z : Int => 0 ≤ z ∧ z ≤ 4) (fun _ => by decide) (fun _ => cz_p (Q := fun z : Int => 0 ≤ z ∧ z ≤ 4) (fun _ => by decide) (fun _ => cz_p (Q := fun z : Int => 0 ≤ z ∧ z ≤ 4) (fun _ => by decide) (fun _ => cz_p (Q := fun z : Int => 0 ≤ z ∧ z ≤ 4) (fun _ => by decide) (fun _ => by decide))))
theorem sd_h {T : Zt} {q p d v w : Int} (e : v = co9_c T q (T 102 p 5)) (c : (d = 0 ∧ w = T 102 p 3) ∨ (d ≠ 0 ∧ w = T 102 p 4)) : (v = w) ↔ ¬ co9_c T q (T 102 p 5) ≠ cz_ (d = 0) (T 102 p 3) (T 102 p 4) := by
  rcases c with ⟨z, y⟩ | ⟨z, y⟩
  · rw [cz_t z, ← e, ← y]; omega
  · rw [cz_f z, ← e, ← y]; omega
theorem sd_r {T : Zt} {q p d v w : Int} (e : v = co9_c T q (T 234 0 p)) (c : (d = 0 ∧ w = T 232 0 p) ∨ (d ≠ 0 ∧ w = T 233 0 p)) : (v = w) ↔ ¬ co9_c T q (T 234 0 p) ≠ cz_ (d = 0) (T 232 0 p) (T 233 0 p) := by
  rcases c with ⟨z, y⟩ | ⟨z, y⟩
  · rw [cz_t z, ← e, ← y]; omega
  · rw [cz_f z, ← e, ← y]; omega
/-- a person comes on a sheet, as the house does it -/
def SHH_ (T T' : Zt) (b s q : Int) : Prop := T' 448 b (s * 10 + T 449 b s) = q ∧ T' 449 b s = T 449 b s + 1 ∧ (∀ i j, ¬ (i = b ∧ j = s * 10 + T 449 b s) → T' 448 i j = T 448 i j) ∧ ∀ i j, ¬ (i = b ∧ j = s) → T' 449 i j = T 449 i j
def SHN_ (T T' : Zt) : Prop := (∀ i j, T' 448 i j = T 448 i j) ∧ ∀ i j, T' 449 i j = T 449 i j
def SRR_ (T T' : Zt) (m s q : Int) : Prop := T' 240 0 (10 * (2 * m + s) + T 239 0 (2 * m + s)) = q ∧ T' 239 0 (2 * m + s) = T 239 0 (2 * m + s) + 1 ∧ (∀ j, j ≠ 10 * (2 * m + s) + T 239 0 (2 * m + s) → T' 240 0 j = T 240 0 j) ∧ ∀ j, j ≠ 2 * m + s → T' 239 0 j = T 239 0 j
theorem bk_X2_has_f_0 : ck_ fX2 (some .boolean) cX2_has 0 [.aload 0, .tableswitch 0 2 3 #[], .iload 1, .if_icmp .eq 16, .aload 0, .tableswitch 0 2 4 #[], .iload 1, .if_icmp .ne 20, .iconst 1, .goto 21] 20 = true := qck_r (nn_ _) (by decide +kernel)
theorem bs_X2_has_f_0 {P : Zt → Option Zv → Prop} (K : Int → Zl → List Zv → Zt → Prop) : sx_ K P [.aload 0, .tableswitch 0 2 3 #[], .iload 1, .if_icmp .eq 16, .aload 0, .tableswitch 0 2 4 #[], .iload 1, .if_icmp .ne 20, .iconst 1, .goto 21] 20 = x_aload 0 (x_g0 102 3 0 11 (x_iload 1 (x_if_icmp .eq 16 K (x_aload 0 (x_g0 102 4 0 11 (x_iload 1 (x_if_icmp .ne 20 K (x_iconst 1 (x_goto 21 K))))))))) := ((xe_aload 0).trans (congrArg (x_aload 0) ((xe_g0 (kk := 102) rfl tl_2_3).trans (congrArg (x_g0 102 3 0 11) ((xe_iload 1).trans (congrArg (x_iload 1) ((xe_if_icmp .eq 16).trans (congrArg (x_if_icmp .eq 16 K) ((xe_aload 0).trans (congrArg (x_aload 0) ((xe_g0 (kk := 102) rfl tl_2_4).trans (congrArg (x_g0 102 4 0 11) ((xe_iload 1).trans (congrArg (x_iload 1) ((xe_if_icmp .ne 20).trans (congrArg (x_if_icmp .ne 20 K) ((xe_iconst 1).trans (congrArg (x_iconst 1) (xe_goto 21)))))))))))))))))))
theorem bk_X2_has_f_16 : ck_ fX2 (some .boolean) cX2_has 16 [.iconst 1, .goto 21] 20 = true := qck_r (nn_ _) (by decide +kernel)
theorem bs_X2_has_f_16 {P : Zt → Option Zv → Prop} (K : Int → Zl → List Zv → Zt → Prop) : sx_ K P [.iconst 1, .goto 21] 20 = x_iconst 1 (x_goto 21 K) := ((xe_iconst 1).trans (congrArg (x_iconst 1) (xe_goto 21)))
theorem bk_X2_has_f_21 : ck_ fX2 (some .boolean) cX2_has 21 [.ireturn] 22 = true := qck_r (nn_ _) (by decide +kernel)
theorem bs_X2_has_f_21 {P : Zt → Option Zv → Prop} (K : Int → Zl → List Zv → Zt → Prop) : sx_ K P [.ireturn] 22 = x_ireturn P := (xe_ireturn)
theorem bk_X2_has_f_20 : ck_ fX2 (some .boolean) cX2_has 20 [.iconst 0, .ireturn] 22 = true := qck_r (nn_ _) (by decide +kernel)
theorem bs_X2_has_f_20 {P : Zt → Option Zv → Prop} (K : Int → Zl → List Zv → Zt → Prop) : sx_ K P [.iconst 0, .ireturn] 22 = x_iconst 0 (x_ireturn P) := ((xe_iconst 0).trans (congrArg (x_iconst 0) (xe_ireturn)))
abbrev po_X2_has_f (T : Zt) (p : Int) (c : Int) : Zt → Option Zv → Prop := fun T' r => T = T' ∧ ∃ x : Int, r = some (vI x) ∧ ((x = 1 ∧ (T 102 p 3 = c ∨ T 102 p 4 = c)) ∨ (x = 0 ∧ ¬ (T 102 p 3 = c ∨ T 102 p 4 = c)))
set_option maxHeartbeats 4000000 in
theorem ct_X2_has_f {T : Zt} {p : Int} {c : Int} : Ct_ yX2_has zX2_has T [vR 102 p, vI c] (po_X2_has_f T p c) := by
  refine ct_of pn_2 rfl rfl (Nat.le_of_ble_eq_true rfl) (fun hT hav => ?_)
  have hr_c : -2147483648 ≤ c ∧ c ≤ 2147483647 := hav (vI c) (List.mem_cons_of_mem _ List.mem_cons_self)
  have hz : zX2_has.2.2.2.1 = some .boolean → ∀ (T' : Zt) (x : Int), po_X2_has_f T p c T' (some (vI x)) → 0 ≤ x ∧ x ≤ 1 := fun _ T' x h => by obtain ⟨-, y, e, hy⟩ := h; cases e; omega
  show J_ zX2_has T (po_X2_has_f T p c) 0 0 0 [some (vR 102 p), some (vI c)] [] T
  refine j_blx (F := fX2) tb_X2 (nn_ _) bk_X2_has_f_0 bs_X2_has_f_0 hz (fun K hK => ?_)
  intro b1 b1b
  refine And.intro (fun c2 => ?_) (fun c2 => ?_)
  · refine hK 16 _ [] T ?_
    refine j_blx (F := fX2) tb_X2 (nn_ _) bk_X2_has_f_16 bs_X2_has_f_16 hz (fun K hK => ?_)
    refine hK 21 _ [vI 1] T ?_
    refine j_blx (F := fX2) tb_X2 (nn_ _) bk_X2_has_f_21 bs_X2_has_f_21 hz (fun K hK => ?_)
    refine (show po_X2_has_f T p c T (some (vI 1)) from ?_)
    exact ⟨rfl, _, rfl, Or.inl ⟨rfl, by omega⟩⟩
  · intro b3 b3b
    refine And.intro (fun c4 => ?_) (fun c4 => ?_)
    · refine hK 20 _ [] T ?_
      refine j_blx (F := fX2) tb_X2 (nn_ _) bk_X2_has_f_20 bs_X2_has_f_20 hz (fun K hK => ?_)
      refine (show po_X2_has_f T p c T (some (vI 0)) from ?_)
      exact ⟨rfl, _, rfl, Or.inr ⟨rfl, by omega⟩⟩
    · refine hK 21 _ [vI 1] T ?_
      refine j_blx (F := fX2) tb_X2 (nn_ _) bk_X2_has_f_21 bs_X2_has_f_21 hz (fun K hK => ?_)
      refine (show po_X2_has_f T p c T (some (vI 1)) from ?_)
      exact ⟨rfl, _, rfl, Or.inl ⟨rfl, by omega⟩⟩
theorem bk_X2_placeOf_f_9 : ck_ fX2 (some .int) cX2_placeOf 9 [.iload 3, .aload 0, .tableswitch 0 2 9 #[], .iload 2, .iaload, .if_icmp .ge 47, .aload 0, .tableswitch 0 2 8 #[], .iload 2, .iconst 10, .imul, .iload 3, .iadd, .iaload, .iload 1, .if_icmp .ne 41, .iload 2, .iconst 10, .imul, .iload 3, .iadd, .ireturn] 41 = true := qck_r (nn_ _) (by decide +kernel)
theorem bs_X2_placeOf_f_9 {P : Zt → Option Zv → Prop} (K : Int → Zl → List Zv → Zt → Prop) : sx_ K P [.iload 3, .aload 0, .tableswitch 0 2 9 #[], .iload 2, .iaload, .if_icmp .ge 47, .aload 0, .tableswitch 0 2 8 #[], .iload 2, .iconst 10, .imul, .iload 3, .iadd, .iaload, .iload 1, .if_icmp .ne 41, .iload 2, .iconst 10, .imul, .iload 3, .iadd, .ireturn] 41 = x_iload 3 (x_aload 0 (x_g2 102 449 (x_iload 2 (x_iaload (x_if_icmp .ge 47 K (x_aload 0 (x_g2 102 448 (x_iload 2 (x_iconst 10 (x_imul (x_iload 3 (x_iadd (x_iaload (x_iload 1 (x_if_icmp .ne 41 K (x_iload 2 (x_iconst 10 (x_imul (x_iload 3 (x_iadd (x_ireturn P))))))))))))))))))))) := ((xe_iload 3).trans (congrArg (x_iload 3) ((xe_aload 0).trans (congrArg (x_aload 0) ((xe_g2 (kk := 102) rfl tl_2_9).trans (congrArg (x_g2 102 449) ((xe_iload 2).trans (congrArg (x_iload 2) ((xe_iaload).trans (congrArg (x_iaload) ((xe_if_icmp .ge 47).trans (congrArg (x_if_icmp .ge 47 K) ((xe_aload 0).trans (congrArg (x_aload 0) ((xe_g2 (kk := 102) rfl tl_2_8).trans (congrArg (x_g2 102 448) ((xe_iload 2).trans (congrArg (x_iload 2) ((xe_iconst 10).trans (congrArg (x_iconst 10) ((xe_imul).trans (congrArg (x_imul) ((xe_iload 3).trans (congrArg (x_iload 3) ((xe_iadd).trans (congrArg (x_iadd) ((xe_iaload).trans (congrArg (x_iaload) ((xe_iload 1).trans (congrArg (x_iload 1) ((xe_if_icmp .ne 41).trans (congrArg (x_if_icmp .ne 41 K) ((xe_iload 2).trans (congrArg (x_iload 2) ((xe_iconst 10).trans (congrArg (x_iconst 10) ((xe_imul).trans (congrArg (x_imul) ((xe_iload 3).trans (congrArg (x_iload 3) ((xe_iadd).trans (congrArg (x_iadd) (xe_ireturn)))))))))))))))))))))))))))))))))))))))))))
