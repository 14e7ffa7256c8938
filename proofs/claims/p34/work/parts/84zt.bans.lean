-- bans: matches in the order of their days
abbrev Dy_ : Type := Int × Int
/-- all that count, in order, as far as a place in it -/
noncomputable def bf_ (day : Int → Int) (rel : Int → Prop) (st : Int → Dy_ → Dy_) (f n : Int) : Nat → Dy_
  | 0 => (0, 0)
  | K + 1 => cz_ (f ≤ (K : Int) % 400 ∧ (K : Int) % 400 < f + n ∧ day ((K : Int) % 400) = (K : Int) / 400 ∧ rel ((K : Int) % 400)) (st ((K : Int) % 400) (bf_ day rel st f n K)) (bf_ day rel st f n K)
theorem bf_t {day : Int → Int} {rel : Int → Prop} {st : Int → Dy_ → Dy_} {f n : Int} {K : Nat} (h : f ≤ (K : Int) % 400 ∧ (K : Int) % 400 < f + n ∧ day ((K : Int) % 400) = (K : Int) / 400 ∧ rel ((K : Int) % 400)) : bf_ day rel st f n (K + 1) = st ((K : Int) % 400) (bf_ day rel st f n K) := cz_t h
theorem bf_f {day : Int → Int} {rel : Int → Prop} {st : Int → Dy_ → Dy_} {f n : Int} {K : Nat} (h : ¬ (f ≤ (K : Int) % 400 ∧ (K : Int) % 400 < f + n ∧ day ((K : Int) % 400) = (K : Int) / 400 ∧ rel ((K : Int) % 400))) : bf_ day rel st f n (K + 1) = bf_ day rel st f n K := cz_f h
/-- where none counts, nothing is done -/
theorem bf_g {day : Int → Int} {rel : Int → Prop} {st : Int → Dy_ → Dy_} {f n : Int} (A : Nat) : ∀ t : Nat, (∀ m, f ≤ m → m < f + n → rel m → (A : Int) ≤ day m * 400 + m → ¬ day m * 400 + m < (A : Int) + (t : Int)) → bf_ day rel st f n (A + t) = bf_ day rel st f n A
  | 0, _ => rfl
  | t + 1, h => by
    show bf_ day rel st f n (A + t + 1) = _
    rw [bf_f (fun c => h _ c.1 c.2.1 c.2.2.2 (by rw [c.2.2.1]; omega) (by rw [c.2.2.1]; omega))]
    exact bf_g A t (fun m a b c d e => h m a b c d (by omega))
theorem bf_i {day : Int → Int} {rel : Int → Prop} {st : Int → Dy_ → Dy_} {f n A B : Int} (h0 : 0 ≤ A) (h1 : A ≤ B) (h : ∀ m, f ≤ m → m < f + n → rel m → A ≤ day m * 400 + m → ¬ day m * 400 + m < B) : bf_ day rel st f n B.toNat = bf_ day rel st f n A.toNat := by
  rw [show B.toNat = A.toNat + (B - A).toNat by omega]
  exact bf_g A.toNat (B - A).toNat (fun m a b c d e => h m a b c (by omega) (by omega))
theorem bf_s {day : Int → Int} {rel : Int → Prop} {st : Int → Dy_ → Dy_} {f n m : Int} (m0 : 0 ≤ m) (m1 : m < 400) (d0 : 0 ≤ day m) (hf : f ≤ m) (hn : m < f + n) (hr : rel m) : bf_ day rel st f n (day m * 400 + m + 1).toNat = st m (bf_ day rel st f n (day m * 400 + m).toNat) := by
  rw [show (day m * 400 + m + 1).toNat = (day m * 400 + m).toNat + 1 by omega]
  have e1 : (((day m * 400 + m).toNat : Nat) : Int) % 400 = m := by omega
  have e2 : (((day m * 400 + m).toNat : Nat) : Int) / 400 = day m := by omega
  rw [bf_t (by rw [e1, e2]; exact ⟨hf, hn, rfl, hr⟩), e1]
theorem bf_n {day : Int → Int} {rel : Int → Prop} {st : Int → Dy_ → Dy_} {f n m : Int} (m0 : 0 ≤ m) (m1 : m < 400) (d0 : 0 ≤ day m) (hr : ¬ rel m) : bf_ day rel st f n (day m * 400 + m + 1).toNat = bf_ day rel st f n (day m * 400 + m).toNat := by
  rw [show (day m * 400 + m + 1).toNat = (day m * 400 + m).toNat + 1 by omega]
  have e1 : (((day m * 400 + m).toNat : Nat) : Int) % 400 = m := by omega
  rw [bf_f (by rw [e1]; exact fun c => hr c.2.2.2)]
theorem bf_c {day day' : Int → Int} {rel rel' : Int → Prop} {st st' : Int → Dy_ → Dy_} {f n : Int} (hd : ∀ m, f ≤ m → m < f + n → day' m = day m) (hr : ∀ m, f ≤ m → m < f + n → (rel' m ↔ rel m)) (hs : ∀ m, f ≤ m → m < f + n → rel m → st' m = st m) : ∀ K : Nat, bf_ day' rel' st' f n K = bf_ day rel st f n K
  | 0 => rfl
  | K + 1 => by
    by_cases z : f ≤ (K : Int) % 400 ∧ (K : Int) % 400 < f + n ∧ day ((K : Int) % 400) = (K : Int) / 400 ∧ rel ((K : Int) % 400)
    · have z' : f ≤ (K : Int) % 400 ∧ (K : Int) % 400 < f + n ∧ day' ((K : Int) % 400) = (K : Int) / 400 ∧ rel' ((K : Int) % 400) := ⟨z.1, z.2.1, (hd _ z.1 z.2.1).trans z.2.2.1, (hr _ z.1 z.2.1).mpr z.2.2.2⟩
      rw [bf_t z, bf_t z', bf_c hd hr hs K, hs _ z.1 z.2.1 z.2.2.2]
    · have z' : ¬ (f ≤ (K : Int) % 400 ∧ (K : Int) % 400 < f + n ∧ day' ((K : Int) % 400) = (K : Int) / 400 ∧ rel' ((K : Int) % 400)) := fun c => z ⟨c.1, c.2.1, (hd _ c.1 c.2.1).symm.trans c.2.2.1, (hr _ c.1 c.2.1).mp c.2.2.2⟩
      rw [bf_f z, bf_f z', bf_c hd hr hs K]
/-- what a match does to debt and yellow cards: kd 0 nothing, 1 sent off, 2 cards yv -/
noncomputable def sbn_ (red cards : Int) (kd yv : Int → Int) (m : Int) (x : Dy_) : Dy_ :=
  cz_ (kd m = 1) (wr_ (wr_ (x.1 - cz_ (0 < x.1) 1 0) + red), x.2) (cz_ (kd m = 2) (wr_ (wr_ (x.1 - cz_ (0 < x.1) 1 0) + cz_ (0 < cards ∧ dq_ x.2 cards < dq_ (wr_ (x.2 + yv m)) cards) 1 0), wr_ (x.2 + yv m)) (wr_ (x.1 - cz_ (0 < x.1) 1 0), x.2))
theorem sbn_1 {red cards : Int} {kd yv : Int → Int} {m : Int} {x : Dy_} (h : kd m = 1) : sbn_ red cards kd yv m x = (wr_ (wr_ (x.1 - cz_ (0 < x.1) 1 0) + red), x.2) := cz_t h
theorem sbn_2 {red cards : Int} {kd yv : Int → Int} {m : Int} {x : Dy_} (h : kd m = 2) : sbn_ red cards kd yv m x = (wr_ (wr_ (x.1 - cz_ (0 < x.1) 1 0) + cz_ (0 < cards ∧ dq_ x.2 cards < dq_ (wr_ (x.2 + yv m)) cards) 1 0), wr_ (x.2 + yv m)) := by
  unfold sbn_
  rw [cz_f (by omega), cz_t h]
theorem sbn_0 {red cards : Int} {kd yv : Int → Int} {m : Int} {x : Dy_} (h : kd m ≠ 1) (g : kd m ≠ 2) : sbn_ red cards kd yv m x = (wr_ (x.1 - cz_ (0 < x.1) 1 0), x.2) := by
  unfold sbn_
  rw [cz_f h, cz_f g]
-- a list of those that count, in order
def LHD_ (day : Int → Int) (rel : Int → Prop) (L : Int → Int) (f k kp x : Int) : Prop :=
  (∀ j, 0 ≤ j → j < x → f ≤ L j ∧ L j < f + k ∧ rel (L j) ∧ day (L j) * 400 + L j < kp) ∧ (∀ i j, 0 ≤ i → i < j → j < x → day (L i) * 400 + L i < day (L j) * 400 + L j) ∧ ∀ m, f ≤ m → m < f + k → rel m → day m * 400 + m < kp → ∃ j, 0 ≤ j ∧ j < x ∧ L j = m
theorem lhd_0 {day : Int → Int} {rel : Int → Prop} {L : Int → Int} {f kp : Int} : LHD_ day rel L f 0 kp 0 := ⟨fun j a b => by omega, fun i j a b c => by omega, fun m a b => by omega⟩
theorem lhd_n {day : Int → Int} {rel : Int → Prop} {L : Int → Int} {f k kp x : Int} (h : LHD_ day rel L f k kp x) (hn : ¬ (rel (f + k) ∧ day (f + k) * 400 + (f + k) < kp)) : LHD_ day rel L f (k + 1) kp x := by
  refine ⟨fun j a b => ?_, h.2.1, fun m a b c d => ?_⟩
  · have y := h.1 j a b
    exact ⟨y.1, by omega, y.2.2⟩
  · by_cases z : m = f + k
    · exact absurd ⟨z ▸ c, z ▸ d⟩ hn
    · exact h.2.2 m a (by omega) c d
theorem lhd_e {day : Int → Int} {rel : Int → Prop} {L L' : Int → Int} {f k kp x : Int} (h : LHD_ day rel L f k kp x) (e : ∀ j, 0 ≤ j → j < x → L' j = L j) : LHD_ day rel L' f k kp x := by
  refine ⟨fun j a b => ?_, fun i j a b c => ?_, fun m a b c d => ?_⟩
  · rw [e j a b]; exact h.1 j a b
  · rw [e i a (by omega), e j (by omega) c]; exact h.2.1 i j a b c
  · obtain ⟨j, j0, j1, j2⟩ := h.2.2 m a b c d
    exact ⟨j, j0, j1, by rw [e j j0 j1]; exact j2⟩
/-- one more is put where it belongs -/
theorem lhd_i {day : Int → Int} {rel : Int → Prop} {L L' : Int → Int} {f k kp x t m : Int} (h : LHD_ day rel L f k kp x) (hm : m = f + k) (h0 : 0 ≤ f) (h4 : f + k < 400) (k0 : 0 ≤ k) (hr : rel m) (hk : day m * 400 + m < kp) (t0 : 0 ≤ t) (t1 : t ≤ x) (g1 : ∀ j, t ≤ j → j < x → day m < day (L j)) (g2 : t = 0 ∨ day (L (t - 1)) ≤ day m) (e1 : ∀ j, 0 ≤ j → j < t → L' j = L j) (e2 : L' t = m) (e3 : ∀ j, t < j → j ≤ x → L' j = L (j - 1)) : LHD_ day rel L' f (k + 1) kp (x + 1) := by
  have lo : ∀ j, 0 ≤ j → j < t → day (L j) * 400 + L j < day m * 400 + m := fun j a b => by
    have y1 := h.1 j a (by omega)
    have y2 := h.1 (t - 1) (by omega) (by omega)
    rcases g2 with z | z
    · omega
    · by_cases w : j = t - 1
      · rw [w] at y1 ⊢; omega
      · have y3 := h.2.1 j (t - 1) a (by omega) (by omega)
        omega
  have hi : ∀ j, t ≤ j → j < x → day m * 400 + m < day (L j) * 400 + L j := fun j a b => by
    have y1 := g1 j a b
    have y2 := h.1 j (by omega) b
    omega
  refine ⟨fun j a b => ?_, fun i j a b c => ?_, fun q a b c d => ?_⟩
  · rcases Int.lt_trichotomy j t with z | z | z
    · rw [e1 j a z]
      have y := h.1 j a (by omega)
      exact ⟨y.1, by omega, y.2.2⟩
    · rw [z, e2]
      exact ⟨by omega, by omega, hr, hk⟩
    · rw [e3 j z (by omega)]
      have y := h.1 (j - 1) (by omega) (by omega)
      exact ⟨y.1, by omega, y.2.2⟩
  · rcases Int.lt_trichotomy j t with z | z | z
    · rw [e1 i a (by omega), e1 j (by omega) z]; exact h.2.1 i j a b (by omega)
    · rw [z, e2, e1 i a (by omega)]; exact lo i a (by omega)
    · rw [e3 j z (by omega)]
      rcases Int.lt_trichotomy i t with w | w | w
      · rw [e1 i a w]
        by_cases u : i = j - 1
        · omega
        · exact h.2.1 i (j - 1) a (by omega) (by omega)
      · rw [w, e2]; exact hi (j - 1) (by omega) (by omega)
      · rw [e3 i w (by omega)]; exact h.2.1 (i - 1) (j - 1) (by omega) (by omega) (by omega)
  · by_cases z : q = m
    · exact ⟨t, t0, by omega, by rw [e2, z]⟩
    · obtain ⟨j, j0, j1, j2⟩ := h.2.2 q a (by omega) c d
      by_cases w : j < t
      · exact ⟨j, j0, by omega, by rw [e1 j j0 w]; exact j2⟩
      · exact ⟨j + 1, by omega, by omega, by rw [e3 (j + 1) (by omega) (by omega), show j + 1 - 1 = j from Int.le_antisymm (by omega) (by omega)]; exact j2⟩
/-- the next one behind lo, ahead of hi -/
def NXM_ (day : Int → Int) (f n lo hi x : Int) : Prop := (x = -1 ∧ ∀ m, f ≤ m → m < f + n → lo < day m * 400 + m → ¬ day m * 400 + m < hi) ∨ ((f ≤ x ∧ x < f + n ∧ lo < day x * 400 + x ∧ day x * 400 + x < hi) ∧ ∀ m, f ≤ m → m < f + n → lo < day m * 400 + m → day m * 400 + m < hi → day x * 400 + x ≤ day m * 400 + m)
theorem nxm_0 {day : Int → Int} {f lo hi : Int} : NXM_ day f 0 lo hi (-1) := Or.inl ⟨rfl, fun m a b => by omega⟩
theorem nxm_k {day : Int → Int} {f n lo hi x : Int} (h : NXM_ day f n lo hi x) (c : ¬ (lo < day (f + n) * 400 + (f + n) ∧ day (f + n) * 400 + (f + n) < hi) ∨ (x ≠ -1 ∧ day x * 400 + x ≤ day (f + n) * 400 + (f + n))) : NXM_ day f (n + 1) lo hi x := by
  rcases h with ⟨z, h⟩ | ⟨z, h⟩
  · refine Or.inl ⟨z, fun m a b d e => ?_⟩
    by_cases w : m = f + n
    · rcases c with c | c
      · exact c ⟨by rw [w] at d; exact d, by rw [w] at e; exact e⟩
      · exact c.1 z
    · exact h m a (by omega) d e
  · refine Or.inr ⟨⟨z.1, by omega, z.2.2⟩, fun m a b d e => ?_⟩
    by_cases w : m = f + n
    · rcases c with c | c
      · exact absurd ⟨by rw [w] at d; exact d, by rw [w] at e; exact e⟩ c
      · rw [w]; exact c.2
    · exact h m a (by omega) d e
theorem nxm_t {day : Int → Int} {f n lo hi x : Int} (h : NXM_ day f n lo hi x) (f0 : 0 ≤ f) (n0 : 0 ≤ n) (c : lo < day (f + n) * 400 + (f + n) ∧ day (f + n) * 400 + (f + n) < hi) (d : x = -1 ∨ day (f + n) * 400 + (f + n) ≤ day x * 400 + x) : NXM_ day f (n + 1) lo hi (f + n) := by
  refine Or.inr ⟨⟨by omega, by omega, c.1, c.2⟩, fun m a b e g => ?_⟩
  by_cases w : m = f + n
  · rw [w]; exact Int.le_refl _
  · rcases h with ⟨z, h⟩ | ⟨z, h⟩
    · exact absurd g (h m a (by omega) e)
    · rcases d with d | d
      · exact absurd z.1 (by omega)
      · have y := h m a (by omega) e g
        omega
theorem sb_d {d : Int} (hd : 0 ≤ d ∧ d ≤ 1000000) {d1 : Int} (e : (0 < d ∧ d1 = d - 1) ∨ (¬ 0 < d ∧ d1 = d)) : wr_ (d - cz_ (0 < d) 1 0) = d1 := by
  rcases e with ⟨z, e⟩ | ⟨z, e⟩
  · rw [cz_t z, wr_9 (by omega), e]
  · rw [cz_f z, wr_9 (by omega), e]; omega
theorem sb_0 {red cards : Int} {kd yv : Int → Int} {m d y d2 : Int} (hk : kd m = 0) (hd : 0 ≤ d ∧ d ≤ 1000000) (e : (0 < d ∧ d2 = d - 1) ∨ (¬ 0 < d ∧ d2 = d)) : (d2, y) = sbn_ red cards kd yv m (d, y) := by
  rw [sbn_0 (by omega) (by omega)]
  show (d2, y) = (wr_ (d - cz_ (0 < d) 1 0), y)
  rw [sb_d hd e]
theorem sb_1 {red cards : Int} {kd yv : Int → Int} {m d y d1 d2 : Int} (hk : kd m = 1) (hd : 0 ≤ d ∧ d ≤ 1000000) (hr : 0 ≤ red ∧ red ≤ 1000) (e : (0 < d ∧ d1 = d - 1) ∨ (¬ 0 < d ∧ d1 = d)) (e2 : d2 = d1 + red) : (d2, y) = sbn_ red cards kd yv m (d, y) := by
  rw [sbn_1 hk]
  show (d2, y) = (wr_ (wr_ (d - cz_ (0 < d) 1 0) + red), y)
  rw [sb_d hd e, wr_9 (by omega), e2]
theorem sb_2 {red cards : Int} {kd yv : Int → Int} {m d y d1 d2 y2 : Int} (hk : kd m = 2) (hd : 0 ≤ d ∧ d ≤ 1000000) (e : (0 < d ∧ d1 = d - 1) ∨ (¬ 0 < d ∧ d1 = d)) (e2 : ((0 < cards ∧ dq_ y cards < dq_ (wr_ (y + yv m)) cards) ∧ d2 = d1 + 1) ∨ (¬ (0 < cards ∧ dq_ y cards < dq_ (wr_ (y + yv m)) cards) ∧ d2 = d1)) (ey : y2 = wr_ (y + yv m)) : (d2, y2) = sbn_ red cards kd yv m (d, y) := by
  rw [sbn_2 hk]
  show (d2, y2) = (wr_ (wr_ (d - cz_ (0 < d) 1 0) + cz_ (0 < cards ∧ dq_ y cards < dq_ (wr_ (y + yv m)) cards) 1 0), wr_ (y + yv m))
  rw [sb_d hd e, ey]
  rcases e2 with ⟨z, e2⟩ | ⟨z, e2⟩
  · rw [cz_t z, wr_9 (x := d1 + 1) (by omega), e2]
  · rw [cz_f z, Int.add_zero, wr_9 (x := d1) (by omega), e2]
/-- the first of a list: nothing is done before it -/
theorem bf_L0 {day : Int → Int} {rel : Int → Prop} {st : Int → Dy_ → Dy_} {L : Int → Int} {f n kp x B : Int} (h : LHD_ day rel L f n kp x) (b0 : 0 ≤ B) (h1 : 0 < x → B = day (L 0) * 400 + L 0) (h2 : ¬ 0 < x → B = kp) : bf_ day rel st f n B.toNat = (0, 0) := by
  rw [bf_i (A := 0) (B := B) (by omega) b0 (fun m a b c d e => ?_)]
  · rfl
  · by_cases z : 0 < x
    · have y := h1 z
      have y0 := (h.1 0 (by omega) z).2.2.2
      obtain ⟨j, j0, j1, j2⟩ := h.2.2 m a b c (by omega)
      by_cases w : j = 0
      · rw [w] at j2; rw [j2] at y; omega
      · have q := h.2.1 0 j (by omega) (by omega) j1
        rw [j2] at q; omega
    · obtain ⟨j, j0, j1, j2⟩ := h.2.2 m a b c (by have := h2 z; omega)
      omega
theorem bf_Ls {day : Int → Int} {rel : Int → Prop} {st : Int → Dy_ → Dy_} {L : Int → Int} {f n kp x B k : Int} (h : LHD_ day rel L f n kp x) (f0 : 0 ≤ f) (f4 : f + n ≤ 400) (dp : ∀ m, f ≤ m → m < f + n → 0 ≤ day m) (k0 : 0 ≤ k) (k1 : k < x) (h1 : k + 1 < x → B = day (L (k + 1)) * 400 + L (k + 1)) (h2 : ¬ k + 1 < x → B = kp) : bf_ day rel st f n B.toNat = st (L k) (bf_ day rel st f n (day (L k) * 400 + L k).toNat) := by
  have y := h.1 k k0 k1
  have d0 := dp (L k) y.1 y.2.1
  have hb : day (L k) * 400 + L k < B := by
    by_cases z : k + 1 < x
    · rw [h1 z]; exact h.2.1 k (k + 1) k0 (by omega) z
    · rw [h2 z]; exact y.2.2.2
  rw [← bf_s (st := st) (by omega) (by omega) d0 y.1 y.2.1 y.2.2.1]
  refine bf_i (by omega) (by omega) (fun m a b c d e => ?_)
  by_cases z : k + 1 < x
  · have yb := h1 z
    have y2 := (h.1 (k + 1) (by omega) z).2.2.2
    obtain ⟨j, j0, j1, j2⟩ := h.2.2 m a b c (by omega)
    rcases Int.lt_trichotomy j k with w | w | w
    · have q := h.2.1 j k j0 w k1
      rw [j2] at q; omega
    · rw [w] at j2; rw [j2] at d; omega
    · by_cases u : j = k + 1
      · rw [u] at j2; rw [j2] at yb; omega
      · have q := h.2.1 (k + 1) j (by omega) (by omega) j1
        rw [j2] at q; omega
  · have yb := h2 z
    obtain ⟨j, j0, j1, j2⟩ := h.2.2 m a b c (by omega)
    rcases Int.lt_trichotomy j k with w | w | w
    · have q := h.2.1 j k j0 w k1
      rw [j2] at q; omega
    · rw [w] at j2; rw [j2] at d; omega
    · omega
-- where a person is on the sheets
def plN_ (T : Zt) (m q s : Int) : Nat → Int → Int
  | 0, _ => -1
  | n + 1, i => if T 448 m (s * 10 + i) = q then s * 10 + i else plN_ T m q s n (i + 1)
theorem plN_t {T : Zt} {m q s i : Int} {n : Nat} (h : T 448 m (s * 10 + i) = q) : plN_ T m q s (n + 1) i = s * 10 + i := if_pos h
theorem plN_f {T : Zt} {m q s i : Int} {n : Nat} (h : T 448 m (s * 10 + i) ≠ q) : plN_ T m q s (n + 1) i = plN_ T m q s n (i + 1) := if_neg h
noncomputable def plc_ (T : Zt) (m q : Int) : Int := cz_ (plN_ T m q 0 (T 449 m 0).toNat 0 ≠ -1) (plN_ T m q 0 (T 449 m 0).toNat 0) (plN_ T m q 1 (T 449 m 1).toNat 0)
theorem plN_b {T : Zt} {m q s : Int} : ∀ (n : Nat) (i : Int), plN_ T m q s n i = -1 ∨ (s * 10 + i ≤ plN_ T m q s n i ∧ plN_ T m q s n i < s * 10 + i + n ∧ T 448 m (plN_ T m q s n i) = q)
  | 0, _ => Or.inl rfl
  | n + 1, i => by
    by_cases z : T 448 m (s * 10 + i) = q
    · rw [plN_t z]; exact Or.inr ⟨Int.le_refl _, by omega, z⟩
    · rw [plN_f z]
      rcases plN_b (T := T) (m := m) (q := q) (s := s) n (i + 1) with y | y
      · exact Or.inl y
      · exact Or.inr ⟨by omega, by omega, y.2.2⟩
theorem plc_0 {T : Zt} {m q : Int} (h : plN_ T m q 0 (T 449 m 0).toNat 0 ≠ -1) : plc_ T m q = plN_ T m q 0 (T 449 m 0).toNat 0 := cz_t h
theorem plc_1 {T : Zt} {m q : Int} (h : plN_ T m q 0 (T 449 m 0).toNat 0 = -1) : plc_ T m q = plN_ T m q 1 (T 449 m 1).toNat 0 := cz_f (fun c => c h)
theorem plc_b {T : Zt} {m q : Int} (h0 : T 449 m 0 ≤ 10) (h1 : T 449 m 1 ≤ 10) : plc_ T m q = -1 ∨ (0 ≤ plc_ T m q ∧ plc_ T m q < 20 ∧ T 448 m (plc_ T m q) = q) := by
  by_cases z : plN_ T m q 0 (T 449 m 0).toNat 0 = -1
  · rw [plc_1 z]
    rcases plN_b (T := T) (m := m) (q := q) (s := 1) (T 449 m 1).toNat 0 with y | y
    · exact Or.inl y
    · exact Or.inr ⟨by omega, by omega, y.2.2⟩
  · rw [plc_0 z]
    rcases plN_b (T := T) (m := m) (q := q) (s := 0) (T 449 m 0).toNat 0 with y | y
    · exact Or.inl y
    · exact Or.inr ⟨by omega, by omega, y.2.2⟩
/-- which matches count for a person's bans, as the house tells them -/
def rlH_ (T : Zt) (q m : Int) : Prop := (T 102 m 6 ≠ -1 ∨ (T 102 m 10 ≠ 0 ∧ T 103 m 3 ≠ 0)) ∧ (T 102 m 3 = co9_c T q (T 102 m 5) ∨ T 102 m 4 = co9_c T q (T 102 m 5))
noncomputable def kdH_ (T : Zt) (q m : Int) : Int := cz_ (T 102 m 10 = 0 ∨ plc_ T m q = -1) 0 (cz_ (T 472 m (plc_ T m q) = 3) 1 2)
noncomputable def yvH_ (T : Zt) (q m : Int) : Int := T 473 m (plc_ T m q)
theorem kdH_0 {T : Zt} {q m : Int} (h : T 102 m 10 = 0 ∨ plc_ T m q = -1) : kdH_ T q m = 0 := cz_t h
theorem kdH_1 {T : Zt} {q m : Int} (h : ¬ (T 102 m 10 = 0 ∨ plc_ T m q = -1)) (g : T 472 m (plc_ T m q) = 3) : kdH_ T q m = 1 := by
  unfold kdH_
  rw [cz_f h, cz_t g]
theorem kdH_2 {T : Zt} {q m : Int} (h : ¬ (T 102 m 10 = 0 ∨ plc_ T m q = -1)) (g : T 472 m (plc_ T m q) ≠ 3) : kdH_ T q m = 2 := by
  unfold kdH_
  rw [cz_f h, cz_f g]
/-- whether a person is banned, as the house tells it -/
noncomputable def bnH_ (T : Zt) (q p : Int) : Int := (bf_ (fun m => T 102 m 5) (rlH_ T q) (sbn_ (T 401 (T 102 p 0) 14) (T 401 (T 102 p 0) 13) (kdH_ T q) (yvH_ T q)) (T 100 (T 102 p 0) 7) (T 100 (T 102 p 0) 8) (T 102 p 5 * 400 + p).toNat).1
/-- as the reference tells it -/
def rlR_ (T : Zt) (q m : Int) : Prop := (T 235 0 m = 2 ∨ T 235 0 m = 3) ∧ co9_c T q (T 234 0 m) ≠ -1 ∧ (co9_c T q (T 234 0 m) = T 232 0 m ∨ co9_c T q (T 234 0 m) = T 233 0 m)
noncomputable def slc_ (T : Zt) (m q : Int) : Int := cz_ (ab9_ m (slR_ (rp9_ T m) 0 q) ≠ -1) (ab9_ m (slR_ (rp9_ T m) 0 q)) (ab9_ m (slR_ (rp9_ T m) 1 q))
noncomputable def kdR_ (T : Zt) (q m : Int) : Int := cz_ (T 235 0 m = 2 ∧ slc_ T m q ≠ -1) (cz_ (T 243 0 (slc_ T m q) = 1) 1 2) 0
noncomputable def yvR_ (T : Zt) (q m : Int) : Int := T 242 0 (slc_ T m q)
noncomputable def bnR_ (T : Zt) (q p : Int) : Int := (bf_ (fun m => T 234 0 m) (rlR_ T q) (sbn_ (T 205 0 (23 * T 230 0 p + 14)) (T 205 0 (23 * T 230 0 p + 13)) (kdR_ T q) (yvR_ T q)) (T 210 0 (T 230 0 p)) (T 211 0 (T 230 0 p)) (T 234 0 p * 400 + p).toNat).1
theorem kdR_0 {T : Zt} {q m : Int} (h : ¬ (T 235 0 m = 2 ∧ slc_ T m q ≠ -1)) : kdR_ T q m = 0 := cz_f h
theorem kdR_1 {T : Zt} {q m : Int} (h : T 235 0 m = 2 ∧ slc_ T m q ≠ -1) (g : T 243 0 (slc_ T m q) = 1) : kdR_ T q m = 1 := by
  unfold kdR_
  rw [cz_t h, cz_t g]
theorem kdR_2 {T : Zt} {q m : Int} (h : T 235 0 m = 2 ∧ slc_ T m q ≠ -1) (g : T 243 0 (slc_ T m q) ≠ 1) : kdR_ T q m = 2 := by
  unfold kdR_
  rw [cz_t h, cz_f g]
theorem slc_0 {T : Zt} {m q a : Int} (e : a = ab9_ m (slR_ (rp9_ T m) 0 q)) (h : a ≠ -1) : slc_ T m q = a := by
  unfold slc_
  rw [← e, cz_t h]
theorem slc_1 {T : Zt} {m q a b : Int} (e : a = ab9_ m (slR_ (rp9_ T m) 0 q)) (h : a = -1) (eb : b = ab9_ m (slR_ (rp9_ T m) 1 q)) : slc_ T m q = b := by
  unfold slc_
  rw [← e, ← eb, cz_f (fun c => c h)]
-- why a person may not come on a sheet
def elsH_ (T : Zt) (q p : Int) : Prop := ∃ k, 0 ≤ k ∧ k < T 106 0 4 ∧ k ≠ p ∧ T 102 k 5 = T 102 p 5 ∧ T 102 k 6 = -1 ∧ plc_ T k q ≠ -1
noncomputable def wyH_ (T : Zt) (q p d : Int) : Int := cz_ (co9_c T q (T 102 p 5) ≠ cz_ (d = 0) (T 102 p 3) (T 102 p 4)) 1 (cz_ (0 < bnH_ T q p) 2 (cz_ (plc_ T p q ≠ -1) 3 (cz_ (elsH_ T q p) 4 0)))
def elsR_ (T : Zt) (q p : Int) : Prop := ∃ k, 0 ≤ k ∧ k < T 111 0 29 ∧ k ≠ p ∧ T 234 0 k = T 234 0 p ∧ T 235 0 k ≠ 3 ∧ slc_ T k q ≠ -1
noncomputable def wyR_ (T : Zt) (q p d : Int) : Int := cz_ (co9_c T q (T 234 0 p) ≠ cz_ (d = 0) (T 232 0 p) (T 233 0 p)) 1 (cz_ (0 < bnR_ T q p) 2 (cz_ (slc_ T p q ≠ -1) 3 (cz_ (elsR_ T q p) 4 0)))
theorem wyH_1 {T : Zt} {q p d : Int} (h : co9_c T q (T 102 p 5) ≠ cz_ (d = 0) (T 102 p 3) (T 102 p 4)) : wyH_ T q p d = 1 := cz_t h
theorem wyH_2 {T : Zt} {q p d : Int} (h : ¬ co9_c T q (T 102 p 5) ≠ cz_ (d = 0) (T 102 p 3) (T 102 p 4)) (g : 0 < bnH_ T q p) : wyH_ T q p d = 2 := by
  unfold wyH_
  rw [cz_f h, cz_t g]
theorem wyH_3 {T : Zt} {q p d : Int} (h : ¬ co9_c T q (T 102 p 5) ≠ cz_ (d = 0) (T 102 p 3) (T 102 p 4)) (g : ¬ 0 < bnH_ T q p) (i : plc_ T p q ≠ -1) : wyH_ T q p d = 3 := by
  unfold wyH_
  rw [cz_f h, cz_f g, cz_t i]
theorem wyH_4 {T : Zt} {q p d : Int} (h : ¬ co9_c T q (T 102 p 5) ≠ cz_ (d = 0) (T 102 p 3) (T 102 p 4)) (g : ¬ 0 < bnH_ T q p) (i : ¬ plc_ T p q ≠ -1) (j : elsH_ T q p) : wyH_ T q p d = 4 := by
  unfold wyH_
  rw [cz_f h, cz_f g, cz_f i, cz_t j]
theorem wyH_0 {T : Zt} {q p d : Int} (h : ¬ co9_c T q (T 102 p 5) ≠ cz_ (d = 0) (T 102 p 3) (T 102 p 4)) (g : ¬ 0 < bnH_ T q p) (i : ¬ plc_ T p q ≠ -1) (j : ¬ elsH_ T q p) : wyH_ T q p d = 0 := by
  unfold wyH_
  rw [cz_f h, cz_f g, cz_f i, cz_f j]
theorem wyH_b {T : Zt} {q p d : Int} : 0 ≤ wyH_ T q p d ∧ wyH_ T q p d ≤ 4 := by
  unfold wyH_
  exact cz_p (Q := fun z : Int => 0 ≤ z ∧ z ≤ 4) (fun _ => by decide) (fun _ => cz_p (Q := fun z : Int => 0 ≤ z ∧ z ≤ 4) (fun _ => by decide) (fun _ => cz_p (Q := fun z : Int => 0 ≤ z ∧ z ≤ 4) (fun _ => by decide) (fun _ => cz_p (Q := fun z : Int => 0 ≤ z ∧ z ≤ 4) (fun _ => by decide) (fun _ => by decide))))
theorem wyR_1 {T : Zt} {q p d : Int} (h : co9_c T q (T 234 0 p) ≠ cz_ (d = 0) (T 232 0 p) (T 233 0 p)) : wyR_ T q p d = 1 := cz_t h
theorem wyR_2 {T : Zt} {q p d : Int} (h : ¬ co9_c T q (T 234 0 p) ≠ cz_ (d = 0) (T 232 0 p) (T 233 0 p)) (g : 0 < bnR_ T q p) : wyR_ T q p d = 2 := by
  unfold wyR_
  rw [cz_f h, cz_t g]
theorem wyR_3 {T : Zt} {q p d : Int} (h : ¬ co9_c T q (T 234 0 p) ≠ cz_ (d = 0) (T 232 0 p) (T 233 0 p)) (g : ¬ 0 < bnR_ T q p) (i : slc_ T p q ≠ -1) : wyR_ T q p d = 3 := by
  unfold wyR_
  rw [cz_f h, cz_f g, cz_t i]
theorem wyR_4 {T : Zt} {q p d : Int} (h : ¬ co9_c T q (T 234 0 p) ≠ cz_ (d = 0) (T 232 0 p) (T 233 0 p)) (g : ¬ 0 < bnR_ T q p) (i : ¬ slc_ T p q ≠ -1) (j : elsR_ T q p) : wyR_ T q p d = 4 := by
  unfold wyR_
  rw [cz_f h, cz_f g, cz_f i, cz_t j]
theorem wyR_0 {T : Zt} {q p d : Int} (h : ¬ co9_c T q (T 234 0 p) ≠ cz_ (d = 0) (T 232 0 p) (T 233 0 p)) (g : ¬ 0 < bnR_ T q p) (i : ¬ slc_ T p q ≠ -1) (j : ¬ elsR_ T q p) : wyR_ T q p d = 0 := by
  unfold wyR_
  rw [cz_f h, cz_f g, cz_f i, cz_f j]
theorem wyR_b {T : Zt} {q p d : Int} : 0 ≤ wyR_ T q p d ∧ wyR_ T q p d ≤ 4 := by
  unfold wyR_
  exact cz_p (Q := fun z : Int => 0 ≤ z ∧ z ≤ 4) (fun _ => by decide) (fun _ => cz_p (Q := fun z : Int => 0 ≤ z ∧ z ≤ 4) (fun _ => by decide) (fun _ => cz_p (Q := fun z : Int => 0 ≤ z ∧ z ≤ 4) (fun _ => by decide) (fun _ => cz_p (Q := fun z : Int => 0 ≤ z ∧ z ≤ 4) (fun _ => by decide) (fun _ => by decide))))
theorem sd_h {T : Zt} {q p d v w : Int} (e : v = co9_c T q (T 102 p 5)) (c : (d = 0 ∧ w = T 102 p 3) ∨ (d ≠ 0 ∧ w = T 102 p 4)) : (v = w) ↔ ¬ co9_c T q (T 102 p 5) ≠ cz_ (d = 0) (T 102 p 3) (T 102 p 4) := by
  rcases c with ⟨z, y⟩ | ⟨z, y⟩
  · rw [cz_t z, ← e, ← y]; omega
  · rw [cz_f z, ← e, ← y]; omega
theorem sd_r {T : Zt} {q p d v w : Int} (e : v = co9_c T q (T 234 0 p)) (c : (d = 0 ∧ w = T 232 0 p) ∨ (d ≠ 0 ∧ w = T 233 0 p)) : (v = w) ↔ ¬ co9_c T q (T 234 0 p) ≠ cz_ (d = 0) (T 232 0 p) (T 233 0 p) := by
  rcases c with ⟨z, y⟩ | ⟨z, y⟩
  · rw [cz_t z, ← e, ← y]; omega
  · rw [cz_f z, ← e, ← y]; omega
/-- a person comes on a sheet, as the house does it -/
def SHH_ (T T' : Zt) (b s q : Int) : Prop := T' 448 b (s * 10 + T 449 b s) = q ∧ T' 449 b s = T 449 b s + 1 ∧ (∀ i j, ¬ (i = b ∧ j = s * 10 + T 449 b s) → T' 448 i j = T 448 i j) ∧ ∀ i j, ¬ (i = b ∧ j = s) → T' 449 i j = T 449 i j
def SHN_ (T T' : Zt) : Prop := (∀ i j, T' 448 i j = T 448 i j) ∧ ∀ i j, T' 449 i j = T 449 i j
def SRR_ (T T' : Zt) (m s q : Int) : Prop := T' 240 0 (10 * (2 * m + s) + T 239 0 (2 * m + s)) = q ∧ T' 239 0 (2 * m + s) = T 239 0 (2 * m + s) + 1 ∧ (∀ j, j ≠ 10 * (2 * m + s) + T 239 0 (2 * m + s) → T' 240 0 j = T 240 0 j) ∧ ∀ j, j ≠ 2 * m + s → T' 239 0 j = T 239 0 j
theorem bk_X2_has_f_0 : ck_ fX2 (some .boolean) cX2_has 0 [.aload 0, .tableswitch 0 2 3 #[], .iload 1, .if_icmp .eq 16, .aload 0, .tableswitch 0 2 4 #[], .iload 1, .if_icmp .ne 20, .iconst 1, .goto 21] 20 = true := qck_r (nn_ _) (by decide +kernel)
theorem bs_X2_has_f_0 {P : Zt → Option Zv → Prop} (K : Int → Zl → List Zv → Zt → Prop) : sx_ K P [.aload 0, .tableswitch 0 2 3 #[], .iload 1, .if_icmp .eq 16, .aload 0, .tableswitch 0 2 4 #[], .iload 1, .if_icmp .ne 20, .iconst 1, .goto 21] 20 = x_aload 0 (x_g0 102 3 0 11 (x_iload 1 (x_if_icmp .eq 16 K (x_aload 0 (x_g0 102 4 0 11 (x_iload 1 (x_if_icmp .ne 20 K (x_iconst 1 (x_goto 21 K))))))))) := ((xe_aload 0).trans (congrArg (x_aload 0) ((xe_g0 (kk := 102) rfl tl_2_3).trans (congrArg (x_g0 102 3 0 11) ((xe_iload 1).trans (congrArg (x_iload 1) ((xe_if_icmp .eq 16).trans (congrArg (x_if_icmp .eq 16 K) ((xe_aload 0).trans (congrArg (x_aload 0) ((xe_g0 (kk := 102) rfl tl_2_4).trans (congrArg (x_g0 102 4 0 11) ((xe_iload 1).trans (congrArg (x_iload 1) ((xe_if_icmp .ne 20).trans (congrArg (x_if_icmp .ne 20 K) ((xe_iconst 1).trans (congrArg (x_iconst 1) (xe_goto 21)))))))))))))))))))
theorem bk_X2_has_f_16 : ck_ fX2 (some .boolean) cX2_has 16 [.iconst 1, .goto 21] 20 = true := qck_r (nn_ _) (by decide +kernel)
theorem bs_X2_has_f_16 {P : Zt → Option Zv → Prop} (K : Int → Zl → List Zv → Zt → Prop) : sx_ K P [.iconst 1, .goto 21] 20 = x_iconst 1 (x_goto 21 K) := ((xe_iconst 1).trans (congrArg (x_iconst 1) (xe_goto 21)))
theorem bk_X2_has_f_21 : ck_ fX2 (some .boolean) cX2_has 21 [.ireturn] 22 = true := qck_r (nn_ _) (by decide +kernel)
theorem bs_X2_has_f_21 {P : Zt → Option Zv → Prop} (K : Int → Zl → List Zv → Zt → Prop) : sx_ K P [.ireturn] 22 = x_ireturn P := (xe_ireturn)
theorem bk_X2_has_f_20 : ck_ fX2 (some .boolean) cX2_has 20 [.iconst 0, .ireturn] 22 = true := qck_r (nn_ _) (by decide +kernel)
theorem bs_X2_has_f_20 {P : Zt → Option Zv → Prop} (K : Int → Zl → List Zv → Zt → Prop) : sx_ K P [.iconst 0, .ireturn] 22 = x_iconst 0 (x_ireturn P) := ((xe_iconst 0).trans (congrArg (x_iconst 0) (xe_ireturn)))
abbrev po_X2_has_f (T : Zt) (p : Int) (c : Int) : Zt → Option Zv → Prop := fun T' r => T = T' ∧ ∃ x : Int, r = some (vI x) ∧ ((x = 1 ∧ (T 102 p 3 = c ∨ T 102 p 4 = c)) ∨ (x = 0 ∧ ¬ (T 102 p 3 = c ∨ T 102 p 4 = c)))
set_option maxHeartbeats 4000000 in
theorem ct_X2_has_f {T : Zt} {p : Int} {c : Int} : Ct_ yX2_has zX2_has T [vR 102 p, vI c] (po_X2_has_f T p c) := by
  refine ct_of pn_2 rfl rfl (Nat.le_of_ble_eq_true rfl) (fun hT hav => ?_)
  have hr_c : -2147483648 ≤ c ∧ c ≤ 2147483647 := hav (vI c) (List.mem_cons_of_mem _ List.mem_cons_self)
  have hz : zX2_has.2.2.2.1 = some .boolean → ∀ (T' : Zt) (x : Int), po_X2_has_f T p c T' (some (vI x)) → 0 ≤ x ∧ x ≤ 1 := fun _ T' x h => by obtain ⟨-, y, e, hy⟩ := h; cases e; omega
  show J_ zX2_has T (po_X2_has_f T p c) 0 0 0 [some (vR 102 p), some (vI c)] [] T
  refine j_blx (F := fX2) tb_X2 (nn_ _) bk_X2_has_f_0 bs_X2_has_f_0 hz (fun K hK => ?_)
  intro b1 b1b
  refine And.intro (fun c2 => ?_) (fun c2 => ?_)
  · refine hK 16 _ [] T ?_
    refine j_blx (F := fX2) tb_X2 (nn_ _) bk_X2_has_f_16 bs_X2_has_f_16 hz (fun K hK => ?_)
    refine hK 21 _ [vI 1] T ?_
    refine j_blx (F := fX2) tb_X2 (nn_ _) bk_X2_has_f_21 bs_X2_has_f_21 hz (fun K hK => ?_)
    refine (show po_X2_has_f T p c T (some (vI 1)) from ?_)
    exact ⟨rfl, _, rfl, Or.inl ⟨rfl, by omega⟩⟩
  · intro b3 b3b
    refine And.intro (fun c4 => ?_) (fun c4 => ?_)
    · refine hK 20 _ [] T ?_
      refine j_blx (F := fX2) tb_X2 (nn_ _) bk_X2_has_f_20 bs_X2_has_f_20 hz (fun K hK => ?_)
      refine (show po_X2_has_f T p c T (some (vI 0)) from ?_)
      exact ⟨rfl, _, rfl, Or.inr ⟨rfl, by omega⟩⟩
    · refine hK 21 _ [vI 1] T ?_
      refine j_blx (F := fX2) tb_X2 (nn_ _) bk_X2_has_f_21 bs_X2_has_f_21 hz (fun K hK => ?_)
      refine (show po_X2_has_f T p c T (some (vI 1)) from ?_)
      exact ⟨rfl, _, rfl, Or.inl ⟨rfl, by omega⟩⟩
theorem bk_X2_placeOf_f_9 : ck_ fX2 (some .int) cX2_placeOf 9 [.iload 3, .aload 0, .tableswitch 0 2 9 #[], .iload 2, .iaload, .if_icmp .ge 47, .aload 0, .tableswitch 0 2 8 #[], .iload 2, .iconst 10, .imul, .iload 3, .iadd, .iaload, .iload 1, .if_icmp .ne 41, .iload 2, .iconst 10, .imul, .iload 3, .iadd, .ireturn] 41 = true := qck_r (nn_ _) (by decide +kernel)
theorem bs_X2_placeOf_f_9 {P : Zt → Option Zv → Prop} (K : Int → Zl → List Zv → Zt → Prop) : sx_ K P [.iload 3, .aload 0, .tableswitch 0 2 9 #[], .iload 2, .iaload, .if_icmp .ge 47, .aload 0, .tableswitch 0 2 8 #[], .iload 2, .iconst 10, .imul, .iload 3, .iadd, .iaload, .iload 1, .if_icmp .ne 41, .iload 2, .iconst 10, .imul, .iload 3, .iadd, .ireturn] 41 = x_iload 3 (x_aload 0 (x_g2 102 449 (x_iload 2 (x_iaload (x_if_icmp .ge 47 K (x_aload 0 (x_g2 102 448 (x_iload 2 (x_iconst 10 (x_imul (x_iload 3 (x_iadd (x_iaload (x_iload 1 (x_if_icmp .ne 41 K (x_iload 2 (x_iconst 10 (x_imul (x_iload 3 (x_iadd (x_ireturn P))))))))))))))))))))) := ((xe_iload 3).trans (congrArg (x_iload 3) ((xe_aload 0).trans (congrArg (x_aload 0) ((xe_g2 (kk := 102) rfl tl_2_9).trans (congrArg (x_g2 102 449) ((xe_iload 2).trans (congrArg (x_iload 2) ((xe_iaload).trans (congrArg (x_iaload) ((xe_if_icmp .ge 47).trans (congrArg (x_if_icmp .ge 47 K) ((xe_aload 0).trans (congrArg (x_aload 0) ((xe_g2 (kk := 102) rfl tl_2_8).trans (congrArg (x_g2 102 448) ((xe_iload 2).trans (congrArg (x_iload 2) ((xe_iconst 10).trans (congrArg (x_iconst 10) ((xe_imul).trans (congrArg (x_imul) ((xe_iload 3).trans (congrArg (x_iload 3) ((xe_iadd).trans (congrArg (x_iadd) ((xe_iaload).trans (congrArg (x_iaload) ((xe_iload 1).trans (congrArg (x_iload 1) ((xe_if_icmp .ne 41).trans (congrArg (x_if_icmp .ne 41 K) ((xe_iload 2).trans (congrArg (x_iload 2) ((xe_iconst 10).trans (congrArg (x_iconst 10) ((xe_imul).trans (congrArg (x_imul) ((xe_iload 3).trans (congrArg (x_iload 3) ((xe_iadd).trans (congrArg (x_iadd) (xe_ireturn)))))))))))))))))))))))))))))))))))))))))))
theorem bk_X2_placeOf_f_47 : ck_ fX2 (some .int) cX2_placeOf 47 [.iinc 2 1, .goto 2] 53 = true := qck_r (nn_ _) (by decide +kernel)
theorem bs_X2_placeOf_f_47 {P : Zt → Option Zv → Prop} (K : Int → Zl → List Zv → Zt → Prop) : sx_ K P [.iinc 2 1, .goto 2] 53 = x_iinc 2 1 (x_goto 2 K) := ((xe_iinc 2 1).trans (congrArg (x_iinc 2 1) (xe_goto 2)))
theorem bk_X2_placeOf_f_41 : ck_ fX2 (some .int) cX2_placeOf 41 [.iinc 3 1, .goto 9] 47 = true := qck_r (nn_ _) (by decide +kernel)
theorem bs_X2_placeOf_f_41 {P : Zt → Option Zv → Prop} (K : Int → Zl → List Zv → Zt → Prop) : sx_ K P [.iinc 3 1, .goto 9] 47 = x_iinc 3 1 (x_goto 9 K) := ((xe_iinc 3 1).trans (congrArg (x_iinc 3 1) (xe_goto 9)))
theorem bk_X2_placeOf_f_2 : ck_ fX2 (some .int) cX2_placeOf 2 [.iload 2, .iconst 2, .if_icmp .ge 53, .iconst 0, .istore 3] 9 = true := qck_r (nn_ _) (by decide +kernel)
theorem bs_X2_placeOf_f_2 {P : Zt → Option Zv → Prop} (K : Int → Zl → List Zv → Zt → Prop) : sx_ K P [.iload 2, .iconst 2, .if_icmp .ge 53, .iconst 0, .istore 3] 9 = x_iload 2 (x_iconst 2 (x_if_icmp .ge 53 K (x_iconst 0 (x_istore 3 (K 9))))) := ((xe_iload 2).trans (congrArg (x_iload 2) ((xe_iconst 2).trans (congrArg (x_iconst 2) ((xe_if_icmp .ge 53).trans (congrArg (x_if_icmp .ge 53 K) ((xe_iconst 0).trans (congrArg (x_iconst 0) ((xe_istore 3).trans (congrArg (x_istore 3) xe_nil))))))))))
theorem bk_X2_placeOf_f_53 : ck_ fX2 (some .int) cX2_placeOf 53 [.iconst (-1), .ireturn] 55 = true := qck_r (nn_ _) (by decide +kernel)
theorem bs_X2_placeOf_f_53 {P : Zt → Option Zv → Prop} (K : Int → Zl → List Zv → Zt → Prop) : sx_ K P [.iconst (-1), .ireturn] 55 = x_iconst (-1) (x_ireturn P) := ((xe_iconst (-1)).trans (congrArg (x_iconst (-1)) (xe_ireturn)))
theorem bk_X2_placeOf_f_0 : ck_ fX2 (some .int) cX2_placeOf 0 [.iconst 0, .istore 2] 2 = true := qck_r (nn_ _) (by decide +kernel)
theorem bs_X2_placeOf_f_0 {P : Zt → Option Zv → Prop} (K : Int → Zl → List Zv → Zt → Prop) : sx_ K P [.iconst 0, .istore 2] 2 = x_iconst 0 (x_istore 2 (K 2)) := ((xe_iconst 0).trans (congrArg (x_iconst 0) ((xe_istore 2).trans (congrArg (x_istore 2) xe_nil))))
abbrev po_X2_placeOf_f (T : Zt) (p : Int) (q : Int) : Zt → Option Zv → Prop := fun T' r => T = T' ∧ ∃ x : Int, r = some (vI x) ∧ (x = plc_ T p q)
set_option maxHeartbeats 4000000 in
theorem ct_X2_placeOf_f {T : Zt} {p : Int} {q : Int} : Ct_ yX2_placeOf zX2_placeOf T [vR 102 p, vI q] (po_X2_placeOf_f T p q) := by
  refine ct_of pn_2 rfl rfl (Nat.le_of_ble_eq_true rfl) (fun hT hav => ?_)
  have hr_q : -2147483648 ≤ q ∧ q ≤ 2147483647 := hav (vI q) (List.mem_cons_of_mem _ List.mem_cons_self)
  have hz : zX2_placeOf.2.2.2.1 = some .boolean → ∀ (T' : Zt) (x : Int), po_X2_placeOf_f T p q T' (some (vI x)) → 0 ≤ x ∧ x ≤ 1 := fun h => by cases h
  show J_ zX2_placeOf T (po_X2_placeOf_f T p q) 0 0 0 [some (vR 102 p), some (vI q), none, none] [] T
  have c_2 : ∀ (nn : Nat) (s : Int), ((2 - s).toNat) ≤ nn → (0 ≤ s ∧ s ≤ 2) → ((1 ≤ s → plN_ T p q 0 (T 449 p 0).toNat 0 = -1) ∧ (2 ≤ s → plN_ T p q 1 (T 449 p 1).toNat 0 = -1)) → J_ zX2_placeOf T (po_X2_placeOf_f T p q) 0 0 2 [some (vR 102 p), some (vI q), some (vI s), none] [] T := by
    intro nn
    induction nn using Nat.strongRecOn with
    | _ nn ih_2 =>
      intro s hm_2 i1 n2
      replace hm_2 := fun (_ : Unit) => hm_2
      have c_9 : ∀ (nn : Nat) (k : Int), ((10 - k).toNat) ≤ nn → (0 ≤ k ∧ s < 2) → (plN_ T p q s (T 449 p s).toNat 0 = plN_ T p q s (T 449 p s - k).toNat k) → J_ zX2_placeOf T (po_X2_placeOf_f T p q) 0 0 9 [some (vR 102 p), some (vI q), some (vI s), some (vI k)] [] T := by
        intro nn
        induction nn using Nat.strongRecOn with
        | _ nn ih_9 =>
          intro k hm_9 i2 n9
          replace hm_9 := fun (_ : Unit) => hm_9
          have hls : 0 ≤ T 449 p s ∧ T 449 p s ≤ 10 := bd_a hT 449 (by decide +kernel : ta_ 449 = some (1, some 2, 0, 10)) p (by omega)
          refine j_blx (F := fX2) tb_X2 (nn_ _) bk_X2_placeOf_f_9 bs_X2_placeOf_f_9 hz (fun K hK => ?_)
          refine ix_i (by omega) ?_
          intro b1 b1b
          refine And.intro (fun c2 => ?_) (fun c2 => ?_)
          · refine hK 47 _ [] T ?_
            refine j_blx (F := fX2) tb_X2 (nn_ _) bk_X2_placeOf_f_47 bs_X2_placeOf_f_47 hz (fun K hK => ?_)
            refine rg_i (by omega) ?_
            refine hK 2 [some (vR 102 p), some (vI q), some (vI (s + 1)), some (vI k)] [] T ?_
            refine j_drq [some (vR 102 p), some (vI q), some (vI (s + 1)), none] (drq_s (drq_s (drq_s (drq_n drq_0)))) ?_
            refine ih_2 _ ?_ (s + 1) (Nat.le_refl _) ?_ ?_
            · have hm_2 := hm_2 (); omega
            · omega
            · rw [show (T 449 p s - k).toNat = 0 by omega] at n9
              have n8 : plN_ T p q s (T 449 p s).toNat 0 = -1 := n9
              refine ⟨fun z => ?_, fun z => ?_⟩
              · by_cases y : s = 0
                · rw [y] at n8; exact n8
                · exact n2.1 (by omega)
              · rw [show s = 1 from Int.le_antisymm (by omega) (by omega)] at n8; exact n8
          · refine rg_i (by omega) ?_
            refine rg_i (by omega) ?_
            refine ix_i (by omega) ?_
            intro b3 b3b
            refine And.intro (fun c4 => ?_) (fun c4 => ?_)
            · refine hK 41 [some (vR 102 p), some (vI q), some (vI s), some (vI k)] [] T ?_
              refine j_blx (F := fX2) tb_X2 (nn_ _) bk_X2_placeOf_f_41 bs_X2_placeOf_f_41 hz (fun K hK => ?_)
              refine rg_i (by omega) ?_
              refine hK 9 [some (vR 102 p), some (vI q), some (vI s), some (vI (k + 1))] [] T ?_
              refine ih_9 _ ?_ (k + 1) (Nat.le_refl _) ?_ ?_
              · have hm_9 := hm_9 (); omega
              · omega
              · rw [n9, show (T 449 p s - k).toNat = (T 449 p s - (k + 1)).toNat + 1 by omega]
                exact plN_f (by omega)
            · refine rg_i (by omega) ?_
              refine rg_i (by omega) ?_
              refine (show po_X2_placeOf_f T p q T (some (vI ((s * 10) + k))) from ?_)
              have n8 : plN_ T p q s (T 449 p s).toNat 0 = s * 10 + k := by rw [n9, show (T 449 p s - k).toNat = (T 449 p s - (k + 1)).toNat + 1 by omega]; exact plN_t (by omega)
              refine ⟨rfl, _, rfl, ?_⟩
              rcases (by omega : s = 0 ∨ s = 1) with z | z
              · rw [z] at n8 ⊢; rw [plc_0 (by omega), n8]
              · have n7 := n2.1 (by omega)
                rw [z] at n8 ⊢; rw [plc_1 n7, n8]
      refine j_blx (F := fX2) tb_X2 (nn_ _) bk_X2_placeOf_f_2 bs_X2_placeOf_f_2 hz (fun K hK => ?_)
      refine And.intro (fun c5 => ?_) (fun c5 => ?_)
      · refine hK 53 _ [] T ?_
        refine j_blx (F := fX2) tb_X2 (nn_ _) bk_X2_placeOf_f_53 bs_X2_placeOf_f_53 hz (fun K hK => ?_)
        refine (show po_X2_placeOf_f T p q T (some (vI (-1))) from ?_)
        exact ⟨rfl, _, rfl, by rw [plc_1 (n2.1 (by omega)), n2.2 (by omega)]⟩
      · refine hK 9 [some (vR 102 p), some (vI q), some (vI s), some (vI 0)] [] T ?_
        refine c_9 _ 0 (Nat.le_refl _) ?_ ?_
        · omega
        · rw [show T 449 p s - 0 = T 449 p s from Int.le_antisymm (by omega) (by omega)]
  refine j_blx (F := fX2) tb_X2 (nn_ _) bk_X2_placeOf_f_0 bs_X2_placeOf_f_0 hz (fun K hK => ?_)
  refine hK 2 [some (vR 102 p), some (vI q), some (vI 0), none] [] T ?_
  refine c_2 _ 0 (Nat.le_refl _) ?_ ?_
  · omega
  · exact ⟨fun z => absurd z (by decide), fun z => absurd z (by decide)⟩
theorem spr_w {T T' : Zt} (h : SPR_ T) (f : fr_ [(533, [])] T T') : SPR_ T' := spr_k h (f 108 0 3 rfl) ⟨f 108 0 5 rfl, fun j => f 566 0 j rfl, fun j => f 567 0 j rfl, fun j => f 568 0 j rfl, fun j => f 569 0 j rfl⟩ (fun j => f 564 0 j rfl) ⟨f 111 0 16 rfl, fun j => f 217 0 j rfl, fun j => f 218 0 j rfl, fun j => f 219 0 j rfl, fun j => f 220 0 j rfl⟩
theorem cnn_k {T T' : Zt} {p d : Int} (e : ∀ k j, k = 217 ∨ k = 218 ∨ k = 219 ∨ k = 220 → T' k 0 j = T k 0 j) : ∀ n : Nat, cnn_ T' p d n = cnn_ T p d n
  | 0 => rfl
  | n + 1 => by
    show cz_ _ _ _ = cz_ _ _ _
    rw [e 217 _ (by decide), e 218 _ (by decide), e 219 _ (by decide), e 220 _ (by decide), cnn_k e n]
theorem co_k {T T' : Zt} (f : fr_ [(533, [])] T T') {p d : Int} : co9_c T' p d = co9_c T p d := by
  unfold co9_c
  rw [f 111 0 16 rfl]
  exact cnn_k (fun k j h => by rcases h with rfl | rfl | rfl | rfl; exact f 217 0 j rfl; exact f 218 0 j rfl; exact f 219 0 j rfl; exact f 220 0 j rfl) _
theorem bk_X6_listAhead_f_117 : ck_ fX6 (some .int) cX6_listAhead 117 [.iload 7, .ifCond .le 169, .aload 0, .tableswitch 0 6 3 #[], .aload 0, .tableswitch 0 6 13 #[], .iload 7, .iconst 1, .isub, .iaload, .aaload, .tableswitch 0 2 5 #[], .aload 5, .tableswitch 0 2 5 #[], .if_icmp .le 169, .aload 0, .tableswitch 0 6 13 #[], .iload 7, .aload 0, .tableswitch 0 6 13 #[], .iload 7, .iconst 1, .isub, .iaload, .iastore, .iinc 7 (-1), .goto 117] 169 = true := qck_r (nn_ _) (by decide +kernel)
theorem bs_X6_listAhead_f_117 {P : Zt → Option Zv → Prop} (K : Int → Zl → List Zv → Zt → Prop) : sx_ K P [.iload 7, .ifCond .le 169, .aload 0, .tableswitch 0 6 3 #[], .aload 0, .tableswitch 0 6 13 #[], .iload 7, .iconst 1, .isub, .iaload, .aaload, .tableswitch 0 2 5 #[], .aload 5, .tableswitch 0 2 5 #[], .if_icmp .le 169, .aload 0, .tableswitch 0 6 13 #[], .iload 7, .aload 0, .tableswitch 0 6 13 #[], .iload 7, .iconst 1, .isub, .iaload, .iastore, .iinc 7 (-1), .goto 117] 169 = x_iload 7 (x_ifCond .le 169 K (x_aload 0 (x_g1 106 523 (x_aload 0 (x_g1 106 533 (x_iload 7 (x_iconst 1 (x_isub (x_iaload (x_aaload (x_g0 102 5 0 999 (x_aload 5 (x_g0 102 5 0 999 (x_if_icmp .le 169 K (x_aload 0 (x_g1 106 533 (x_iload 7 (x_aload 0 (x_g1 106 533 (x_iload 7 (x_iconst 1 (x_isub (x_iaload (x_iastore (x_iinc 7 (-1) (x_goto 117 K)))))))))))))))))))))))))) := ((xe_iload 7).trans (congrArg (x_iload 7) ((xe_ifCond .le 169).trans (congrArg (x_ifCond .le 169 K) ((xe_aload 0).trans (congrArg (x_aload 0) ((xe_g1 (kk := 106) rfl tl_6_3).trans (congrArg (x_g1 106 523) ((xe_aload 0).trans (congrArg (x_aload 0) ((xe_g1 (kk := 106) rfl tl_6_13).trans (congrArg (x_g1 106 533) ((xe_iload 7).trans (congrArg (x_iload 7) ((xe_iconst 1).trans (congrArg (x_iconst 1) ((xe_isub).trans (congrArg (x_isub) ((xe_iaload).trans (congrArg (x_iaload) ((xe_aaload).trans (congrArg (x_aaload) ((xe_g0 (kk := 102) rfl tl_2_5).trans (congrArg (x_g0 102 5 0 999) ((xe_aload 5).trans (congrArg (x_aload 5) ((xe_g0 (kk := 102) rfl tl_2_5).trans (congrArg (x_g0 102 5 0 999) ((xe_if_icmp .le 169).trans (congrArg (x_if_icmp .le 169 K) ((xe_aload 0).trans (congrArg (x_aload 0) ((xe_g1 (kk := 106) rfl tl_6_13).trans (congrArg (x_g1 106 533) ((xe_iload 7).trans (congrArg (x_iload 7) ((xe_aload 0).trans (congrArg (x_aload 0) ((xe_g1 (kk := 106) rfl tl_6_13).trans (congrArg (x_g1 106 533) ((xe_iload 7).trans (congrArg (x_iload 7) ((xe_iconst 1).trans (congrArg (x_iconst 1) ((xe_isub).trans (congrArg (x_isub) ((xe_iaload).trans (congrArg (x_iaload) ((xe_iastore).trans (congrArg (x_iastore) ((xe_iinc 7 (-1)).trans (congrArg (x_iinc 7 (-1)) (xe_goto 117)))))))))))))))))))))))))))))))))))))))))))))))))))))
theorem bk_X6_listAhead_f_169 : ck_ fX6 (some .int) cX6_listAhead 169 [.aload 0, .tableswitch 0 6 13 #[], .iload 7, .aload 5, .tableswitch 0 2 1 #[], .iastore, .iinc 3 1, .iinc 4 1, .goto 5] 190 = true := qck_r (nn_ _) (by decide +kernel)
theorem bs_X6_listAhead_f_169 {P : Zt → Option Zv → Prop} (K : Int → Zl → List Zv → Zt → Prop) : sx_ K P [.aload 0, .tableswitch 0 6 13 #[], .iload 7, .aload 5, .tableswitch 0 2 1 #[], .iastore, .iinc 3 1, .iinc 4 1, .goto 5] 190 = x_aload 0 (x_g1 106 533 (x_iload 7 (x_aload 5 (x_g0 102 1 0 399 (x_iastore (x_iinc 3 1 (x_iinc 4 1 (x_goto 5 K)))))))) := ((xe_aload 0).trans (congrArg (x_aload 0) ((xe_g1 (kk := 106) rfl tl_6_13).trans (congrArg (x_g1 106 533) ((xe_iload 7).trans (congrArg (x_iload 7) ((xe_aload 5).trans (congrArg (x_aload 5) ((xe_g0 (kk := 102) rfl tl_2_1).trans (congrArg (x_g0 102 1 0 399) ((xe_iastore).trans (congrArg (x_iastore) ((xe_iinc 3 1).trans (congrArg (x_iinc 3 1) ((xe_iinc 4 1).trans (congrArg (x_iinc 4 1) (xe_goto 5)))))))))))))))))
theorem bk_X6_listAhead_f_5 : ck_ fX6 (some .int) cX6_listAhead 5 [.iload 4, .aload 2, .tableswitch 0 2 0 #[], .tableswitch 0 0 8 #[], .if_icmp .ge 190, .aload 0, .tableswitch 0 6 3 #[], .aload 2, .tableswitch 0 2 0 #[], .tableswitch 0 0 7 #[], .iload 4, .iadd, .aaload, .astore 5, .aload 5, .tableswitch 0 2 5 #[], .aload 2, .tableswitch 0 2 5 #[], .if_icmp .lt 70, .aload 5, .tableswitch 0 2 5 #[], .aload 2, .tableswitch 0 2 5 #[], .if_icmp .ne 74, .aload 5, .tableswitch 0 2 1 #[], .aload 2, .tableswitch 0 2 1 #[], .if_icmp .ge 74, .iconst 1, .goto 75] 74 = true := qck_r (nn_ _) (by decide +kernel)
theorem bs_X6_listAhead_f_5 {P : Zt → Option Zv → Prop} (K : Int → Zl → List Zv → Zt → Prop) : sx_ K P [.iload 4, .aload 2, .tableswitch 0 2 0 #[], .tableswitch 0 0 8 #[], .if_icmp .ge 190, .aload 0, .tableswitch 0 6 3 #[], .aload 2, .tableswitch 0 2 0 #[], .tableswitch 0 0 7 #[], .iload 4, .iadd, .aaload, .astore 5, .aload 5, .tableswitch 0 2 5 #[], .aload 2, .tableswitch 0 2 5 #[], .if_icmp .lt 70, .aload 5, .tableswitch 0 2 5 #[], .aload 2, .tableswitch 0 2 5 #[], .if_icmp .ne 74, .aload 5, .tableswitch 0 2 1 #[], .aload 2, .tableswitch 0 2 1 #[], .if_icmp .ge 74, .iconst 1, .goto 75] 74 = x_iload 4 (x_aload 2 (x_g3 102 100 0 (x_g0 100 8 0 400 (x_if_icmp .ge 190 K (x_aload 0 (x_g1 106 523 (x_aload 2 (x_g3 102 100 0 (x_g0 100 7 0 400 (x_iload 4 (x_iadd (x_aaload (x_astore 5 (x_aload 5 (x_g0 102 5 0 999 (x_aload 2 (x_g0 102 5 0 999 (x_if_icmp .lt 70 K (x_aload 5 (x_g0 102 5 0 999 (x_aload 2 (x_g0 102 5 0 999 (x_if_icmp .ne 74 K (x_aload 5 (x_g0 102 1 0 399 (x_aload 2 (x_g0 102 1 0 399 (x_if_icmp .ge 74 K (x_iconst 1 (x_goto 75 K)))))))))))))))))))))))))))))) := ((xe_iload 4).trans (congrArg (x_iload 4) ((xe_aload 2).trans (congrArg (x_aload 2) ((xe_g3 (kk := 102) rfl tl_2_0).trans (congrArg (x_g3 102 100 0) ((xe_g0 (kk := 100) rfl tl_0_8).trans (congrArg (x_g0 100 8 0 400) ((xe_if_icmp .ge 190).trans (congrArg (x_if_icmp .ge 190 K) ((xe_aload 0).trans (congrArg (x_aload 0) ((xe_g1 (kk := 106) rfl tl_6_3).trans (congrArg (x_g1 106 523) ((xe_aload 2).trans (congrArg (x_aload 2) ((xe_g3 (kk := 102) rfl tl_2_0).trans (congrArg (x_g3 102 100 0) ((xe_g0 (kk := 100) rfl tl_0_7).trans (congrArg (x_g0 100 7 0 400) ((xe_iload 4).trans (congrArg (x_iload 4) ((xe_iadd).trans (congrArg (x_iadd) ((xe_aaload).trans (congrArg (x_aaload) ((xe_astore 5).trans (congrArg (x_astore 5) ((xe_aload 5).trans (congrArg (x_aload 5) ((xe_g0 (kk := 102) rfl tl_2_5).trans (congrArg (x_g0 102 5 0 999) ((xe_aload 2).trans (congrArg (x_aload 2) ((xe_g0 (kk := 102) rfl tl_2_5).trans (congrArg (x_g0 102 5 0 999) ((xe_if_icmp .lt 70).trans (congrArg (x_if_icmp .lt 70 K) ((xe_aload 5).trans (congrArg (x_aload 5) ((xe_g0 (kk := 102) rfl tl_2_5).trans (congrArg (x_g0 102 5 0 999) ((xe_aload 2).trans (congrArg (x_aload 2) ((xe_g0 (kk := 102) rfl tl_2_5).trans (congrArg (x_g0 102 5 0 999) ((xe_if_icmp .ne 74).trans (congrArg (x_if_icmp .ne 74 K) ((xe_aload 5).trans (congrArg (x_aload 5) ((xe_g0 (kk := 102) rfl tl_2_1).trans (congrArg (x_g0 102 1 0 399) ((xe_aload 2).trans (congrArg (x_aload 2) ((xe_g0 (kk := 102) rfl tl_2_1).trans (congrArg (x_g0 102 1 0 399) ((xe_if_icmp .ge 74).trans (congrArg (x_if_icmp .ge 74 K) ((xe_iconst 1).trans (congrArg (x_iconst 1) (xe_goto 75)))))))))))))))))))))))))))))))))))))))))))))))))))))))))))))
theorem bk_X6_listAhead_f_190 : ck_ fX6 (some .int) cX6_listAhead 190 [.iload 3, .ireturn] 192 = true := qck_r (nn_ _) (by decide +kernel)
theorem bs_X6_listAhead_f_190 {P : Zt → Option Zv → Prop} (K : Int → Zl → List Zv → Zt → Prop) : sx_ K P [.iload 3, .ireturn] 192 = x_iload 3 (x_ireturn P) := ((xe_iload 3).trans (congrArg (x_iload 3) (xe_ireturn)))
theorem bk_X6_listAhead_f_70 : ck_ fX6 (some .int) cX6_listAhead 70 [.iconst 1, .goto 75] 74 = true := qck_r (nn_ _) (by decide +kernel)
theorem bs_X6_listAhead_f_70 {P : Zt → Option Zv → Prop} (K : Int → Zl → List Zv → Zt → Prop) : sx_ K P [.iconst 1, .goto 75] 74 = x_iconst 1 (x_goto 75 K) := ((xe_iconst 1).trans (congrArg (x_iconst 1) (xe_goto 75)))
theorem bk_X6_listAhead_f_75 : ck_ fX6 (some .int) cX6_listAhead 75 [.istore 6, .iload 6, .ifCond .eq 184, .aload 5] 84 = true := qck_r (nn_ _) (by decide +kernel)
theorem bs_X6_listAhead_f_75 {P : Zt → Option Zv → Prop} (K : Int → Zl → List Zv → Zt → Prop) : sx_ K P [.istore 6, .iload 6, .ifCond .eq 184, .aload 5] 84 = x_istore 6 (x_iload 6 (x_ifCond .eq 184 K (x_aload 5 (K 84)))) := ((xe_istore 6).trans (congrArg (x_istore 6) ((xe_iload 6).trans (congrArg (x_iload 6) ((xe_ifCond .eq 184).trans (congrArg (x_ifCond .eq 184 K) ((xe_aload 5).trans (congrArg (x_aload 5) xe_nil))))))))
theorem bk_X6_listAhead_f_184 : ck_ fX6 (some .int) cX6_listAhead 184 [.iinc 4 1, .goto 5] 190 = true := qck_r (nn_ _) (by decide +kernel)
theorem bs_X6_listAhead_f_184 {P : Zt → Option Zv → Prop} (K : Int → Zl → List Zv → Zt → Prop) : sx_ K P [.iinc 4 1, .goto 5] 190 = x_iinc 4 1 (x_goto 5 K) := ((xe_iinc 4 1).trans (congrArg (x_iinc 4 1) (xe_goto 5)))
theorem bk_X6_listAhead_f_87 : ck_ fX6 (some .int) cX6_listAhead 87 [.ifCond .eq 184, .aload 5, .aload 0, .tableswitch 0 6 0 #[], .iload 1, .aload 5, .tableswitch 0 2 5 #[]] 102 = true := qck_r (nn_ _) (by decide +kernel)
theorem bs_X6_listAhead_f_87 {P : Zt → Option Zv → Prop} (K : Int → Zl → List Zv → Zt → Prop) : sx_ K P [.ifCond .eq 184, .aload 5, .aload 0, .tableswitch 0 6 0 #[], .iload 1, .aload 5, .tableswitch 0 2 5 #[]] 102 = x_ifCond .eq 184 K (x_aload 5 (x_aload 0 (x_g1 106 108 (x_iload 1 (x_aload 5 (x_g0 102 5 0 999 (K 102))))))) := ((xe_ifCond .eq 184).trans (congrArg (x_ifCond .eq 184 K) ((xe_aload 5).trans (congrArg (x_aload 5) ((xe_aload 0).trans (congrArg (x_aload 0) ((xe_g1 (kk := 106) rfl tl_6_0).trans (congrArg (x_g1 106 108) ((xe_iload 1).trans (congrArg (x_iload 1) ((xe_aload 5).trans (congrArg (x_aload 5) ((xe_g0 (kk := 102) rfl tl_2_5).trans (congrArg (x_g0 102 5 0 999) xe_nil))))))))))))))
theorem bk_X6_listAhead_f_108 : ck_ fX6 (some .int) cX6_listAhead 108 [.ifCond .ne 114, .goto 184] 114 = true := qck_r (nn_ _) (by decide +kernel)
theorem bs_X6_listAhead_f_108 {P : Zt → Option Zv → Prop} (K : Int → Zl → List Zv → Zt → Prop) : sx_ K P [.ifCond .ne 114, .goto 184] 114 = x_ifCond .ne 114 K (x_goto 184 K) := ((xe_ifCond .ne 114).trans (congrArg (x_ifCond .ne 114 K) (xe_goto 184)))
theorem bk_X6_listAhead_f_114 : ck_ fX6 (some .int) cX6_listAhead 114 [.iload 3, .istore 7] 117 = true := qck_r (nn_ _) (by decide +kernel)
theorem bs_X6_listAhead_f_114 {P : Zt → Option Zv → Prop} (K : Int → Zl → List Zv → Zt → Prop) : sx_ K P [.iload 3, .istore 7] 117 = x_iload 3 (x_istore 7 (K 117)) := ((xe_iload 3).trans (congrArg (x_iload 3) ((xe_istore 7).trans (congrArg (x_istore 7) xe_nil))))
theorem bk_X6_listAhead_f_74 : ck_ fX6 (some .int) cX6_listAhead 74 [.iconst 0, .istore 6, .iload 6, .ifCond .eq 184, .aload 5] 84 = true := qck_r (nn_ _) (by decide +kernel)
theorem bs_X6_listAhead_f_74 {P : Zt → Option Zv → Prop} (K : Int → Zl → List Zv → Zt → Prop) : sx_ K P [.iconst 0, .istore 6, .iload 6, .ifCond .eq 184, .aload 5] 84 = x_iconst 0 (x_istore 6 (x_iload 6 (x_ifCond .eq 184 K (x_aload 5 (K 84))))) := ((xe_iconst 0).trans (congrArg (x_iconst 0) ((xe_istore 6).trans (congrArg (x_istore 6) ((xe_iload 6).trans (congrArg (x_iload 6) ((xe_ifCond .eq 184).trans (congrArg (x_ifCond .eq 184 K) ((xe_aload 5).trans (congrArg (x_aload 5) xe_nil))))))))))
theorem bk_X6_listAhead_f_0 : ck_ fX6 (some .int) cX6_listAhead 0 [.iconst 0, .istore 3, .iconst 0, .istore 4] 5 = true := qck_r (nn_ _) (by decide +kernel)
theorem bs_X6_listAhead_f_0 {P : Zt → Option Zv → Prop} (K : Int → Zl → List Zv → Zt → Prop) : sx_ K P [.iconst 0, .istore 3, .iconst 0, .istore 4] 5 = x_iconst 0 (x_istore 3 (x_iconst 0 (x_istore 4 (K 5)))) := ((xe_iconst 0).trans (congrArg (x_iconst 0) ((xe_istore 3).trans (congrArg (x_istore 3) ((xe_iconst 0).trans (congrArg (x_iconst 0) ((xe_istore 4).trans (congrArg (x_istore 4) xe_nil))))))))
abbrev po_X6_listAhead_f (T : Zt) (p : Int) (q : Int) : Zt → Option Zv → Prop := fun T' r => ∃ x : Int, r = some (vI x) ∧ fr_ [(533, [])] T T' ∧ ((0 ≤ x ∧ x ≤ 400) ∧ (∀ j : Int, 0 ≤ j → j < x → 0 ≤ T' 533 0 j ∧ T' 533 0 j < T 106 0 4) ∧ LHD_ (fun m => T 102 m 5) (rlH_ T q) (fun j => T' 533 0 j) (T 100 (T 102 p 0) 7) (T 100 (T 102 p 0) 8) (T 102 p 5 * 400 + p) x)
set_option maxHeartbeats 4000000 in
theorem ct_X6_listAhead_f {T : Zt} {p : Int} {q : Int} (hka : KA_ T) (hkm : KM_ T) (hkc : KC_ T) (hq : 0 ≤ q ∧ q < 200) (hp : 0 ≤ p ∧ p < T 106 0 4) (hq2 : q < T 108 0 3) (hsp : SPR_ T) : Ct_ yX6_listAhead zX6_listAhead T [vR 106 0, vI q, vR 102 p] (po_X6_listAhead_f T p q) := by
  refine ct_of pn_6 rfl rfl (Nat.le_of_ble_eq_true rfl) (fun hT hav => ?_)
  have hr_q : -2147483648 ≤ q ∧ q ≤ 2147483647 := hav (vI q) (List.mem_cons_of_mem _ List.mem_cons_self)
  have hz : zX6_listAhead.2.2.2.1 = some .boolean → ∀ (T' : Zt) (x : Int), po_X6_listAhead_f T p q T' (some (vI x)) → 0 ≤ x ∧ x ≤ 1 := fun h => by cases h
  have hb_matchCount : 0 ≤ T 106 0 4 ∧ T 106 0 4 ≤ 400 := bd_f hT 106 4 tl_6_4 0
  have hmp := hkm p (by omega) (by omega)
  have hcp := hkc (T 102 p 0) (by omega) (by omega)
  have hb7 : 0 ≤ T 100 (T 102 p 0) 7 ∧ T 100 (T 102 p 0) 7 ≤ 400 := bd_f hT 100 7 tl_0_7 (T 102 p 0)
  have hb8 : 0 ≤ T 100 (T 102 p 0) 8 ∧ T 100 (T 102 p 0) 8 ≤ 400 := bd_f hT 100 8 tl_0_8 (T 102 p 0)
  show J_ zX6_listAhead T (po_X6_listAhead_f T p q) 0 0 0 [some (vR 106 0), some (vI q), some (vR 102 p), none, none, none, none, none] [] T
  have c_5 : ∀ (nn : Nat) (f : Int) (k : Int) (T1 : Zt), ((400 - k).toNat) ≤ nn → (fr_ [(533, [])] T T1) → (0 ≤ f ∧ f ≤ k ∧ 0 ≤ k ∧ k ≤ 400 ∧ (k = 0 ∨ k ≤ T 100 (T 102 p 0) 8)) → (∀ j : Int, 0 ≤ j → j < f → 0 ≤ T1 533 0 j ∧ T1 533 0 j < T 106 0 4) → (LHD_ (fun m => T 102 m 5) (rlH_ T q) (fun j => T1 533 0 j) (T 100 (T 102 p 0) 7) k (T 102 p 5 * 400 + p) f) → J_ zX6_listAhead T (po_X6_listAhead_f T p q) 0 0 5 [some (vR 106 0), some (vI q), some (vR 102 p), some (vI f), some (vI k), none, none, none] [] T1 := by
    intro nn
    induction nn using Nat.strongRecOn with
    | _ nn ih_5 =>
      intro f k T1 hm_5 hf_5 i1 li1 lh1
      replace hm_5 := fun (_ : Unit) => hm_5
      have c_117 : ∀ (nn : Nat) (at9 : Int) (T2 : Zt), (at9.toNat) ≤ nn → (fr_ [(533, [])] T T2) → (0 ≤ at9 ∧ at9 ≤ f ∧ k < T 100 (T 102 p 0) 8) → (∀ j : Int, 0 ≤ j → j ≤ f → j ≠ at9 → 0 ≤ T2 533 0 j ∧ T2 533 0 j < T 106 0 4) → (rlH_ T q (T 100 (T 102 p 0) 7 + k) ∧ (fun m => T 102 m 5) (T 100 (T 102 p 0) 7 + k) * 400 + (T 100 (T 102 p 0) 7 + k) < (T 102 p 5 * 400 + p)) → (∀ j, at9 ≤ j → j < f → T 102 (T 100 (T 102 p 0) 7 + k) 5 < T 102 (T1 533 0 j) 5) → (∀ j, 0 ≤ j → j < at9 → T2 533 0 j = T1 533 0 j) → (∀ j, at9 < j → j ≤ f → T2 533 0 j = T1 533 0 (j - 1)) → J_ zX6_listAhead T (po_X6_listAhead_f T p q) 0 0 117 [some (vR 106 0), some (vI q), some (vR 102 p), some (vI f), some (vI k), some (vR 102 (T 100 (T 102 p 0) 7 + k)), none, some (vI at9)] [] T2 := by
        intro nn
        induction nn using Nat.strongRecOn with
        | _ nn ih_117 =>
          intro at9 T2 hm_117 hf_117 i2 li2 hrk sgt sfa sfb
          replace hm_117 := fun (_ : Unit) => hm_117
          refine j_blx (F := fX6) tb_X6 (nn_ _) bk_X6_listAhead_f_117 bs_X6_listAhead_f_117 hz (fun K hK => ?_)
          refine And.intro (fun c1 => ?_) (fun c1 => ?_)
          · have sle : at9 = 0 ∨ T 102 (T1 533 0 (at9 - 1)) 5 ≤ T 102 (T 100 (T 102 p 0) 7 + k) 5 := Or.inl (by omega)
            refine hK 169 _ [] T2 ?_
            refine j_blx (F := fX6) tb_X6 (nn_ _) bk_X6_listAhead_f_169 bs_X6_listAhead_f_169 hz (fun K hK => ?_)
            intro b2 b2b
            have e3 : T2 102 (T 100 (T 102 p 0) 7 + k) 1 = T 102 (T 100 (T 102 p 0) 7 + k) 1 := hf_117 102 (T 100 (T 102 p 0) 7 + k) 1 rfl
            rw [e3] at b2 b2b ⊢
            have hnb := hkm (T 100 (T 102 p 0) 7 + k) (by omega) (by omega)
            refine iy_i (by omega) (by omega) ?_
            refine x_nm (fun U4 hU4 => ?_)
            have e5 := up_f hU4
            refine rg_i (by omega) ?_
            refine rg_i (by omega) ?_
            refine hK 5 [some (vR 106 0), some (vI q), some (vR 102 p), some (vI (f + 1)), some (vI (k + 1)), some (vR 102 (T 100 (T 102 p 0) 7 + k)), none, some (vI at9)] [] U4 ?_
            refine j_drq [some (vR 106 0), some (vI q), some (vR 102 p), some (vI (f + 1)), some (vI (k + 1)), none, none, none] (drq_s (drq_s (drq_s (drq_s (drq_s (drq_n (drq_n (drq_n drq_0)))))))) ?_
            refine ih_5 _ ?_ (f + 1) (k + 1) U4 (Nat.le_refl _) ?_ ?_ ?_ ?_
            · have hm_5 := hm_5 (); omega
            · exact fr_u (fr_t (fr_0 _ _) (fr_s hf_117 rfl)) hU4 rfl
            · omega
            · intro j a b
              by_cases z : j = at9
              · rw [z, up_f hU4]; omega
              · rw [up_g hU4 (fun q => z q.2.2)]; exact li2 j a (by omega) z
            · exact lhd_i (t := at9) (m := T 100 (T 102 p 0) 7 + k) lh1 rfl (by omega) (by omega) (by omega) hrk.1 hrk.2 (by omega) (by omega) sgt sle (fun j a b => (up_g hU4 (fun z => by omega)).trans (sfa j a b)) ((up_f hU4).trans (by omega)) (fun j a b => (up_g hU4 (fun z => by omega)).trans (sfb j a b))
          · refine rg_i (by omega) ?_
            refine ix_i (by omega) ?_
            intro b6 b6b
            refine ix_i (by omega) ?_
            have e8 : T2 523 0 (T2 533 0 (at9 - 1)) = T 523 0 (T2 533 0 (at9 - 1)) := hf_117 523 0 (T2 533 0 (at9 - 1)) rfl
            refine And.intro (fun c7 => ?_) (fun c7 => ?_)
            · have y9 := li2 (at9 - 1) (by omega) (by omega) (by omega)
              exact absurd (show T 523 0 (T2 533 0 (at9 - 1)) = 0 from Int.le_antisymm (by omega) (by omega)) (hka.2 _ (by omega) (by omega))
            · intro b9 b9b
              have e10 : T2 102 (T2 533 0 (at9 - 1)) 5 = T 102 (T2 533 0 (at9 - 1)) 5 := hf_117 102 (T2 533 0 (at9 - 1)) 5 rfl
              rw [e10] at b9 b9b ⊢
              intro b11 b11b
              have e12 : T2 102 (T 100 (T 102 p 0) 7 + k) 5 = T 102 (T 100 (T 102 p 0) 7 + k) 5 := hf_117 102 (T 100 (T 102 p 0) 7 + k) 5 rfl
              rw [e12] at b11 b11b ⊢
              refine And.intro (fun c13 => ?_) (fun c13 => ?_)
              · have sle : at9 = 0 ∨ T 102 (T1 533 0 (at9 - 1)) 5 ≤ T 102 (T 100 (T 102 p 0) 7 + k) 5 := Or.inr (by rw [← sfa (at9 - 1) (by omega) (by omega)]; omega)
                refine hK 169 [some (vR 106 0), some (vI q), some (vR 102 p), some (vI f), some (vI k), some (vR 102 (T 100 (T 102 p 0) 7 + k)), none, some (vI at9)] [] T2 ?_
                refine j_blx (F := fX6) tb_X6 (nn_ _) bk_X6_listAhead_f_169 bs_X6_listAhead_f_169 hz (fun K hK => ?_)
                intro b14 b14b
                have e15 : T2 102 (T 100 (T 102 p 0) 7 + k) 1 = T 102 (T 100 (T 102 p 0) 7 + k) 1 := hf_117 102 (T 100 (T 102 p 0) 7 + k) 1 rfl
                rw [e15] at b14 b14b ⊢
                have hnb := hkm (T 100 (T 102 p 0) 7 + k) (by omega) (by omega)
                refine iy_i (by omega) (by omega) ?_
                refine x_nm (fun U16 hU16 => ?_)
                have e17 := up_f hU16
                refine rg_i (by omega) ?_
                refine rg_i (by omega) ?_
                refine hK 5 [some (vR 106 0), some (vI q), some (vR 102 p), some (vI (f + 1)), some (vI (k + 1)), some (vR 102 (T 100 (T 102 p 0) 7 + k)), none, some (vI at9)] [] U16 ?_
                refine j_drq [some (vR 106 0), some (vI q), some (vR 102 p), some (vI (f + 1)), some (vI (k + 1)), none, none, none] (drq_s (drq_s (drq_s (drq_s (drq_s (drq_n (drq_n (drq_n drq_0)))))))) ?_
                refine ih_5 _ ?_ (f + 1) (k + 1) U16 (Nat.le_refl _) ?_ ?_ ?_ ?_
                · have hm_5 := hm_5 (); omega
                · exact fr_u (fr_t (fr_0 _ _) (fr_s hf_117 rfl)) hU16 rfl
                · omega
                · intro j a b
                  by_cases z : j = at9
                  · rw [z, up_f hU16]; omega
                  · rw [up_g hU16 (fun q => z q.2.2)]; exact li2 j a (by omega) z
                · exact lhd_i (t := at9) (m := T 100 (T 102 p 0) 7 + k) lh1 rfl (by omega) (by omega) (by omega) hrk.1 hrk.2 (by omega) (by omega) sgt sle (fun j a b => (up_g hU16 (fun z => by omega)).trans (sfa j a b)) ((up_f hU16).trans (by omega)) (fun j a b => (up_g hU16 (fun z => by omega)).trans (sfb j a b))
              · refine rg_i (by omega) ?_
                refine ix_i (by omega) ?_
                intro b18 b18b
                refine iy_i (by omega) (by omega) ?_
                refine x_nm (fun U19 hU19 => ?_)
                have e20 := up_f hU19
                refine rg_i (by omega) ?_
                refine hK 117 [some (vR 106 0), some (vI q), some (vR 102 p), some (vI f), some (vI k), some (vR 102 (T 100 (T 102 p 0) 7 + k)), none, some (vI (at9 + (-1)))] [] U19 ?_
                refine ih_117 _ ?_ (at9 + (-1)) U19 (Nat.le_refl _) ?_ ?_ ?_ ?_ ?_ ?_ ?_
                · have hm_117 := hm_117 (); omega
                · exact fr_u (fr_t (fr_0 _ _) (fr_s hf_117 rfl)) hU19 rfl
                · omega
                · intro j a b d
                  by_cases z : j = at9
                  · rw [z, up_f hU19]; exact li2 (at9 - 1) (by omega) (by omega) (by omega)
                  · rw [up_g hU19 (fun q => z q.2.2)]; exact li2 j a b z
                · exact hrk
                · intro j a b
                  by_cases z : j = at9 - 1
                  · rw [z, ← sfa (at9 - 1) (by omega) (by omega)]; omega
                  · exact sgt j (by omega) b
                · exact fun j a b => (up_g hU19 (fun z => by omega)).trans (sfa j a (by omega))
                · intro j a b
                  by_cases z : j = at9
                  · rw [z, up_f hU19]; exact sfa (at9 - 1) (by omega) (by omega)
                  · rw [up_g hU19 (fun y => z y.2.2)]; exact sfb j (by omega) b
      refine j_blx (F := fX6) tb_X6 (nn_ _) bk_X6_listAhead_f_5 bs_X6_listAhead_f_5 hz (fun K hK => ?_)
      have e22 : T1 102 p 0 = T 102 p 0 := hf_5 102 p 0 rfl
      intro b23 b23b
      have e24 : T1 100 (T 102 p 0) 8 = T 100 (T 102 p 0) 8 := hf_5 100 (T 102 p 0) 8 rfl
      have e25 : T1 100 (T1 102 p 0) 8 = T 100 (T 102 p 0) 8 := by rw [e22]; exact e24
      rw [e25] at b23 b23b ⊢
      refine And.intro (fun c26 => ?_) (fun c26 => ?_)
      · refine hK 190 _ [] T1 ?_
        refine j_blx (F := fX6) tb_X6 (nn_ _) bk_X6_listAhead_f_190 bs_X6_listAhead_f_190 hz (fun K hK => ?_)
        refine (show po_X6_listAhead_f T p q T1 (some (vI f)) from ?_)
        rw [show k = T 100 (T 102 p 0) 8 from Int.le_antisymm (by omega) (by omega)] at lh1
        exact ⟨_, rfl, fr_t (fr_0 _ _) (fr_s hf_5 rfl), by omega, li1, lh1⟩
      · have hnb := hkm (T 100 (T 102 p 0) 7 + k) (by omega) (by omega)
        have e28 : T1 102 p 0 = T 102 p 0 := hf_5 102 p 0 rfl
        intro b29 b29b
        have e30 : T1 100 (T 102 p 0) 7 = T 100 (T 102 p 0) 7 := hf_5 100 (T 102 p 0) 7 rfl
        have e31 : T1 100 (T1 102 p 0) 7 = T 100 (T 102 p 0) 7 := by rw [e28]; exact e30
        rw [e31] at b29 b29b ⊢
        refine rg_i (by omega) ?_
        refine ix_i (by omega) ?_
        have e33 : T1 523 0 ((T 100 (T 102 p 0) 7) + k) = T 523 0 ((T 100 (T 102 p 0) 7) + k) := hf_5 523 0 ((T 100 (T 102 p 0) 7) + k) rfl
        refine And.intro (fun c32 => ?_) (fun c32 => ?_)
        · exact absurd (show T 523 0 (T 100 (T 102 p 0) 7 + k) = 0 from Int.le_antisymm (by omega) (by omega)) (hka.2 _ (by omega) (by omega))
        · intro b34 b34b
          have e35 : T1 102 ((T 100 (T 102 p 0) 7) + k) 5 = T 102 ((T 100 (T 102 p 0) 7) + k) 5 := hf_5 102 ((T 100 (T 102 p 0) 7) + k) 5 rfl
          rw [e35] at b34 b34b ⊢
          intro b36 b36b
          have e37 : T1 102 p 5 = T 102 p 5 := hf_5 102 p 5 rfl
          rw [e37] at b36 b36b ⊢
          refine And.intro (fun c38 => ?_) (fun c38 => ?_)
          · refine hK 70 [some (vR 106 0), some (vI q), some (vR 102 p), some (vI f), some (vI k), some (vR 102 ((T 100 (T 102 p 0) 7) + k)), none, none] [] T1 ?_
            refine j_blx (F := fX6) tb_X6 (nn_ _) bk_X6_listAhead_f_70 bs_X6_listAhead_f_70 hz (fun K hK => ?_)
            refine hK 75 _ [vI 1] T1 ?_
            refine j_blx (F := fX6) tb_X6 (nn_ _) bk_X6_listAhead_f_75 bs_X6_listAhead_f_75 hz (fun K hK => ?_)
            refine And.intro (fun c39 => ?_) (fun c39 => ?_)
            · refine hK 184 [some (vR 106 0), some (vI q), some (vR 102 p), some (vI f), some (vI k), some (vR 102 ((T 100 (T 102 p 0) 7) + k)), some (vI 1), none] [] T1 ?_
              refine j_blx (F := fX6) tb_X6 (nn_ _) bk_X6_listAhead_f_184 bs_X6_listAhead_f_184 hz (fun K hK => ?_)
              refine rg_i (by omega) ?_
              refine hK 5 [some (vR 106 0), some (vI q), some (vR 102 p), some (vI f), some (vI (k + 1)), some (vR 102 ((T 100 (T 102 p 0) 7) + k)), some (vI 1), none] [] T1 ?_
              refine j_drq [some (vR 106 0), some (vI q), some (vR 102 p), some (vI f), some (vI (k + 1)), none, none, none] (drq_s (drq_s (drq_s (drq_s (drq_s (drq_n (drq_n (drq_n drq_0)))))))) ?_
              refine ih_5 _ ?_ f (k + 1) T1 (Nat.le_refl _) ?_ ?_ ?_ ?_
              · have hm_5 := hm_5 (); omega
              · exact fr_t (fr_0 _ _) (fr_s hf_5 rfl)
              · omega
              · exact li1
              · exact lhd_n lh1 (fun z => by
                  have z1 := z.1
                  unfold rlH_ at z1
                  have z2 : T 102 (T 100 (T 102 p 0) 7 + k) 5 * 400 + (T 100 (T 102 p 0) 7 + k) < (T 102 p 5 * 400 + p) := z.2
                  omega)
            · refine hK 84 [some (vR 106 0), some (vI q), some (vR 102 p), some (vI f), some (vI k), some (vR 102 ((T 100 (T 102 p 0) 7) + k)), some (vI 1), none] [vR 102 ((T 100 (T 102 p 0) 7) + k)] T1 ?_
              refine j_callV (y := yX2_isDecided) (Yc := zX2_isDecided) (rest := []) [] (ct_X2_isDecided_e (T := T1)) cl_X6_195 (qd_c (by decide +kernel)) (nn_ _) rfl (rf_of rfl) (Nat.le_of_ble_eq_true rfl) (Nat.le_of_ble_eq_true rfl) (Nat.le_of_ble_eq_true rfl) rfl ?_
              rintro _ _ ⟨rfl, x40, rfl, hx40⟩
              have e41 : T1 102 ((T 100 (T 102 p 0) 7) + k) 6 = T 102 ((T 100 (T 102 p 0) 7) + k) 6 := hf_5 102 ((T 100 (T 102 p 0) 7) + k) 6 rfl
              have e42 : T1 102 ((T 100 (T 102 p 0) 7) + k) 10 = T 102 ((T 100 (T 102 p 0) 7) + k) 10 := hf_5 102 ((T 100 (T 102 p 0) 7) + k) 10 rfl
              have e43 : T1 103 ((T 100 (T 102 p 0) 7) + k) 3 = T 103 ((T 100 (T 102 p 0) 7) + k) 3 := hf_5 103 ((T 100 (T 102 p 0) 7) + k) 3 rfl
              show J_ zX6_listAhead T (po_X6_listAhead_f T p q) 0 0 87 _ [vI x40] T1
              refine j_blx (F := fX6) tb_X6 (nn_ _) bk_X6_listAhead_f_87 bs_X6_listAhead_f_87 hz (fun K hK => ?_)
              refine And.intro (fun c44 => ?_) (fun c44 => ?_)
              · replace hx40 := hx40.resolve_left (fun z => absurd (c44.symm.trans z.1) (by decide))
                clear c44
                refine hK 184 _ [] T1 ?_
                refine j_blx (F := fX6) tb_X6 (nn_ _) bk_X6_listAhead_f_184 bs_X6_listAhead_f_184 hz (fun K hK => ?_)
                refine rg_i (by omega) ?_
                refine hK 5 [some (vR 106 0), some (vI q), some (vR 102 p), some (vI f), some (vI (k + 1)), some (vR 102 ((T 100 (T 102 p 0) 7) + k)), some (vI 1), none] [] T1 ?_
                refine j_drq [some (vR 106 0), some (vI q), some (vR 102 p), some (vI f), some (vI (k + 1)), none, none, none] (drq_s (drq_s (drq_s (drq_s (drq_s (drq_n (drq_n (drq_n drq_0)))))))) ?_
                refine ih_5 _ ?_ f (k + 1) T1 (Nat.le_refl _) ?_ ?_ ?_ ?_
                · have hm_5 := hm_5 (); omega
                · exact fr_t (fr_0 _ _) (fr_s hf_5 rfl)
                · omega
                · exact li1
                · exact lhd_n lh1 (fun z => by
                    have z1 := z.1
                    unfold rlH_ at z1
                    have z2 : T 102 (T 100 (T 102 p 0) 7 + k) 5 * 400 + (T 100 (T 102 p 0) 7 + k) < (T 102 p 5 * 400 + p) := z.2
                    omega)
              · replace hx40 := hx40.resolve_right (fun z => c44 z.1)
                clear c44
                intro b45 b45b
                have e46 : T1 102 ((T 100 (T 102 p 0) 7) + k) 5 = T 102 ((T 100 (T 102 p 0) 7) + k) 5 := hf_5 102 ((T 100 (T 102 p 0) 7) + k) 5 rfl
                rw [e46] at b45 b45b ⊢
                refine hK 102 [some (vR 106 0), some (vI q), some (vR 102 p), some (vI f), some (vI k), some (vR 102 ((T 100 (T 102 p 0) 7) + k)), some (vI 1), none] [vI (T 102 ((T 100 (T 102 p 0) 7) + k) 5), vI q, vR 108 0, vR 102 ((T 100 (T 102 p 0) 7) + k)] T1 ?_
                refine j_callV (y := yX8_clubOn) (Yc := zX8_clubOn) (rest := [vR 102 ((T 100 (T 102 p 0) 7) + k)]) [vI q, vI (T 102 ((T 100 (T 102 p 0) 7) + k) 5)] (ct_X8_clubOn_e (T := T1) (by omega) (by have y9 : T1 108 0 3 = T 108 0 3 := hf_5 108 0 3 rfl; omega) (spr_w hsp (fr_t (fr_0 _ _) (fr_s hf_5 rfl)))) cl_X6_165 (qd_c (by decide +kernel)) (nn_ _) rfl (rf_of rfl) (Nat.le_of_ble_eq_true rfl) (Nat.le_of_ble_eq_true rfl) (Nat.le_of_ble_eq_true rfl) rfl ?_
                rintro _ _ ⟨rfl, x47, rfl, hx47⟩
                rw [co_k (T := T) (fr_t (fr_0 _ _) (fr_s hf_5 rfl))] at hx47
                show J_ zX6_listAhead T (po_X6_listAhead_f T p q) 0 0 105 _ [vI x47, vR 102 ((T 100 (T 102 p 0) 7) + k)] T1
                refine j_callV (y := yX2_has) (Yc := zX2_has) (rest := []) [vI x47] (ct_X2_has_f (T := T1)) cl_X6_88 (qd_c (by decide +kernel)) (nn_ _) rfl (rf_of rfl) (Nat.le_of_ble_eq_true rfl) (Nat.le_of_ble_eq_true rfl) (Nat.le_of_ble_eq_true rfl) rfl ?_
                rintro _ _ ⟨rfl, x48, rfl, hx48⟩
                have e49 : T1 102 ((T 100 (T 102 p 0) 7) + k) 3 = T 102 ((T 100 (T 102 p 0) 7) + k) 3 := hf_5 102 ((T 100 (T 102 p 0) 7) + k) 3 rfl
                have e50 : T1 102 ((T 100 (T 102 p 0) 7) + k) 4 = T 102 ((T 100 (T 102 p 0) 7) + k) 4 := hf_5 102 ((T 100 (T 102 p 0) 7) + k) 4 rfl
                show J_ zX6_listAhead T (po_X6_listAhead_f T p q) 0 0 108 _ [vI x48] T1
                refine j_blx (F := fX6) tb_X6 (nn_ _) bk_X6_listAhead_f_108 bs_X6_listAhead_f_108 hz (fun K hK => ?_)
                refine And.intro (fun c51 => ?_) (fun c51 => ?_)
                · replace hx48 := hx48.resolve_right (fun z => c51 z.1)
                  clear c51
                  refine hK 114 _ [] T1 ?_
                  refine j_blx (F := fX6) tb_X6 (nn_ _) bk_X6_listAhead_f_114 bs_X6_listAhead_f_114 hz (fun K hK => ?_)
                  refine hK 117 [some (vR 106 0), some (vI q), some (vR 102 p), some (vI f), some (vI k), some (vR 102 ((T 100 (T 102 p 0) 7) + k)), some (vI 1), some (vI f)] [] T1 ?_
                  refine j_drq [some (vR 106 0), some (vI q), some (vR 102 p), some (vI f), some (vI k), some (vR 102 ((T 100 (T 102 p 0) 7) + k)), none, some (vI f)] (drq_s (drq_s (drq_s (drq_s (drq_s (drq_s (drq_n (drq_s drq_0)))))))) ?_
                  refine c_117 _ f T1 (Nat.le_refl _) ?_ ?_ ?_ ?_ ?_ ?_ ?_
                  · exact fr_t (fr_0 _ _) (fr_s hf_5 rfl)
                  · omega
                  · exact fun j a b d => li1 j a (by omega)
                  · refine ⟨?_, ?_⟩
                    · unfold rlH_; omega
                    · show T 102 (T 100 (T 102 p 0) 7 + k) 5 * 400 + (T 100 (T 102 p 0) 7 + k) < (T 102 p 5 * 400 + p); omega
                  · intro j a b; omega
                  · exact fun j _ _ => rfl
                  · intro j a b; omega
                · replace hx48 := hx48.resolve_left (fun z => absurd (c51.symm.trans z.1) (by decide))
                  clear c51
                  refine hK 184 [some (vR 106 0), some (vI q), some (vR 102 p), some (vI f), some (vI k), some (vR 102 ((T 100 (T 102 p 0) 7) + k)), some (vI 1), none] [] T1 ?_
                  refine j_blx (F := fX6) tb_X6 (nn_ _) bk_X6_listAhead_f_184 bs_X6_listAhead_f_184 hz (fun K hK => ?_)
                  refine rg_i (by omega) ?_
                  refine hK 5 [some (vR 106 0), some (vI q), some (vR 102 p), some (vI f), some (vI (k + 1)), some (vR 102 ((T 100 (T 102 p 0) 7) + k)), some (vI 1), none] [] T1 ?_
                  refine j_drq [some (vR 106 0), some (vI q), some (vR 102 p), some (vI f), some (vI (k + 1)), none, none, none] (drq_s (drq_s (drq_s (drq_s (drq_s (drq_n (drq_n (drq_n drq_0)))))))) ?_
                  refine ih_5 _ ?_ f (k + 1) T1 (Nat.le_refl _) ?_ ?_ ?_ ?_
                  · have hm_5 := hm_5 (); omega
                  · exact fr_t (fr_0 _ _) (fr_s hf_5 rfl)
                  · omega
                  · exact li1
                  · exact lhd_n lh1 (fun z => by
                      have z1 := z.1
                      unfold rlH_ at z1
                      have z2 : T 102 (T 100 (T 102 p 0) 7 + k) 5 * 400 + (T 100 (T 102 p 0) 7 + k) < (T 102 p 5 * 400 + p) := z.2
                      omega)
          · intro b52 b52b
            have e53 : T1 102 ((T 100 (T 102 p 0) 7) + k) 5 = T 102 ((T 100 (T 102 p 0) 7) + k) 5 := hf_5 102 ((T 100 (T 102 p 0) 7) + k) 5 rfl
            rw [e53] at b52 b52b ⊢
            intro b54 b54b
            have e55 : T1 102 p 5 = T 102 p 5 := hf_5 102 p 5 rfl
            rw [e55] at b54 b54b ⊢
            refine And.intro (fun c56 => ?_) (fun c56 => ?_)
            · refine hK 74 _ [] T1 ?_
              refine j_blx (F := fX6) tb_X6 (nn_ _) bk_X6_listAhead_f_74 bs_X6_listAhead_f_74 hz (fun K hK => ?_)
              refine And.intro (fun c57 => ?_) (fun c57 => ?_)
              · refine hK 184 [some (vR 106 0), some (vI q), some (vR 102 p), some (vI f), some (vI k), some (vR 102 ((T 100 (T 102 p 0) 7) + k)), some (vI 0), none] [] T1 ?_
                refine j_blx (F := fX6) tb_X6 (nn_ _) bk_X6_listAhead_f_184 bs_X6_listAhead_f_184 hz (fun K hK => ?_)
                refine rg_i (by omega) ?_
                refine hK 5 [some (vR 106 0), some (vI q), some (vR 102 p), some (vI f), some (vI (k + 1)), some (vR 102 ((T 100 (T 102 p 0) 7) + k)), some (vI 0), none] [] T1 ?_
                refine j_drq [some (vR 106 0), some (vI q), some (vR 102 p), some (vI f), some (vI (k + 1)), none, none, none] (drq_s (drq_s (drq_s (drq_s (drq_s (drq_n (drq_n (drq_n drq_0)))))))) ?_
                refine ih_5 _ ?_ f (k + 1) T1 (Nat.le_refl _) ?_ ?_ ?_ ?_
                · have hm_5 := hm_5 (); omega
                · exact fr_t (fr_0 _ _) (fr_s hf_5 rfl)
                · omega
                · exact li1
                · exact lhd_n lh1 (fun z => by
                    have z1 := z.1
                    unfold rlH_ at z1
                    have z2 : T 102 (T 100 (T 102 p 0) 7 + k) 5 * 400 + (T 100 (T 102 p 0) 7 + k) < (T 102 p 5 * 400 + p) := z.2
                    omega)
              · refine hK 84 [some (vR 106 0), some (vI q), some (vR 102 p), some (vI f), some (vI k), some (vR 102 ((T 100 (T 102 p 0) 7) + k)), some (vI 0), none] [vR 102 ((T 100 (T 102 p 0) 7) + k)] T1 ?_
                refine j_callV (y := yX2_isDecided) (Yc := zX2_isDecided) (rest := []) [] (ct_X2_isDecided_e (T := T1)) cl_X6_195 (qd_c (by decide +kernel)) (nn_ _) rfl (rf_of rfl) (Nat.le_of_ble_eq_true rfl) (Nat.le_of_ble_eq_true rfl) (Nat.le_of_ble_eq_true rfl) rfl ?_
                rintro _ _ ⟨rfl, x58, rfl, hx58⟩
                have e59 : T1 102 ((T 100 (T 102 p 0) 7) + k) 6 = T 102 ((T 100 (T 102 p 0) 7) + k) 6 := hf_5 102 ((T 100 (T 102 p 0) 7) + k) 6 rfl
                have e60 : T1 102 ((T 100 (T 102 p 0) 7) + k) 10 = T 102 ((T 100 (T 102 p 0) 7) + k) 10 := hf_5 102 ((T 100 (T 102 p 0) 7) + k) 10 rfl
                have e61 : T1 103 ((T 100 (T 102 p 0) 7) + k) 3 = T 103 ((T 100 (T 102 p 0) 7) + k) 3 := hf_5 103 ((T 100 (T 102 p 0) 7) + k) 3 rfl
                show J_ zX6_listAhead T (po_X6_listAhead_f T p q) 0 0 87 _ [vI x58] T1
                refine j_blx (F := fX6) tb_X6 (nn_ _) bk_X6_listAhead_f_87 bs_X6_listAhead_f_87 hz (fun K hK => ?_)
                refine And.intro (fun c62 => ?_) (fun c62 => ?_)
                · replace hx58 := hx58.resolve_left (fun z => absurd (c62.symm.trans z.1) (by decide))
                  clear c62
                  refine hK 184 _ [] T1 ?_
                  refine j_blx (F := fX6) tb_X6 (nn_ _) bk_X6_listAhead_f_184 bs_X6_listAhead_f_184 hz (fun K hK => ?_)
                  refine rg_i (by omega) ?_
                  refine hK 5 [some (vR 106 0), some (vI q), some (vR 102 p), some (vI f), some (vI (k + 1)), some (vR 102 ((T 100 (T 102 p 0) 7) + k)), some (vI 0), none] [] T1 ?_
                  refine j_drq [some (vR 106 0), some (vI q), some (vR 102 p), some (vI f), some (vI (k + 1)), none, none, none] (drq_s (drq_s (drq_s (drq_s (drq_s (drq_n (drq_n (drq_n drq_0)))))))) ?_
                  refine ih_5 _ ?_ f (k + 1) T1 (Nat.le_refl _) ?_ ?_ ?_ ?_
                  · have hm_5 := hm_5 (); omega
                  · exact fr_t (fr_0 _ _) (fr_s hf_5 rfl)
                  · omega
                  · exact li1
                  · exact lhd_n lh1 (fun z => by
                      have z1 := z.1
                      unfold rlH_ at z1
                      have z2 : T 102 (T 100 (T 102 p 0) 7 + k) 5 * 400 + (T 100 (T 102 p 0) 7 + k) < (T 102 p 5 * 400 + p) := z.2
                      omega)
                · replace hx58 := hx58.resolve_right (fun z => c62 z.1)
                  clear c62
                  intro b63 b63b
                  have e64 : T1 102 ((T 100 (T 102 p 0) 7) + k) 5 = T 102 ((T 100 (T 102 p 0) 7) + k) 5 := hf_5 102 ((T 100 (T 102 p 0) 7) + k) 5 rfl
                  rw [e64] at b63 b63b ⊢
                  refine hK 102 [some (vR 106 0), some (vI q), some (vR 102 p), some (vI f), some (vI k), some (vR 102 ((T 100 (T 102 p 0) 7) + k)), some (vI 0), none] [vI (T 102 ((T 100 (T 102 p 0) 7) + k) 5), vI q, vR 108 0, vR 102 ((T 100 (T 102 p 0) 7) + k)] T1 ?_
                  refine j_callV (y := yX8_clubOn) (Yc := zX8_clubOn) (rest := [vR 102 ((T 100 (T 102 p 0) 7) + k)]) [vI q, vI (T 102 ((T 100 (T 102 p 0) 7) + k) 5)] (ct_X8_clubOn_e (T := T1) (by omega) (by have y9 : T1 108 0 3 = T 108 0 3 := hf_5 108 0 3 rfl; omega) (spr_w hsp (fr_t (fr_0 _ _) (fr_s hf_5 rfl)))) cl_X6_165 (qd_c (by decide +kernel)) (nn_ _) rfl (rf_of rfl) (Nat.le_of_ble_eq_true rfl) (Nat.le_of_ble_eq_true rfl) (Nat.le_of_ble_eq_true rfl) rfl ?_
                  rintro _ _ ⟨rfl, x65, rfl, hx65⟩
                  rw [co_k (T := T) (fr_t (fr_0 _ _) (fr_s hf_5 rfl))] at hx65
                  show J_ zX6_listAhead T (po_X6_listAhead_f T p q) 0 0 105 _ [vI x65, vR 102 ((T 100 (T 102 p 0) 7) + k)] T1
                  refine j_callV (y := yX2_has) (Yc := zX2_has) (rest := []) [vI x65] (ct_X2_has_f (T := T1)) cl_X6_88 (qd_c (by decide +kernel)) (nn_ _) rfl (rf_of rfl) (Nat.le_of_ble_eq_true rfl) (Nat.le_of_ble_eq_true rfl) (Nat.le_of_ble_eq_true rfl) rfl ?_
                  rintro _ _ ⟨rfl, x66, rfl, hx66⟩
                  have e67 : T1 102 ((T 100 (T 102 p 0) 7) + k) 3 = T 102 ((T 100 (T 102 p 0) 7) + k) 3 := hf_5 102 ((T 100 (T 102 p 0) 7) + k) 3 rfl
                  have e68 : T1 102 ((T 100 (T 102 p 0) 7) + k) 4 = T 102 ((T 100 (T 102 p 0) 7) + k) 4 := hf_5 102 ((T 100 (T 102 p 0) 7) + k) 4 rfl
                  show J_ zX6_listAhead T (po_X6_listAhead_f T p q) 0 0 108 _ [vI x66] T1
                  refine j_blx (F := fX6) tb_X6 (nn_ _) bk_X6_listAhead_f_108 bs_X6_listAhead_f_108 hz (fun K hK => ?_)
                  refine And.intro (fun c69 => ?_) (fun c69 => ?_)
                  · replace hx66 := hx66.resolve_right (fun z => c69 z.1)
                    clear c69
                    refine hK 114 _ [] T1 ?_
                    refine j_blx (F := fX6) tb_X6 (nn_ _) bk_X6_listAhead_f_114 bs_X6_listAhead_f_114 hz (fun K hK => ?_)
                    refine hK 117 [some (vR 106 0), some (vI q), some (vR 102 p), some (vI f), some (vI k), some (vR 102 ((T 100 (T 102 p 0) 7) + k)), some (vI 0), some (vI f)] [] T1 ?_
                    refine j_drq [some (vR 106 0), some (vI q), some (vR 102 p), some (vI f), some (vI k), some (vR 102 ((T 100 (T 102 p 0) 7) + k)), none, some (vI f)] (drq_s (drq_s (drq_s (drq_s (drq_s (drq_s (drq_n (drq_s drq_0)))))))) ?_
                    refine c_117 _ f T1 (Nat.le_refl _) ?_ ?_ ?_ ?_ ?_ ?_ ?_
                    · exact fr_t (fr_0 _ _) (fr_s hf_5 rfl)
                    · omega
                    · exact fun j a b d => li1 j a (by omega)
                    · refine ⟨?_, ?_⟩
                      · unfold rlH_; omega
                      · show T 102 (T 100 (T 102 p 0) 7 + k) 5 * 400 + (T 100 (T 102 p 0) 7 + k) < (T 102 p 5 * 400 + p); omega
                    · intro j a b; omega
                    · exact fun j _ _ => rfl
                    · intro j a b; omega
                  · replace hx66 := hx66.resolve_left (fun z => absurd (c69.symm.trans z.1) (by decide))
                    clear c69
                    refine hK 184 [some (vR 106 0), some (vI q), some (vR 102 p), some (vI f), some (vI k), some (vR 102 ((T 100 (T 102 p 0) 7) + k)), some (vI 0), none] [] T1 ?_
                    refine j_blx (F := fX6) tb_X6 (nn_ _) bk_X6_listAhead_f_184 bs_X6_listAhead_f_184 hz (fun K hK => ?_)
                    refine rg_i (by omega) ?_
                    refine hK 5 [some (vR 106 0), some (vI q), some (vR 102 p), some (vI f), some (vI (k + 1)), some (vR 102 ((T 100 (T 102 p 0) 7) + k)), some (vI 0), none] [] T1 ?_
                    refine j_drq [some (vR 106 0), some (vI q), some (vR 102 p), some (vI f), some (vI (k + 1)), none, none, none] (drq_s (drq_s (drq_s (drq_s (drq_s (drq_n (drq_n (drq_n drq_0)))))))) ?_
                    refine ih_5 _ ?_ f (k + 1) T1 (Nat.le_refl _) ?_ ?_ ?_ ?_
                    · have hm_5 := hm_5 (); omega
                    · exact fr_t (fr_0 _ _) (fr_s hf_5 rfl)
                    · omega
                    · exact li1
                    · exact lhd_n lh1 (fun z => by
                        have z1 := z.1
                        unfold rlH_ at z1
                        have z2 : T 102 (T 100 (T 102 p 0) 7 + k) 5 * 400 + (T 100 (T 102 p 0) 7 + k) < (T 102 p 5 * 400 + p) := z.2
                        omega)
            · intro b70 b70b
              have e71 : T1 102 ((T 100 (T 102 p 0) 7) + k) 1 = T 102 ((T 100 (T 102 p 0) 7) + k) 1 := hf_5 102 ((T 100 (T 102 p 0) 7) + k) 1 rfl
              rw [e71] at b70 b70b ⊢
              intro b72 b72b
              have e73 : T1 102 p 1 = T 102 p 1 := hf_5 102 p 1 rfl
              rw [e73] at b72 b72b ⊢
              refine And.intro (fun c74 => ?_) (fun c74 => ?_)
              · refine hK 74 _ [] T1 ?_
                refine j_blx (F := fX6) tb_X6 (nn_ _) bk_X6_listAhead_f_74 bs_X6_listAhead_f_74 hz (fun K hK => ?_)
                refine And.intro (fun c75 => ?_) (fun c75 => ?_)
                · refine hK 184 [some (vR 106 0), some (vI q), some (vR 102 p), some (vI f), some (vI k), some (vR 102 ((T 100 (T 102 p 0) 7) + k)), some (vI 0), none] [] T1 ?_
                  refine j_blx (F := fX6) tb_X6 (nn_ _) bk_X6_listAhead_f_184 bs_X6_listAhead_f_184 hz (fun K hK => ?_)
                  refine rg_i (by omega) ?_
                  refine hK 5 [some (vR 106 0), some (vI q), some (vR 102 p), some (vI f), some (vI (k + 1)), some (vR 102 ((T 100 (T 102 p 0) 7) + k)), some (vI 0), none] [] T1 ?_
                  refine j_drq [some (vR 106 0), some (vI q), some (vR 102 p), some (vI f), some (vI (k + 1)), none, none, none] (drq_s (drq_s (drq_s (drq_s (drq_s (drq_n (drq_n (drq_n drq_0)))))))) ?_
                  refine ih_5 _ ?_ f (k + 1) T1 (Nat.le_refl _) ?_ ?_ ?_ ?_
                  · have hm_5 := hm_5 (); omega
                  · exact fr_t (fr_0 _ _) (fr_s hf_5 rfl)
                  · omega
                  · exact li1
                  · exact lhd_n lh1 (fun z => by
                      have z1 := z.1
                      unfold rlH_ at z1
                      have z2 : T 102 (T 100 (T 102 p 0) 7 + k) 5 * 400 + (T 100 (T 102 p 0) 7 + k) < (T 102 p 5 * 400 + p) := z.2
                      omega)
                · refine hK 84 [some (vR 106 0), some (vI q), some (vR 102 p), some (vI f), some (vI k), some (vR 102 ((T 100 (T 102 p 0) 7) + k)), some (vI 0), none] [vR 102 ((T 100 (T 102 p 0) 7) + k)] T1 ?_
                  refine j_callV (y := yX2_isDecided) (Yc := zX2_isDecided) (rest := []) [] (ct_X2_isDecided_e (T := T1)) cl_X6_195 (qd_c (by decide +kernel)) (nn_ _) rfl (rf_of rfl) (Nat.le_of_ble_eq_true rfl) (Nat.le_of_ble_eq_true rfl) (Nat.le_of_ble_eq_true rfl) rfl ?_
                  rintro _ _ ⟨rfl, x76, rfl, hx76⟩
                  have e77 : T1 102 ((T 100 (T 102 p 0) 7) + k) 6 = T 102 ((T 100 (T 102 p 0) 7) + k) 6 := hf_5 102 ((T 100 (T 102 p 0) 7) + k) 6 rfl
                  have e78 : T1 102 ((T 100 (T 102 p 0) 7) + k) 10 = T 102 ((T 100 (T 102 p 0) 7) + k) 10 := hf_5 102 ((T 100 (T 102 p 0) 7) + k) 10 rfl
                  have e79 : T1 103 ((T 100 (T 102 p 0) 7) + k) 3 = T 103 ((T 100 (T 102 p 0) 7) + k) 3 := hf_5 103 ((T 100 (T 102 p 0) 7) + k) 3 rfl
                  show J_ zX6_listAhead T (po_X6_listAhead_f T p q) 0 0 87 _ [vI x76] T1
                  refine j_blx (F := fX6) tb_X6 (nn_ _) bk_X6_listAhead_f_87 bs_X6_listAhead_f_87 hz (fun K hK => ?_)
                  refine And.intro (fun c80 => ?_) (fun c80 => ?_)
                  · replace hx76 := hx76.resolve_left (fun z => absurd (c80.symm.trans z.1) (by decide))
                    clear c80
                    refine hK 184 _ [] T1 ?_
                    refine j_blx (F := fX6) tb_X6 (nn_ _) bk_X6_listAhead_f_184 bs_X6_listAhead_f_184 hz (fun K hK => ?_)
                    refine rg_i (by omega) ?_
                    refine hK 5 [some (vR 106 0), some (vI q), some (vR 102 p), some (vI f), some (vI (k + 1)), some (vR 102 ((T 100 (T 102 p 0) 7) + k)), some (vI 0), none] [] T1 ?_
                    refine j_drq [some (vR 106 0), some (vI q), some (vR 102 p), some (vI f), some (vI (k + 1)), none, none, none] (drq_s (drq_s (drq_s (drq_s (drq_s (drq_n (drq_n (drq_n drq_0)))))))) ?_
                    refine ih_5 _ ?_ f (k + 1) T1 (Nat.le_refl _) ?_ ?_ ?_ ?_
                    · have hm_5 := hm_5 (); omega
                    · exact fr_t (fr_0 _ _) (fr_s hf_5 rfl)
                    · omega
                    · exact li1
                    · exact lhd_n lh1 (fun z => by
                        have z1 := z.1
                        unfold rlH_ at z1
                        have z2 : T 102 (T 100 (T 102 p 0) 7 + k) 5 * 400 + (T 100 (T 102 p 0) 7 + k) < (T 102 p 5 * 400 + p) := z.2
                        omega)
                  · replace hx76 := hx76.resolve_right (fun z => c80 z.1)
                    clear c80
                    intro b81 b81b
                    have e82 : T1 102 ((T 100 (T 102 p 0) 7) + k) 5 = T 102 ((T 100 (T 102 p 0) 7) + k) 5 := hf_5 102 ((T 100 (T 102 p 0) 7) + k) 5 rfl
                    rw [e82] at b81 b81b ⊢
                    refine hK 102 [some (vR 106 0), some (vI q), some (vR 102 p), some (vI f), some (vI k), some (vR 102 ((T 100 (T 102 p 0) 7) + k)), some (vI 0), none] [vI (T 102 ((T 100 (T 102 p 0) 7) + k) 5), vI q, vR 108 0, vR 102 ((T 100 (T 102 p 0) 7) + k)] T1 ?_
                    refine j_callV (y := yX8_clubOn) (Yc := zX8_clubOn) (rest := [vR 102 ((T 100 (T 102 p 0) 7) + k)]) [vI q, vI (T 102 ((T 100 (T 102 p 0) 7) + k) 5)] (ct_X8_clubOn_e (T := T1) (by omega) (by have y9 : T1 108 0 3 = T 108 0 3 := hf_5 108 0 3 rfl; omega) (spr_w hsp (fr_t (fr_0 _ _) (fr_s hf_5 rfl)))) cl_X6_165 (qd_c (by decide +kernel)) (nn_ _) rfl (rf_of rfl) (Nat.le_of_ble_eq_true rfl) (Nat.le_of_ble_eq_true rfl) (Nat.le_of_ble_eq_true rfl) rfl ?_
                    rintro _ _ ⟨rfl, x83, rfl, hx83⟩
                    rw [co_k (T := T) (fr_t (fr_0 _ _) (fr_s hf_5 rfl))] at hx83
                    show J_ zX6_listAhead T (po_X6_listAhead_f T p q) 0 0 105 _ [vI x83, vR 102 ((T 100 (T 102 p 0) 7) + k)] T1
                    refine j_callV (y := yX2_has) (Yc := zX2_has) (rest := []) [vI x83] (ct_X2_has_f (T := T1)) cl_X6_88 (qd_c (by decide +kernel)) (nn_ _) rfl (rf_of rfl) (Nat.le_of_ble_eq_true rfl) (Nat.le_of_ble_eq_true rfl) (Nat.le_of_ble_eq_true rfl) rfl ?_
                    rintro _ _ ⟨rfl, x84, rfl, hx84⟩
                    have e85 : T1 102 ((T 100 (T 102 p 0) 7) + k) 3 = T 102 ((T 100 (T 102 p 0) 7) + k) 3 := hf_5 102 ((T 100 (T 102 p 0) 7) + k) 3 rfl
                    have e86 : T1 102 ((T 100 (T 102 p 0) 7) + k) 4 = T 102 ((T 100 (T 102 p 0) 7) + k) 4 := hf_5 102 ((T 100 (T 102 p 0) 7) + k) 4 rfl
                    show J_ zX6_listAhead T (po_X6_listAhead_f T p q) 0 0 108 _ [vI x84] T1
                    refine j_blx (F := fX6) tb_X6 (nn_ _) bk_X6_listAhead_f_108 bs_X6_listAhead_f_108 hz (fun K hK => ?_)
                    refine And.intro (fun c87 => ?_) (fun c87 => ?_)
                    · replace hx84 := hx84.resolve_right (fun z => c87 z.1)
                      clear c87
                      refine hK 114 _ [] T1 ?_
                      refine j_blx (F := fX6) tb_X6 (nn_ _) bk_X6_listAhead_f_114 bs_X6_listAhead_f_114 hz (fun K hK => ?_)
                      refine hK 117 [some (vR 106 0), some (vI q), some (vR 102 p), some (vI f), some (vI k), some (vR 102 ((T 100 (T 102 p 0) 7) + k)), some (vI 0), some (vI f)] [] T1 ?_
                      refine j_drq [some (vR 106 0), some (vI q), some (vR 102 p), some (vI f), some (vI k), some (vR 102 ((T 100 (T 102 p 0) 7) + k)), none, some (vI f)] (drq_s (drq_s (drq_s (drq_s (drq_s (drq_s (drq_n (drq_s drq_0)))))))) ?_
                      refine c_117 _ f T1 (Nat.le_refl _) ?_ ?_ ?_ ?_ ?_ ?_ ?_
                      · exact fr_t (fr_0 _ _) (fr_s hf_5 rfl)
                      · omega
                      · exact fun j a b d => li1 j a (by omega)
                      · refine ⟨?_, ?_⟩
                        · unfold rlH_; omega
                        · show T 102 (T 100 (T 102 p 0) 7 + k) 5 * 400 + (T 100 (T 102 p 0) 7 + k) < (T 102 p 5 * 400 + p); omega
                      · intro j a b; omega
                      · exact fun j _ _ => rfl
                      · intro j a b; omega
                    · replace hx84 := hx84.resolve_left (fun z => absurd (c87.symm.trans z.1) (by decide))
                      clear c87
                      refine hK 184 [some (vR 106 0), some (vI q), some (vR 102 p), some (vI f), some (vI k), some (vR 102 ((T 100 (T 102 p 0) 7) + k)), some (vI 0), none] [] T1 ?_
                      refine j_blx (F := fX6) tb_X6 (nn_ _) bk_X6_listAhead_f_184 bs_X6_listAhead_f_184 hz (fun K hK => ?_)
                      refine rg_i (by omega) ?_
                      refine hK 5 [some (vR 106 0), some (vI q), some (vR 102 p), some (vI f), some (vI (k + 1)), some (vR 102 ((T 100 (T 102 p 0) 7) + k)), some (vI 0), none] [] T1 ?_
                      refine j_drq [some (vR 106 0), some (vI q), some (vR 102 p), some (vI f), some (vI (k + 1)), none, none, none] (drq_s (drq_s (drq_s (drq_s (drq_s (drq_n (drq_n (drq_n drq_0)))))))) ?_
                      refine ih_5 _ ?_ f (k + 1) T1 (Nat.le_refl _) ?_ ?_ ?_ ?_
                      · have hm_5 := hm_5 (); omega
                      · exact fr_t (fr_0 _ _) (fr_s hf_5 rfl)
                      · omega
                      · exact li1
                      · exact lhd_n lh1 (fun z => by
                          have z1 := z.1
                          unfold rlH_ at z1
                          have z2 : T 102 (T 100 (T 102 p 0) 7 + k) 5 * 400 + (T 100 (T 102 p 0) 7 + k) < (T 102 p 5 * 400 + p) := z.2
                          omega)
              · refine hK 75 _ [vI 1] T1 ?_
                refine j_blx (F := fX6) tb_X6 (nn_ _) bk_X6_listAhead_f_75 bs_X6_listAhead_f_75 hz (fun K hK => ?_)
                refine And.intro (fun c88 => ?_) (fun c88 => ?_)
                · refine hK 184 [some (vR 106 0), some (vI q), some (vR 102 p), some (vI f), some (vI k), some (vR 102 ((T 100 (T 102 p 0) 7) + k)), some (vI 1), none] [] T1 ?_
                  refine j_blx (F := fX6) tb_X6 (nn_ _) bk_X6_listAhead_f_184 bs_X6_listAhead_f_184 hz (fun K hK => ?_)
                  refine rg_i (by omega) ?_
                  refine hK 5 [some (vR 106 0), some (vI q), some (vR 102 p), some (vI f), some (vI (k + 1)), some (vR 102 ((T 100 (T 102 p 0) 7) + k)), some (vI 1), none] [] T1 ?_
                  refine j_drq [some (vR 106 0), some (vI q), some (vR 102 p), some (vI f), some (vI (k + 1)), none, none, none] (drq_s (drq_s (drq_s (drq_s (drq_s (drq_n (drq_n (drq_n drq_0)))))))) ?_
                  refine ih_5 _ ?_ f (k + 1) T1 (Nat.le_refl _) ?_ ?_ ?_ ?_
                  · have hm_5 := hm_5 (); omega
                  · exact fr_t (fr_0 _ _) (fr_s hf_5 rfl)
                  · omega
                  · exact li1
                  · exact lhd_n lh1 (fun z => by
                      have z1 := z.1
                      unfold rlH_ at z1
                      have z2 : T 102 (T 100 (T 102 p 0) 7 + k) 5 * 400 + (T 100 (T 102 p 0) 7 + k) < (T 102 p 5 * 400 + p) := z.2
                      omega)
                · refine hK 84 [some (vR 106 0), some (vI q), some (vR 102 p), some (vI f), some (vI k), some (vR 102 ((T 100 (T 102 p 0) 7) + k)), some (vI 1), none] [vR 102 ((T 100 (T 102 p 0) 7) + k)] T1 ?_
                  refine j_callV (y := yX2_isDecided) (Yc := zX2_isDecided) (rest := []) [] (ct_X2_isDecided_e (T := T1)) cl_X6_195 (qd_c (by decide +kernel)) (nn_ _) rfl (rf_of rfl) (Nat.le_of_ble_eq_true rfl) (Nat.le_of_ble_eq_true rfl) (Nat.le_of_ble_eq_true rfl) rfl ?_
                  rintro _ _ ⟨rfl, x89, rfl, hx89⟩
                  have e90 : T1 102 ((T 100 (T 102 p 0) 7) + k) 6 = T 102 ((T 100 (T 102 p 0) 7) + k) 6 := hf_5 102 ((T 100 (T 102 p 0) 7) + k) 6 rfl
                  have e91 : T1 102 ((T 100 (T 102 p 0) 7) + k) 10 = T 102 ((T 100 (T 102 p 0) 7) + k) 10 := hf_5 102 ((T 100 (T 102 p 0) 7) + k) 10 rfl
                  have e92 : T1 103 ((T 100 (T 102 p 0) 7) + k) 3 = T 103 ((T 100 (T 102 p 0) 7) + k) 3 := hf_5 103 ((T 100 (T 102 p 0) 7) + k) 3 rfl
                  show J_ zX6_listAhead T (po_X6_listAhead_f T p q) 0 0 87 _ [vI x89] T1
                  refine j_blx (F := fX6) tb_X6 (nn_ _) bk_X6_listAhead_f_87 bs_X6_listAhead_f_87 hz (fun K hK => ?_)
                  refine And.intro (fun c93 => ?_) (fun c93 => ?_)
                  · replace hx89 := hx89.resolve_left (fun z => absurd (c93.symm.trans z.1) (by decide))
                    clear c93
                    refine hK 184 _ [] T1 ?_
                    refine j_blx (F := fX6) tb_X6 (nn_ _) bk_X6_listAhead_f_184 bs_X6_listAhead_f_184 hz (fun K hK => ?_)
                    refine rg_i (by omega) ?_
                    refine hK 5 [some (vR 106 0), some (vI q), some (vR 102 p), some (vI f), some (vI (k + 1)), some (vR 102 ((T 100 (T 102 p 0) 7) + k)), some (vI 1), none] [] T1 ?_
                    refine j_drq [some (vR 106 0), some (vI q), some (vR 102 p), some (vI f), some (vI (k + 1)), none, none, none] (drq_s (drq_s (drq_s (drq_s (drq_s (drq_n (drq_n (drq_n drq_0)))))))) ?_
                    refine ih_5 _ ?_ f (k + 1) T1 (Nat.le_refl _) ?_ ?_ ?_ ?_
                    · have hm_5 := hm_5 (); omega
                    · exact fr_t (fr_0 _ _) (fr_s hf_5 rfl)
                    · omega
                    · exact li1
                    · exact lhd_n lh1 (fun z => by
                        have z1 := z.1
                        unfold rlH_ at z1
                        have z2 : T 102 (T 100 (T 102 p 0) 7 + k) 5 * 400 + (T 100 (T 102 p 0) 7 + k) < (T 102 p 5 * 400 + p) := z.2
                        omega)
                  · replace hx89 := hx89.resolve_right (fun z => c93 z.1)
                    clear c93
                    intro b94 b94b
                    have e95 : T1 102 ((T 100 (T 102 p 0) 7) + k) 5 = T 102 ((T 100 (T 102 p 0) 7) + k) 5 := hf_5 102 ((T 100 (T 102 p 0) 7) + k) 5 rfl
                    rw [e95] at b94 b94b ⊢
                    refine hK 102 [some (vR 106 0), some (vI q), some (vR 102 p), some (vI f), some (vI k), some (vR 102 ((T 100 (T 102 p 0) 7) + k)), some (vI 1), none] [vI (T 102 ((T 100 (T 102 p 0) 7) + k) 5), vI q, vR 108 0, vR 102 ((T 100 (T 102 p 0) 7) + k)] T1 ?_
                    refine j_callV (y := yX8_clubOn) (Yc := zX8_clubOn) (rest := [vR 102 ((T 100 (T 102 p 0) 7) + k)]) [vI q, vI (T 102 ((T 100 (T 102 p 0) 7) + k) 5)] (ct_X8_clubOn_e (T := T1) (by omega) (by have y9 : T1 108 0 3 = T 108 0 3 := hf_5 108 0 3 rfl; omega) (spr_w hsp (fr_t (fr_0 _ _) (fr_s hf_5 rfl)))) cl_X6_165 (qd_c (by decide +kernel)) (nn_ _) rfl (rf_of rfl) (Nat.le_of_ble_eq_true rfl) (Nat.le_of_ble_eq_true rfl) (Nat.le_of_ble_eq_true rfl) rfl ?_
                    rintro _ _ ⟨rfl, x96, rfl, hx96⟩
                    rw [co_k (T := T) (fr_t (fr_0 _ _) (fr_s hf_5 rfl))] at hx96
                    show J_ zX6_listAhead T (po_X6_listAhead_f T p q) 0 0 105 _ [vI x96, vR 102 ((T 100 (T 102 p 0) 7) + k)] T1
                    refine j_callV (y := yX2_has) (Yc := zX2_has) (rest := []) [vI x96] (ct_X2_has_f (T := T1)) cl_X6_88 (qd_c (by decide +kernel)) (nn_ _) rfl (rf_of rfl) (Nat.le_of_ble_eq_true rfl) (Nat.le_of_ble_eq_true rfl) (Nat.le_of_ble_eq_true rfl) rfl ?_
                    rintro _ _ ⟨rfl, x97, rfl, hx97⟩
                    have e98 : T1 102 ((T 100 (T 102 p 0) 7) + k) 3 = T 102 ((T 100 (T 102 p 0) 7) + k) 3 := hf_5 102 ((T 100 (T 102 p 0) 7) + k) 3 rfl
                    have e99 : T1 102 ((T 100 (T 102 p 0) 7) + k) 4 = T 102 ((T 100 (T 102 p 0) 7) + k) 4 := hf_5 102 ((T 100 (T 102 p 0) 7) + k) 4 rfl
                    show J_ zX6_listAhead T (po_X6_listAhead_f T p q) 0 0 108 _ [vI x97] T1
                    refine j_blx (F := fX6) tb_X6 (nn_ _) bk_X6_listAhead_f_108 bs_X6_listAhead_f_108 hz (fun K hK => ?_)
                    refine And.intro (fun c100 => ?_) (fun c100 => ?_)
                    · replace hx97 := hx97.resolve_right (fun z => c100 z.1)
                      clear c100
                      refine hK 114 _ [] T1 ?_
                      refine j_blx (F := fX6) tb_X6 (nn_ _) bk_X6_listAhead_f_114 bs_X6_listAhead_f_114 hz (fun K hK => ?_)
                      refine hK 117 [some (vR 106 0), some (vI q), some (vR 102 p), some (vI f), some (vI k), some (vR 102 ((T 100 (T 102 p 0) 7) + k)), some (vI 1), some (vI f)] [] T1 ?_
                      refine j_drq [some (vR 106 0), some (vI q), some (vR 102 p), some (vI f), some (vI k), some (vR 102 ((T 100 (T 102 p 0) 7) + k)), none, some (vI f)] (drq_s (drq_s (drq_s (drq_s (drq_s (drq_s (drq_n (drq_s drq_0)))))))) ?_
                      refine c_117 _ f T1 (Nat.le_refl _) ?_ ?_ ?_ ?_ ?_ ?_ ?_
                      · exact fr_t (fr_0 _ _) (fr_s hf_5 rfl)
                      · omega
                      · exact fun j a b d => li1 j a (by omega)
                      · refine ⟨?_, ?_⟩
                        · unfold rlH_; omega
                        · show T 102 (T 100 (T 102 p 0) 7 + k) 5 * 400 + (T 100 (T 102 p 0) 7 + k) < (T 102 p 5 * 400 + p); omega
                      · intro j a b; omega
                      · exact fun j _ _ => rfl
                      · intro j a b; omega
                    · replace hx97 := hx97.resolve_left (fun z => absurd (c100.symm.trans z.1) (by decide))
                      clear c100
                      refine hK 184 [some (vR 106 0), some (vI q), some (vR 102 p), some (vI f), some (vI k), some (vR 102 ((T 100 (T 102 p 0) 7) + k)), some (vI 1), none] [] T1 ?_
                      refine j_blx (F := fX6) tb_X6 (nn_ _) bk_X6_listAhead_f_184 bs_X6_listAhead_f_184 hz (fun K hK => ?_)
                      refine rg_i (by omega) ?_
                      refine hK 5 [some (vR 106 0), some (vI q), some (vR 102 p), some (vI f), some (vI (k + 1)), some (vR 102 ((T 100 (T 102 p 0) 7) + k)), some (vI 1), none] [] T1 ?_
                      refine j_drq [some (vR 106 0), some (vI q), some (vR 102 p), some (vI f), some (vI (k + 1)), none, none, none] (drq_s (drq_s (drq_s (drq_s (drq_s (drq_n (drq_n (drq_n drq_0)))))))) ?_
                      refine ih_5 _ ?_ f (k + 1) T1 (Nat.le_refl _) ?_ ?_ ?_ ?_
                      · have hm_5 := hm_5 (); omega
                      · exact fr_t (fr_0 _ _) (fr_s hf_5 rfl)
                      · omega
                      · exact li1
                      · exact lhd_n lh1 (fun z => by
                          have z1 := z.1
                          unfold rlH_ at z1
                          have z2 : T 102 (T 100 (T 102 p 0) 7 + k) 5 * 400 + (T 100 (T 102 p 0) 7 + k) < (T 102 p 5 * 400 + p) := z.2
                          omega)
  refine j_blx (F := fX6) tb_X6 (nn_ _) bk_X6_listAhead_f_0 bs_X6_listAhead_f_0 hz (fun K hK => ?_)
  refine hK 5 [some (vR 106 0), some (vI q), some (vR 102 p), some (vI 0), some (vI 0), none, none, none] [] T ?_
  refine c_5 _ 0 0 T (Nat.le_refl _) ?_ ?_ ?_ ?_
  · exact fr_0 _ _
  · omega
  · intro j a b; omega
  · exact lhd_0
theorem bk_X3_isSentOff_f_0 : ck_ fX3 (some .boolean) cX3_isSentOff 0 [.aload 0, .tableswitch 0 3 12 #[], .iload 1, .iaload, .iconst 3, .if_icmp .ne 14, .iconst 1, .goto 15] 14 = true := qck_r (nn_ _) (by decide +kernel)
theorem bs_X3_isSentOff_f_0 {P : Zt → Option Zv → Prop} (K : Int → Zl → List Zv → Zt → Prop) : sx_ K P [.aload 0, .tableswitch 0 3 12 #[], .iload 1, .iaload, .iconst 3, .if_icmp .ne 14, .iconst 1, .goto 15] 14 = x_aload 0 (x_g2 103 472 (x_iload 1 (x_iaload (x_iconst 3 (x_if_icmp .ne 14 K (x_iconst 1 (x_goto 15 K))))))) := ((xe_aload 0).trans (congrArg (x_aload 0) ((xe_g2 (kk := 103) rfl tl_3_12).trans (congrArg (x_g2 103 472) ((xe_iload 1).trans (congrArg (x_iload 1) ((xe_iaload).trans (congrArg (x_iaload) ((xe_iconst 3).trans (congrArg (x_iconst 3) ((xe_if_icmp .ne 14).trans (congrArg (x_if_icmp .ne 14 K) ((xe_iconst 1).trans (congrArg (x_iconst 1) (xe_goto 15)))))))))))))))
theorem bk_X3_isSentOff_f_14 : ck_ fX3 (some .boolean) cX3_isSentOff 14 [.iconst 0, .ireturn] 16 = true := qck_r (nn_ _) (by decide +kernel)
theorem bs_X3_isSentOff_f_14 {P : Zt → Option Zv → Prop} (K : Int → Zl → List Zv → Zt → Prop) : sx_ K P [.iconst 0, .ireturn] 16 = x_iconst 0 (x_ireturn P) := ((xe_iconst 0).trans (congrArg (x_iconst 0) (xe_ireturn)))
theorem bk_X3_isSentOff_f_15 : ck_ fX3 (some .boolean) cX3_isSentOff 15 [.ireturn] 16 = true := qck_r (nn_ _) (by decide +kernel)
theorem bs_X3_isSentOff_f_15 {P : Zt → Option Zv → Prop} (K : Int → Zl → List Zv → Zt → Prop) : sx_ K P [.ireturn] 16 = x_ireturn P := (xe_ireturn)
abbrev po_X3_isSentOff_f (T : Zt) (p : Int) (k : Int) : Zt → Option Zv → Prop := fun T' r => T = T' ∧ ∃ x : Int, r = some (vI x) ∧ ((x = 1 ∧ T 472 p k = 3) ∨ (x = 0 ∧ T 472 p k ≠ 3))
set_option maxHeartbeats 4000000 in
theorem ct_X3_isSentOff_f {T : Zt} {p : Int} {k : Int} (h1 : 0 ≤ k ∧ k < 20) : Ct_ yX3_isSentOff zX3_isSentOff T [vR 103 p, vI k] (po_X3_isSentOff_f T p k) := by
  refine ct_of pn_3 rfl rfl (Nat.le_of_ble_eq_true rfl) (fun hT hav => ?_)
  have hr_k : -2147483648 ≤ k ∧ k ≤ 2147483647 := hav (vI k) (List.mem_cons_of_mem _ List.mem_cons_self)
  have hz : zX3_isSentOff.2.2.2.1 = some .boolean → ∀ (T' : Zt) (x : Int), po_X3_isSentOff_f T p k T' (some (vI x)) → 0 ≤ x ∧ x ≤ 1 := fun _ T' x h => by obtain ⟨-, y, e, hy⟩ := h; cases e; omega
  show J_ zX3_isSentOff T (po_X3_isSentOff_f T p k) 0 0 0 [some (vR 103 p), some (vI k)] [] T
  refine j_blx (F := fX3) tb_X3 (nn_ _) bk_X3_isSentOff_f_0 bs_X3_isSentOff_f_0 hz (fun K hK => ?_)
  refine ix_i (by omega) ?_
  intro b1 b1b
  refine And.intro (fun c2 => ?_) (fun c2 => ?_)
  · refine hK 14 _ [] T ?_
    refine j_blx (F := fX3) tb_X3 (nn_ _) bk_X3_isSentOff_f_14 bs_X3_isSentOff_f_14 hz (fun K hK => ?_)
    refine (show po_X3_isSentOff_f T p k T (some (vI 0)) from ?_)
    exact ⟨rfl, _, rfl, Or.inr ⟨rfl, by omega⟩⟩
  · refine hK 15 _ [vI 1] T ?_
    refine j_blx (F := fX3) tb_X3 (nn_ _) bk_X3_isSentOff_f_15 bs_X3_isSentOff_f_15 hz (fun K hK => ?_)
    refine (show po_X3_isSentOff_f T p k T (some (vI 1)) from ?_)
    exact ⟨rfl, _, rfl, Or.inl ⟨rfl, by omega⟩⟩
theorem plN_k {T T' : Zt} {m q s : Int} (e : ∀ j, T' 448 m j = T 448 m j) : ∀ (n : Nat) (i : Int), plN_ T' m q s n i = plN_ T m q s n i
  | 0, _ => rfl
  | n + 1, i => by
    show (if _ then _ else _) = (if _ then _ else _)
    rw [e, plN_k e n]
theorem plc_k {T T' : Zt} (f : fr_ [(533, [])] T T') {m q : Int} : plc_ T' m q = plc_ T m q := by
  unfold plc_
  rw [f 449 m 0 rfl, f 449 m 1 rfl, plN_k (fun j => f 448 m j rfl), plN_k (fun j => f 448 m j rfl)]
theorem bk_X6_isBanned_f_153 : ck_ fX6 (some .boolean) cX6_isBanned 153 [.iinc 7 1, .goto 28] 159 = true := qck_r (nn_ _) (by decide +kernel)
theorem bs_X6_isBanned_f_153 {P : Zt → Option Zv → Prop} (K : Int → Zl → List Zv → Zt → Prop) : sx_ K P [.iinc 7 1, .goto 28] 159 = x_iinc 7 1 (x_goto 28 K) := ((xe_iinc 7 1).trans (congrArg (x_iinc 7 1) (xe_goto 28)))
theorem bk_X6_isBanned_f_28 : ck_ fX6 (some .boolean) cX6_isBanned 28 [.iload 7, .iload 3, .if_icmp .ge 159, .aload 0, .tableswitch 0 6 3 #[], .aload 0, .tableswitch 0 6 13 #[], .iload 7, .iaload, .aaload, .astore 8, .iload 5, .ifCond .le 56, .iinc 5 (-1), .aload 8, .iload 1] 59 = true := qck_r (nn_ _) (by decide +kernel)
theorem bs_X6_isBanned_f_28 {P : Zt → Option Zv → Prop} (K : Int → Zl → List Zv → Zt → Prop) : sx_ K P [.iload 7, .iload 3, .if_icmp .ge 159, .aload 0, .tableswitch 0 6 3 #[], .aload 0, .tableswitch 0 6 13 #[], .iload 7, .iaload, .aaload, .astore 8, .iload 5, .ifCond .le 56, .iinc 5 (-1), .aload 8, .iload 1] 59 = x_iload 7 (x_iload 3 (x_if_icmp .ge 159 K (x_aload 0 (x_g1 106 523 (x_aload 0 (x_g1 106 533 (x_iload 7 (x_iaload (x_aaload (x_astore 8 (x_iload 5 (x_ifCond .le 56 K (x_iinc 5 (-1) (x_aload 8 (x_iload 1 (K 59)))))))))))))))) := ((xe_iload 7).trans (congrArg (x_iload 7) ((xe_iload 3).trans (congrArg (x_iload 3) ((xe_if_icmp .ge 159).trans (congrArg (x_if_icmp .ge 159 K) ((xe_aload 0).trans (congrArg (x_aload 0) ((xe_g1 (kk := 106) rfl tl_6_3).trans (congrArg (x_g1 106 523) ((xe_aload 0).trans (congrArg (x_aload 0) ((xe_g1 (kk := 106) rfl tl_6_13).trans (congrArg (x_g1 106 533) ((xe_iload 7).trans (congrArg (x_iload 7) ((xe_iaload).trans (congrArg (x_iaload) ((xe_aaload).trans (congrArg (x_aaload) ((xe_astore 8).trans (congrArg (x_astore 8) ((xe_iload 5).trans (congrArg (x_iload 5) ((xe_ifCond .le 56).trans (congrArg (x_ifCond .le 56 K) ((xe_iinc 5 (-1)).trans (congrArg (x_iinc 5 (-1)) ((xe_aload 8).trans (congrArg (x_aload 8) ((xe_iload 1).trans (congrArg (x_iload 1) xe_nil))))))))))))))))))))))))))))))))
theorem bk_X6_isBanned_f_159 : ck_ fX6 (some .boolean) cX6_isBanned 159 [.iload 5, .ifCond .le 168, .iconst 1, .goto 169] 168 = true := qck_r (nn_ _) (by decide +kernel)
theorem bs_X6_isBanned_f_159 {P : Zt → Option Zv → Prop} (K : Int → Zl → List Zv → Zt → Prop) : sx_ K P [.iload 5, .ifCond .le 168, .iconst 1, .goto 169] 168 = x_iload 5 (x_ifCond .le 168 K (x_iconst 1 (x_goto 169 K))) := ((xe_iload 5).trans (congrArg (x_iload 5) ((xe_ifCond .le 168).trans (congrArg (x_ifCond .le 168 K) ((xe_iconst 1).trans (congrArg (x_iconst 1) (xe_goto 169)))))))
theorem bk_X6_isBanned_f_168 : ck_ fX6 (some .boolean) cX6_isBanned 168 [.iconst 0, .ireturn] 170 = true := qck_r (nn_ _) (by decide +kernel)
theorem bs_X6_isBanned_f_168 {P : Zt → Option Zv → Prop} (K : Int → Zl → List Zv → Zt → Prop) : sx_ K P [.iconst 0, .ireturn] 170 = x_iconst 0 (x_ireturn P) := ((xe_iconst 0).trans (congrArg (x_iconst 0) (xe_ireturn)))
theorem bk_X6_isBanned_f_169 : ck_ fX6 (some .boolean) cX6_isBanned 169 [.ireturn] 170 = true := qck_r (nn_ _) (by decide +kernel)
theorem bs_X6_isBanned_f_169 {P : Zt → Option Zv → Prop} (K : Int → Zl → List Zv → Zt → Prop) : sx_ K P [.ireturn] 170 = x_ireturn P := (xe_ireturn)
theorem bk_X6_isBanned_f_56 : ck_ fX6 (some .boolean) cX6_isBanned 56 [.aload 8, .iload 1] 59 = true := qck_r (nn_ _) (by decide +kernel)
theorem bs_X6_isBanned_f_56 {P : Zt → Option Zv → Prop} (K : Int → Zl → List Zv → Zt → Prop) : sx_ K P [.aload 8, .iload 1] 59 = x_aload 8 (x_iload 1 (K 59)) := ((xe_aload 8).trans (congrArg (x_aload 8) ((xe_iload 1).trans (congrArg (x_iload 1) xe_nil))))
theorem bk_X6_isBanned_f_62 : ck_ fX6 (some .boolean) cX6_isBanned 62 [.istore 9, .aload 8, .tableswitch 0 2 10 #[], .ifnull 153, .iload 9, .iconst (-1), .if_icmp .ne 81, .goto 153] 81 = true := qck_r (nn_ _) (by decide +kernel)
theorem bs_X6_isBanned_f_62 {P : Zt → Option Zv → Prop} (K : Int → Zl → List Zv → Zt → Prop) : sx_ K P [.istore 9, .aload 8, .tableswitch 0 2 10 #[], .ifnull 153, .iload 9, .iconst (-1), .if_icmp .ne 81, .goto 153] 81 = x_istore 9 (x_aload 8 (x_g4 102 103 10 (x_ifnull 153 K (x_iload 9 (x_iconst (-1) (x_if_icmp .ne 81 K (x_goto 153 K))))))) := ((xe_istore 9).trans (congrArg (x_istore 9) ((xe_aload 8).trans (congrArg (x_aload 8) ((xe_g4 (kk := 102) rfl tl_2_10).trans (congrArg (x_g4 102 103 10) ((xe_ifnull 153).trans (congrArg (x_ifnull 153 K) ((xe_iload 9).trans (congrArg (x_iload 9) ((xe_iconst (-1)).trans (congrArg (x_iconst (-1)) ((xe_if_icmp .ne 81).trans (congrArg (x_if_icmp .ne 81 K) (xe_goto 153)))))))))))))))
theorem bk_X6_isBanned_f_81 : ck_ fX6 (some .boolean) cX6_isBanned 81 [.aload 8, .tableswitch 0 2 10 #[], .iload 9] 88 = true := qck_r (nn_ _) (by decide +kernel)
theorem bs_X6_isBanned_f_81 {P : Zt → Option Zv → Prop} (K : Int → Zl → List Zv → Zt → Prop) : sx_ K P [.aload 8, .tableswitch 0 2 10 #[], .iload 9] 88 = x_aload 8 (x_g4 102 103 10 (x_iload 9 (K 88))) := ((xe_aload 8).trans (congrArg (x_aload 8) ((xe_g4 (kk := 102) rfl tl_2_10).trans (congrArg (x_g4 102 103 10) ((xe_iload 9).trans (congrArg (x_iload 9) xe_nil))))))
theorem bk_X6_isBanned_f_91 : ck_ fX6 (some .boolean) cX6_isBanned 91 [.ifCond .eq 112, .iload 5, .aload 2, .tableswitch 0 2 0 #[], .tableswitch 0 0 1 #[], .iconst 14, .iaload, .iadd, .istore 5, .goto 153] 112 = true := qck_r (nn_ _) (by decide +kernel)
theorem bs_X6_isBanned_f_91 {P : Zt → Option Zv → Prop} (K : Int → Zl → List Zv → Zt → Prop) : sx_ K P [.ifCond .eq 112, .iload 5, .aload 2, .tableswitch 0 2 0 #[], .tableswitch 0 0 1 #[], .iconst 14, .iaload, .iadd, .istore 5, .goto 153] 112 = x_ifCond .eq 112 K (x_iload 5 (x_aload 2 (x_g3 102 100 0 (x_g2 100 401 (x_iconst 14 (x_iaload (x_iadd (x_istore 5 (x_goto 153 K))))))))) := ((xe_ifCond .eq 112).trans (congrArg (x_ifCond .eq 112 K) ((xe_iload 5).trans (congrArg (x_iload 5) ((xe_aload 2).trans (congrArg (x_aload 2) ((xe_g3 (kk := 102) rfl tl_2_0).trans (congrArg (x_g3 102 100 0) ((xe_g2 (kk := 100) rfl tl_0_1).trans (congrArg (x_g2 100 401) ((xe_iconst 14).trans (congrArg (x_iconst 14) ((xe_iaload).trans (congrArg (x_iaload) ((xe_iadd).trans (congrArg (x_iadd) ((xe_istore 5).trans (congrArg (x_istore 5) (xe_goto 153)))))))))))))))))))
theorem bk_X6_isBanned_f_112 : ck_ fX6 (some .boolean) cX6_isBanned 112 [.iload 6, .aload 8, .tableswitch 0 2 10 #[], .tableswitch 0 3 13 #[], .iload 9, .iaload, .fadd, .istore 10, .iload 4, .ifCond .le 149, .iload 10, .iload 4, .fdiv, .iload 6, .iload 4, .fdiv, .if_icmp .le 149, .iinc 5 1, .iload 10, .istore 6] 153 = true := qck_r (nn_ _) (by decide +kernel)
theorem bs_X6_isBanned_f_112 {P : Zt → Option Zv → Prop} (K : Int → Zl → List Zv → Zt → Prop) : sx_ K P [.iload 6, .aload 8, .tableswitch 0 2 10 #[], .tableswitch 0 3 13 #[], .iload 9, .iaload, .fadd, .istore 10, .iload 4, .ifCond .le 149, .iload 10, .iload 4, .fdiv, .iload 6, .iload 4, .fdiv, .if_icmp .le 149, .iinc 5 1, .iload 10, .istore 6] 153 = x_iload 6 (x_aload 8 (x_g4 102 103 10 (x_g2 103 473 (x_iload 9 (x_iaload (x_fadd (x_istore 10 (x_iload 4 (x_ifCond .le 149 K (x_iload 10 (x_iload 4 (x_fdiv (x_iload 6 (x_iload 4 (x_fdiv (x_if_icmp .le 149 K (x_iinc 5 1 (x_iload 10 (x_istore 6 (K 153)))))))))))))))))))) := ((xe_iload 6).trans (congrArg (x_iload 6) ((xe_aload 8).trans (congrArg (x_aload 8) ((xe_g4 (kk := 102) rfl tl_2_10).trans (congrArg (x_g4 102 103 10) ((xe_g2 (kk := 103) rfl tl_3_13).trans (congrArg (x_g2 103 473) ((xe_iload 9).trans (congrArg (x_iload 9) ((xe_iaload).trans (congrArg (x_iaload) ((xe_fadd).trans (congrArg (x_fadd) ((xe_istore 10).trans (congrArg (x_istore 10) ((xe_iload 4).trans (congrArg (x_iload 4) ((xe_ifCond .le 149).trans (congrArg (x_ifCond .le 149 K) ((xe_iload 10).trans (congrArg (x_iload 10) ((xe_iload 4).trans (congrArg (x_iload 4) ((xe_fdiv).trans (congrArg (x_fdiv) ((xe_iload 6).trans (congrArg (x_iload 6) ((xe_iload 4).trans (congrArg (x_iload 4) ((xe_fdiv).trans (congrArg (x_fdiv) ((xe_if_icmp .le 149).trans (congrArg (x_if_icmp .le 149 K) ((xe_iinc 5 1).trans (congrArg (x_iinc 5 1) ((xe_iload 10).trans (congrArg (x_iload 10) ((xe_istore 6).trans (congrArg (x_istore 6) xe_nil))))))))))))))))))))))))))))))))))))))))
theorem bk_X6_isBanned_f_149 : ck_ fX6 (some .boolean) cX6_isBanned 149 [.iload 10, .istore 6] 153 = true := qck_r (nn_ _) (by decide +kernel)
theorem bs_X6_isBanned_f_149 {P : Zt → Option Zv → Prop} (K : Int → Zl → List Zv → Zt → Prop) : sx_ K P [.iload 10, .istore 6] 153 = x_iload 10 (x_istore 6 (K 153)) := ((xe_iload 10).trans (congrArg (x_iload 10) ((xe_istore 6).trans (congrArg (x_istore 6) xe_nil))))
theorem bk_X6_isBanned_f_0 : ck_ fX6 (some .boolean) cX6_isBanned 0 [.aload 0, .iload 1, .aload 2] 3 = true := qck_r (nn_ _) (by decide +kernel)
theorem bs_X6_isBanned_f_0 {P : Zt → Option Zv → Prop} (K : Int → Zl → List Zv → Zt → Prop) : sx_ K P [.aload 0, .iload 1, .aload 2] 3 = x_aload 0 (x_iload 1 (x_aload 2 (K 3))) := ((xe_aload 0).trans (congrArg (x_aload 0) ((xe_iload 1).trans (congrArg (x_iload 1) ((xe_aload 2).trans (congrArg (x_aload 2) xe_nil))))))
theorem bk_X6_isBanned_f_6 : ck_ fX6 (some .boolean) cX6_isBanned 6 [.istore 3, .aload 2, .tableswitch 0 2 0 #[], .tableswitch 0 0 1 #[], .iconst 13, .iaload, .istore 4, .iconst 0, .istore 5, .iconst 0, .istore 6, .iconst 0, .istore 7] 28 = true := qck_r (nn_ _) (by decide +kernel)
theorem bs_X6_isBanned_f_6 {P : Zt → Option Zv → Prop} (K : Int → Zl → List Zv → Zt → Prop) : sx_ K P [.istore 3, .aload 2, .tableswitch 0 2 0 #[], .tableswitch 0 0 1 #[], .iconst 13, .iaload, .istore 4, .iconst 0, .istore 5, .iconst 0, .istore 6, .iconst 0, .istore 7] 28 = x_istore 3 (x_aload 2 (x_g3 102 100 0 (x_g2 100 401 (x_iconst 13 (x_iaload (x_istore 4 (x_iconst 0 (x_istore 5 (x_iconst 0 (x_istore 6 (x_iconst 0 (x_istore 7 (K 28))))))))))))) := ((xe_istore 3).trans (congrArg (x_istore 3) ((xe_aload 2).trans (congrArg (x_aload 2) ((xe_g3 (kk := 102) rfl tl_2_0).trans (congrArg (x_g3 102 100 0) ((xe_g2 (kk := 100) rfl tl_0_1).trans (congrArg (x_g2 100 401) ((xe_iconst 13).trans (congrArg (x_iconst 13) ((xe_iaload).trans (congrArg (x_iaload) ((xe_istore 4).trans (congrArg (x_istore 4) ((xe_iconst 0).trans (congrArg (x_iconst 0) ((xe_istore 5).trans (congrArg (x_istore 5) ((xe_iconst 0).trans (congrArg (x_iconst 0) ((xe_istore 6).trans (congrArg (x_istore 6) ((xe_iconst 0).trans (congrArg (x_iconst 0) ((xe_istore 7).trans (congrArg (x_istore 7) xe_nil))))))))))))))))))))))))))
abbrev po_X6_isBanned_f (T : Zt) (p : Int) (q : Int) : Zt → Option Zv → Prop := fun T' r => ∃ x : Int, r = some (vI x) ∧ fr_ [(533, [])] T T' ∧ ((x = 1 ∧ 0 < bnH_ T q p) ∨ (x = 0 ∧ ¬ 0 < bnH_ T q p))
set_option maxHeartbeats 4000000 in
theorem ct_X6_isBanned_f {T : Zt} {p : Int} {q : Int} (hka : KA_ T) (hkm : KM_ T) (hkc : KC_ T) (hq : 0 ≤ q ∧ q < 200) (hp : 0 ≤ p ∧ p < T 106 0 4) (hq2 : q < T 108 0 3) (hsp : SPR_ T) : Ct_ yX6_isBanned zX6_isBanned T [vR 106 0, vI q, vR 102 p] (po_X6_isBanned_f T p q) := by
  refine ct_of pn_6 rfl rfl (Nat.le_of_ble_eq_true rfl) (fun hT hav => ?_)
  have hr_q : -2147483648 ≤ q ∧ q ≤ 2147483647 := hav (vI q) (List.mem_cons_of_mem _ List.mem_cons_self)
  have hz : zX6_isBanned.2.2.2.1 = some .boolean → ∀ (T' : Zt) (x : Int), po_X6_isBanned_f T p q T' (some (vI x)) → 0 ≤ x ∧ x ≤ 1 := fun _ T' x h => by obtain ⟨y, e, -, hy⟩ := h; cases e; omega
  have hb_matchCount : 0 ≤ T 106 0 4 ∧ T 106 0 4 ≤ 400 := bd_f hT 106 4 tl_6_4 0
  have hmp := hkm p (by omega) (by omega)
  have hcp := hkc (T 102 p 0) (by omega) (by omega)
  have hb7 : 0 ≤ T 100 (T 102 p 0) 7 ∧ T 100 (T 102 p 0) 7 ≤ 400 := bd_f hT 100 7 tl_0_7 (T 102 p 0)
  have hb8 : 0 ≤ T 100 (T 102 p 0) 8 ∧ T 100 (T 102 p 0) 8 ≤ 400 := bd_f hT 100 8 tl_0_8 (T 102 p 0)
  show J_ zX6_isBanned T (po_X6_isBanned_f T p q) 0 0 0 [some (vR 106 0), some (vI q), some (vR 102 p), none, none, none, none, none, none, none, none] [] T
  have c_28 : ∀ (nn : Nat) (n : Int) (d : Int) (y : Int) (k : Int) (T1 : Zt), ((400 - k).toNat) ≤ nn → (fr_ [(533, [])] T T1) → (0 ≤ k ∧ k ≤ 400 ∧ n ≤ 400 ∧ 0 ≤ d ∧ d ≤ 1000 * k ∧ (k = 0 ∨ k ≤ n)) → (∀ j : Int, 0 ≤ j → j < n → 0 ≤ T1 533 0 j ∧ T1 533 0 j < T 106 0 4) → (LHD_ (fun m => T 102 m 5) (rlH_ T q) (fun j => T1 533 0 j) (T 100 (T 102 p 0) 7) (T 100 (T 102 p 0) 8) (T 102 p 5 * 400 + p) n) → (∀ B, (k < n → B = T 102 (T1 533 0 k) 5 * 400 + T1 533 0 k) → (¬ k < n → B = (T 102 p 5 * 400 + p)) → (d, y) = bf_ (fun m => T 102 m 5) (rlH_ T q) (sbn_ (T 401 (T 102 p 0) 14) (T 401 (T 102 p 0) 13) (kdH_ T q) (yvH_ T q)) (T 100 (T 102 p 0) 7) (T 100 (T 102 p 0) 8) B.toNat) → J_ zX6_isBanned T (po_X6_isBanned_f T p q) 0 0 28 [some (vR 106 0), some (vI q), some (vR 102 p), some (vI n), some (vI (T 401 (T 102 p 0) 13)), some (vI d), some (vI y), some (vI k), none, none, none] [] T1 := by
    intro nn
    induction nn using Nat.strongRecOn with
    | _ nn ih_28 =>
      intro n d y k T1 hm_28 hf_28 i1 li1 lh1 fo
      replace hm_28 := fun (_ : Unit) => hm_28
      have c_153 : ∀ (d2 : Int) (y2 : Int), (k < n ∧ 0 ≤ d2 ∧ d2 ≤ 1000 * k + 1000) → ((d2, y2) = sbn_ (T 401 (T 102 p 0) 14) (T 401 (T 102 p 0) 13) (kdH_ T q) (yvH_ T q) (T1 533 0 k) (d, y)) → J_ zX6_isBanned T (po_X6_isBanned_f T p q) 0 0 153 [some (vR 106 0), some (vI q), some (vR 102 p), some (vI n), some (vI (T 401 (T 102 p 0) 13)), some (vI d2), some (vI y2), some (vI k), none, none, none] [] T1 := by
        intro d2 y2 i2 s2
        refine j_blx (F := fX6) tb_X6 (nn_ _) bk_X6_isBanned_f_153 bs_X6_isBanned_f_153 hz (fun K hK => ?_)
        refine rg_i (by omega) ?_
        refine hK 28 [some (vR 106 0), some (vI q), some (vR 102 p), some (vI n), some (vI (T 401 (T 102 p 0) 13)), some (vI d2), some (vI y2), some (vI (k + 1)), none, none, none] [] T1 ?_
        refine ih_28 _ ?_ n d2 y2 (k + 1) T1 (Nat.le_refl _) ?_ ?_ ?_ ?_ ?_
        · have hm_28 := hm_28 (); omega
        · exact fr_t (fr_0 _ _) (fr_s hf_28 rfl)
        · omega
        · exact li1
        · exact lh1
        · intro B a b
          rw [bf_Ls (st := (sbn_ (T 401 (T 102 p 0) 14) (T 401 (T 102 p 0) 13) (kdH_ T q) (yvH_ T q))) (k := k) lh1 (by omega) (by omega) (fun m _ _ => (bd_f hT 102 5 tl_2_5 m).1) (by omega) (by omega) a b, ← fo _ (fun _ => rfl) (fun z => absurd (by omega) z)]
          exact s2
      refine j_blx (F := fX6) tb_X6 (nn_ _) bk_X6_isBanned_f_28 bs_X6_isBanned_f_28 hz (fun K hK => ?_)
      refine And.intro (fun c1 => ?_) (fun c1 => ?_)
      · refine hK 159 _ [] T1 ?_
        refine j_blx (F := fX6) tb_X6 (nn_ _) bk_X6_isBanned_f_159 bs_X6_isBanned_f_159 hz (fun K hK => ?_)
        refine And.intro (fun c2 => ?_) (fun c2 => ?_)
        · refine hK 168 _ [] T1 ?_
          refine j_blx (F := fX6) tb_X6 (nn_ _) bk_X6_isBanned_f_168 bs_X6_isBanned_f_168 hz (fun K hK => ?_)
          refine (show po_X6_isBanned_f T p q T1 (some (vI 0)) from ?_)
          have fin := fo (T 102 p 5 * 400 + p) (fun z => by omega) (fun _ => rfl)
          have eb : bnH_ T q p = d := (congrArg Prod.fst fin).symm
          exact ⟨_, rfl, fr_t (fr_0 _ _) (fr_s hf_28 rfl), by rw [eb]; omega⟩
        · refine hK 169 _ [vI 1] T1 ?_
          refine j_blx (F := fX6) tb_X6 (nn_ _) bk_X6_isBanned_f_169 bs_X6_isBanned_f_169 hz (fun K hK => ?_)
          refine (show po_X6_isBanned_f T p q T1 (some (vI 1)) from ?_)
          have fin := fo (T 102 p 5 * 400 + p) (fun z => by omega) (fun _ => rfl)
          have eb : bnH_ T q p = d := (congrArg Prod.fst fin).symm
          exact ⟨_, rfl, fr_t (fr_0 _ _) (fr_s hf_28 rfl), by rw [eb]; omega⟩
      · refine ix_i (by omega) ?_
        intro b3 b3b
        refine ix_i (by omega) ?_
        have e5 : T1 523 0 (T1 533 0 k) = T 523 0 (T1 533 0 k) := hf_28 523 0 (T1 533 0 k) rfl
        refine And.intro (fun c4 => ?_) (fun c4 => ?_)
        · have y9 := li1 k (by omega) (by omega)
          exact absurd (show T 523 0 (T1 533 0 k) = 0 from Int.le_antisymm (by omega) (by omega)) (hka.2 _ (by omega) (by omega))
        · refine And.intro (fun c6 => ?_) (fun c6 => ?_)
          · refine hK 56 [some (vR 106 0), some (vI q), some (vR 102 p), some (vI n), some (vI (T 401 (T 102 p 0) 13)), some (vI d), some (vI y), some (vI k), some (vR 102 (T1 533 0 k)), none, none] [] T1 ?_
            refine j_blx (F := fX6) tb_X6 (nn_ _) bk_X6_isBanned_f_56 bs_X6_isBanned_f_56 hz (fun K hK => ?_)
            refine hK 59 _ [vI q, vR 102 (T1 533 0 k)] T1 ?_
            refine j_callV (y := yX2_placeOf) (Yc := zX2_placeOf) (rest := []) [vI q] (ct_X2_placeOf_f (T := T1)) cl_X6_172 (qd_c (by decide +kernel)) (nn_ _) rfl (rf_of rfl) (Nat.le_of_ble_eq_true rfl) (Nat.le_of_ble_eq_true rfl) (Nat.le_of_ble_eq_true rfl) rfl ?_
            rintro _ _ ⟨rfl, x7, rfl, hx7⟩
            rw [plc_k (T := T) (fr_t (fr_0 _ _) (fr_s hf_28 rfl))] at hx7
            have bx7 := plc_b (T := T) (m := T1 533 0 k) (q := q) (bd_a hT 449 (by decide +kernel : ta_ 449 = some (1, some 2, 0, 10)) (T1 533 0 k) (show (0 : Int) ≤ 0 by decide)).2 (bd_a hT 449 (by decide +kernel : ta_ 449 = some (1, some 2, 0, 10)) (T1 533 0 k) (show (0 : Int) ≤ 1 by decide)).2
            show J_ zX6_isBanned T (po_X6_isBanned_f T p q) 0 0 62 _ [vI x7] T1
            refine j_blx (F := fX6) tb_X6 (nn_ _) bk_X6_isBanned_f_62 bs_X6_isBanned_f_62 hz (fun K hK => ?_)
            have e9 : T1 102 (T1 533 0 k) 10 = T 102 (T1 533 0 k) 10 := hf_28 102 (T1 533 0 k) 10 rfl
            refine And.intro (fun c8 => ?_) (fun c8 => ?_)
            · refine hK 153 [some (vR 106 0), some (vI q), some (vR 102 p), some (vI n), some (vI (T 401 (T 102 p 0) 13)), some (vI d), some (vI y), some (vI k), some (vR 102 (T1 533 0 k)), some (vI x7), none] [] T1 ?_
              refine j_drq [some (vR 106 0), some (vI q), some (vR 102 p), some (vI n), some (vI (T 401 (T 102 p 0) 13)), some (vI d), some (vI y), some (vI k), none, none, none] (drq_s (drq_s (drq_s (drq_s (drq_s (drq_s (drq_s (drq_s (drq_n (drq_n (drq_n drq_0))))))))))) ?_
              refine c_153 d y ?_ ?_
              · omega
              · exact sb_0 (kdH_0 (Or.inl (by omega))) (by omega) (Or.inr ⟨by omega, rfl⟩)
            · refine And.intro (fun c10 => ?_) (fun c10 => ?_)
              · have nk9 : ¬ (T 102 (T1 533 0 k) 10 = 0 ∨ plc_ T (T1 533 0 k) q = -1) := by rw [← hx7]; omega
                refine hK 81 [some (vR 106 0), some (vI q), some (vR 102 p), some (vI n), some (vI (T 401 (T 102 p 0) 13)), some (vI d), some (vI y), some (vI k), some (vR 102 (T1 533 0 k)), some (vI x7), none] [] T1 ?_
                refine j_blx (F := fX6) tb_X6 (nn_ _) bk_X6_isBanned_f_81 bs_X6_isBanned_f_81 hz (fun K hK => ?_)
                have e12 : T1 102 (T1 533 0 k) 10 = T 102 (T1 533 0 k) 10 := hf_28 102 (T1 533 0 k) 10 rfl
                refine And.intro (fun c11 => ?_) (fun c11 => ?_)
                · exact absurd c11 (by omega)
                · refine hK 88 _ [vI x7, vR 103 (T1 533 0 k)] T1 ?_
                  refine j_callV (y := yX3_isSentOff) (Yc := zX3_isSentOff) (rest := []) [vI x7] (ct_X3_isSentOff_f (T := T1) (by omega)) cl_X6_187 (qd_c (by decide +kernel)) (nn_ _) rfl (rf_of rfl) (Nat.le_of_ble_eq_true rfl) (Nat.le_of_ble_eq_true rfl) (Nat.le_of_ble_eq_true rfl) rfl ?_
                  rintro _ _ ⟨rfl, x13, rfl, hx13⟩
                  have e14 : T1 472 (T1 533 0 k) x7 = T 472 (T1 533 0 k) x7 := hf_28 472 (T1 533 0 k) x7 rfl
                  show J_ zX6_isBanned T (po_X6_isBanned_f T p q) 0 0 91 _ [vI x13] T1
                  refine j_blx (F := fX6) tb_X6 (nn_ _) bk_X6_isBanned_f_91 bs_X6_isBanned_f_91 hz (fun K hK => ?_)
                  refine And.intro (fun c15 => ?_) (fun c15 => ?_)
                  · have so9 : T 472 (T1 533 0 k) (plc_ T (T1 533 0 k) q) ≠ 3 := by rw [← hx7, ← e14]; exact (hx13.resolve_left (fun z => absurd (c15.symm.trans z.1) (by decide))).2
                    clear hx13
                    refine hK 112 _ [] T1 ?_
                    refine j_blx (F := fX6) tb_X6 (nn_ _) bk_X6_isBanned_f_112 bs_X6_isBanned_f_112 hz (fun K hK => ?_)
                    have e17 : T1 102 (T1 533 0 k) 10 = T 102 (T1 533 0 k) 10 := hf_28 102 (T1 533 0 k) 10 rfl
                    refine And.intro (fun c16 => ?_) (fun c16 => ?_)
                    · exact absurd c16 (by omega)
                    · refine ix_i (by omega) ?_
                      intro b18 b18b
                      have e19 : T1 473 (T1 533 0 k) x7 = T 473 (T1 533 0 k) x7 := hf_28 473 (T1 533 0 k) x7 rfl
                      rw [e19] at b18 b18b ⊢
                      intro w20 w20b
                      refine And.intro (fun c21 => ?_) (fun c21 => ?_)
                      · refine hK 149 [some (vR 106 0), some (vI q), some (vR 102 p), some (vI n), some (vI (T 401 (T 102 p 0) 13)), some (vI d), some (vI y), some (vI k), some (vR 102 (T1 533 0 k)), some (vI x7), some (vI (wr_ (y + (T 473 (T1 533 0 k) x7))))] [] T1 ?_
                        refine j_blx (F := fX6) tb_X6 (nn_ _) bk_X6_isBanned_f_149 bs_X6_isBanned_f_149 hz (fun K hK => ?_)
                        refine hK 153 [some (vR 106 0), some (vI q), some (vR 102 p), some (vI n), some (vI (T 401 (T 102 p 0) 13)), some (vI d), some (vI (wr_ (y + (T 473 (T1 533 0 k) x7)))), some (vI k), some (vR 102 (T1 533 0 k)), some (vI x7), some (vI (wr_ (y + (T 473 (T1 533 0 k) x7))))] [] T1 ?_
                        refine j_drq [some (vR 106 0), some (vI q), some (vR 102 p), some (vI n), some (vI (T 401 (T 102 p 0) 13)), some (vI d), some (vI (wr_ (y + (T 473 (T1 533 0 k) x7)))), some (vI k), none, none, none] (drq_s (drq_s (drq_s (drq_s (drq_s (drq_s (drq_s (drq_s (drq_n (drq_n (drq_n drq_0))))))))))) ?_
                        refine c_153 d (wr_ (y + (T 473 (T1 533 0 k) x7))) ?_ ?_
                        · omega
                        · exact sb_2 (d1 := d) (kdH_2 nk9 so9) (by omega) (Or.inr ⟨by omega, rfl⟩) (by unfold yvH_; rw [← hx7]; exact Or.inr ⟨by omega, rfl⟩) (by unfold yvH_; rw [← hx7])
                      · refine And.intro (by omega) (fun w22 w22b => ?_)
                        refine And.intro (by omega) (fun w23 w23b => ?_)
                        refine And.intro (fun c24 => ?_) (fun c24 => ?_)
                        · refine hK 149 [some (vR 106 0), some (vI q), some (vR 102 p), some (vI n), some (vI (T 401 (T 102 p 0) 13)), some (vI d), some (vI y), some (vI k), some (vR 102 (T1 533 0 k)), some (vI x7), some (vI (wr_ (y + (T 473 (T1 533 0 k) x7))))] [] T1 ?_
                          refine j_blx (F := fX6) tb_X6 (nn_ _) bk_X6_isBanned_f_149 bs_X6_isBanned_f_149 hz (fun K hK => ?_)
                          refine hK 153 [some (vR 106 0), some (vI q), some (vR 102 p), some (vI n), some (vI (T 401 (T 102 p 0) 13)), some (vI d), some (vI (wr_ (y + (T 473 (T1 533 0 k) x7)))), some (vI k), some (vR 102 (T1 533 0 k)), some (vI x7), some (vI (wr_ (y + (T 473 (T1 533 0 k) x7))))] [] T1 ?_
                          refine j_drq [some (vR 106 0), some (vI q), some (vR 102 p), some (vI n), some (vI (T 401 (T 102 p 0) 13)), some (vI d), some (vI (wr_ (y + (T 473 (T1 533 0 k) x7)))), some (vI k), none, none, none] (drq_s (drq_s (drq_s (drq_s (drq_s (drq_s (drq_s (drq_s (drq_n (drq_n (drq_n drq_0))))))))))) ?_
                          refine c_153 d (wr_ (y + (T 473 (T1 533 0 k) x7))) ?_ ?_
                          · omega
                          · exact sb_2 (d1 := d) (kdH_2 nk9 so9) (by omega) (Or.inr ⟨by omega, rfl⟩) (by unfold yvH_; rw [← hx7]; exact Or.inr ⟨by omega, rfl⟩) (by unfold yvH_; rw [← hx7])
                        · refine rg_i (by omega) ?_
                          refine hK 153 [some (vR 106 0), some (vI q), some (vR 102 p), some (vI n), some (vI (T 401 (T 102 p 0) 13)), some (vI (d + 1)), some (vI (wr_ (y + (T 473 (T1 533 0 k) x7)))), some (vI k), some (vR 102 (T1 533 0 k)), some (vI x7), some (vI (wr_ (y + (T 473 (T1 533 0 k) x7))))] [] T1 ?_
                          refine j_drq [some (vR 106 0), some (vI q), some (vR 102 p), some (vI n), some (vI (T 401 (T 102 p 0) 13)), some (vI (d + 1)), some (vI (wr_ (y + (T 473 (T1 533 0 k) x7)))), some (vI k), none, none, none] (drq_s (drq_s (drq_s (drq_s (drq_s (drq_s (drq_s (drq_s (drq_n (drq_n (drq_n drq_0))))))))))) ?_
                          refine c_153 (d + 1) (wr_ (y + (T 473 (T1 533 0 k) x7))) ?_ ?_
                          · omega
                          · exact sb_2 (d1 := d) (kdH_2 nk9 so9) (by omega) (Or.inr ⟨by omega, rfl⟩) (by unfold yvH_; rw [← hx7]; exact Or.inl ⟨⟨by omega, by omega⟩, rfl⟩) (by unfold yvH_; rw [← hx7])
                  · have so9 : T 472 (T1 533 0 k) (plc_ T (T1 533 0 k) q) = 3 := by rw [← hx7, ← e14]; exact (hx13.resolve_right (fun z => c15 z.1)).2
                    clear hx13
                    have e26 : T1 102 p 0 = T 102 p 0 := hf_28 102 p 0 rfl
                    refine ix_i (by omega) ?_
                    intro b27 b27b
                    have e28 : T1 401 (T 102 p 0) 14 = T 401 (T 102 p 0) 14 := hf_28 401 (T 102 p 0) 14 rfl
                    have e29 : T1 401 (T1 102 p 0) 14 = T 401 (T 102 p 0) 14 := by rw [e26]; exact e28
                    rw [e29] at b27 b27b ⊢
                    refine rg_i (by omega) ?_
                    refine hK 153 [some (vR 106 0), some (vI q), some (vR 102 p), some (vI n), some (vI (T 401 (T 102 p 0) 13)), some (vI (d + (T 401 (T 102 p 0) 14))), some (vI y), some (vI k), some (vR 102 (T1 533 0 k)), some (vI x7), none] [] T1 ?_
                    refine j_drq [some (vR 106 0), some (vI q), some (vR 102 p), some (vI n), some (vI (T 401 (T 102 p 0) 13)), some (vI (d + (T 401 (T 102 p 0) 14))), some (vI y), some (vI k), none, none, none] (drq_s (drq_s (drq_s (drq_s (drq_s (drq_s (drq_s (drq_s (drq_n (drq_n (drq_n drq_0))))))))))) ?_
                    refine c_153 (d + (T 401 (T 102 p 0) 14)) y ?_ ?_
                    · omega
                    · exact sb_1 (d1 := d) (kdH_1 nk9 so9) (by omega) (by omega) (Or.inr ⟨by omega, rfl⟩) (by omega)
              · refine hK 153 _ [] T1 ?_
                refine j_drq [some (vR 106 0), some (vI q), some (vR 102 p), some (vI n), some (vI (T 401 (T 102 p 0) 13)), some (vI d), some (vI y), some (vI k), none, none, none] (drq_s (drq_s (drq_s (drq_s (drq_s (drq_s (drq_s (drq_s (drq_n (drq_n (drq_n drq_0))))))))))) ?_
                refine c_153 d y ?_ ?_
                · omega
                · exact sb_0 (kdH_0 (Or.inr (by rw [← hx7]; omega))) (by omega) (Or.inr ⟨by omega, rfl⟩)
          · refine rg_i (by omega) ?_
            refine hK 59 [some (vR 106 0), some (vI q), some (vR 102 p), some (vI n), some (vI (T 401 (T 102 p 0) 13)), some (vI (d + (-1))), some (vI y), some (vI k), some (vR 102 (T1 533 0 k)), none, none] [vI q, vR 102 (T1 533 0 k)] T1 ?_
            refine j_callV (y := yX2_placeOf) (Yc := zX2_placeOf) (rest := []) [vI q] (ct_X2_placeOf_f (T := T1)) cl_X6_172 (qd_c (by decide +kernel)) (nn_ _) rfl (rf_of rfl) (Nat.le_of_ble_eq_true rfl) (Nat.le_of_ble_eq_true rfl) (Nat.le_of_ble_eq_true rfl) rfl ?_
            rintro _ _ ⟨rfl, x30, rfl, hx30⟩
            rw [plc_k (T := T) (fr_t (fr_0 _ _) (fr_s hf_28 rfl))] at hx30
            have bx30 := plc_b (T := T) (m := T1 533 0 k) (q := q) (bd_a hT 449 (by decide +kernel : ta_ 449 = some (1, some 2, 0, 10)) (T1 533 0 k) (show (0 : Int) ≤ 0 by decide)).2 (bd_a hT 449 (by decide +kernel : ta_ 449 = some (1, some 2, 0, 10)) (T1 533 0 k) (show (0 : Int) ≤ 1 by decide)).2
            show J_ zX6_isBanned T (po_X6_isBanned_f T p q) 0 0 62 _ [vI x30] T1
            refine j_blx (F := fX6) tb_X6 (nn_ _) bk_X6_isBanned_f_62 bs_X6_isBanned_f_62 hz (fun K hK => ?_)
            have e32 : T1 102 (T1 533 0 k) 10 = T 102 (T1 533 0 k) 10 := hf_28 102 (T1 533 0 k) 10 rfl
            refine And.intro (fun c31 => ?_) (fun c31 => ?_)
            · refine hK 153 [some (vR 106 0), some (vI q), some (vR 102 p), some (vI n), some (vI (T 401 (T 102 p 0) 13)), some (vI (d + (-1))), some (vI y), some (vI k), some (vR 102 (T1 533 0 k)), some (vI x30), none] [] T1 ?_
              refine j_drq [some (vR 106 0), some (vI q), some (vR 102 p), some (vI n), some (vI (T 401 (T 102 p 0) 13)), some (vI (d + (-1))), some (vI y), some (vI k), none, none, none] (drq_s (drq_s (drq_s (drq_s (drq_s (drq_s (drq_s (drq_s (drq_n (drq_n (drq_n drq_0))))))))))) ?_
              refine c_153 (d + (-1)) y ?_ ?_
              · omega
              · exact sb_0 (kdH_0 (Or.inl (by omega))) (by omega) (Or.inl ⟨by omega, by omega⟩)
            · refine And.intro (fun c33 => ?_) (fun c33 => ?_)
              · have nk9 : ¬ (T 102 (T1 533 0 k) 10 = 0 ∨ plc_ T (T1 533 0 k) q = -1) := by rw [← hx30]; omega
                refine hK 81 [some (vR 106 0), some (vI q), some (vR 102 p), some (vI n), some (vI (T 401 (T 102 p 0) 13)), some (vI (d + (-1))), some (vI y), some (vI k), some (vR 102 (T1 533 0 k)), some (vI x30), none] [] T1 ?_
                refine j_blx (F := fX6) tb_X6 (nn_ _) bk_X6_isBanned_f_81 bs_X6_isBanned_f_81 hz (fun K hK => ?_)
                have e35 : T1 102 (T1 533 0 k) 10 = T 102 (T1 533 0 k) 10 := hf_28 102 (T1 533 0 k) 10 rfl
                refine And.intro (fun c34 => ?_) (fun c34 => ?_)
                · exact absurd c34 (by omega)
                · refine hK 88 _ [vI x30, vR 103 (T1 533 0 k)] T1 ?_
                  refine j_callV (y := yX3_isSentOff) (Yc := zX3_isSentOff) (rest := []) [vI x30] (ct_X3_isSentOff_f (T := T1) (by omega)) cl_X6_187 (qd_c (by decide +kernel)) (nn_ _) rfl (rf_of rfl) (Nat.le_of_ble_eq_true rfl) (Nat.le_of_ble_eq_true rfl) (Nat.le_of_ble_eq_true rfl) rfl ?_
                  rintro _ _ ⟨rfl, x36, rfl, hx36⟩
                  have e37 : T1 472 (T1 533 0 k) x30 = T 472 (T1 533 0 k) x30 := hf_28 472 (T1 533 0 k) x30 rfl
                  show J_ zX6_isBanned T (po_X6_isBanned_f T p q) 0 0 91 _ [vI x36] T1
                  refine j_blx (F := fX6) tb_X6 (nn_ _) bk_X6_isBanned_f_91 bs_X6_isBanned_f_91 hz (fun K hK => ?_)
                  refine And.intro (fun c38 => ?_) (fun c38 => ?_)
                  · have so9 : T 472 (T1 533 0 k) (plc_ T (T1 533 0 k) q) ≠ 3 := by rw [← hx30, ← e37]; exact (hx36.resolve_left (fun z => absurd (c38.symm.trans z.1) (by decide))).2
                    clear hx36
                    refine hK 112 _ [] T1 ?_
                    refine j_blx (F := fX6) tb_X6 (nn_ _) bk_X6_isBanned_f_112 bs_X6_isBanned_f_112 hz (fun K hK => ?_)
                    have e40 : T1 102 (T1 533 0 k) 10 = T 102 (T1 533 0 k) 10 := hf_28 102 (T1 533 0 k) 10 rfl
                    refine And.intro (fun c39 => ?_) (fun c39 => ?_)
                    · exact absurd c39 (by omega)
                    · refine ix_i (by omega) ?_
                      intro b41 b41b
                      have e42 : T1 473 (T1 533 0 k) x30 = T 473 (T1 533 0 k) x30 := hf_28 473 (T1 533 0 k) x30 rfl
                      rw [e42] at b41 b41b ⊢
                      intro w43 w43b
                      refine And.intro (fun c44 => ?_) (fun c44 => ?_)
                      · refine hK 149 [some (vR 106 0), some (vI q), some (vR 102 p), some (vI n), some (vI (T 401 (T 102 p 0) 13)), some (vI (d + (-1))), some (vI y), some (vI k), some (vR 102 (T1 533 0 k)), some (vI x30), some (vI (wr_ (y + (T 473 (T1 533 0 k) x30))))] [] T1 ?_
                        refine j_blx (F := fX6) tb_X6 (nn_ _) bk_X6_isBanned_f_149 bs_X6_isBanned_f_149 hz (fun K hK => ?_)
                        refine hK 153 [some (vR 106 0), some (vI q), some (vR 102 p), some (vI n), some (vI (T 401 (T 102 p 0) 13)), some (vI (d + (-1))), some (vI (wr_ (y + (T 473 (T1 533 0 k) x30)))), some (vI k), some (vR 102 (T1 533 0 k)), some (vI x30), some (vI (wr_ (y + (T 473 (T1 533 0 k) x30))))] [] T1 ?_
                        refine j_drq [some (vR 106 0), some (vI q), some (vR 102 p), some (vI n), some (vI (T 401 (T 102 p 0) 13)), some (vI (d + (-1))), some (vI (wr_ (y + (T 473 (T1 533 0 k) x30)))), some (vI k), none, none, none] (drq_s (drq_s (drq_s (drq_s (drq_s (drq_s (drq_s (drq_s (drq_n (drq_n (drq_n drq_0))))))))))) ?_
                        refine c_153 (d + (-1)) (wr_ (y + (T 473 (T1 533 0 k) x30))) ?_ ?_
                        · omega
                        · exact sb_2 (d1 := (d + (-1))) (kdH_2 nk9 so9) (by omega) (Or.inl ⟨by omega, by omega⟩) (by unfold yvH_; rw [← hx30]; exact Or.inr ⟨by omega, rfl⟩) (by unfold yvH_; rw [← hx30])
                      · refine And.intro (by omega) (fun w45 w45b => ?_)
                        refine And.intro (by omega) (fun w46 w46b => ?_)
                        refine And.intro (fun c47 => ?_) (fun c47 => ?_)
                        · refine hK 149 [some (vR 106 0), some (vI q), some (vR 102 p), some (vI n), some (vI (T 401 (T 102 p 0) 13)), some (vI (d + (-1))), some (vI y), some (vI k), some (vR 102 (T1 533 0 k)), some (vI x30), some (vI (wr_ (y + (T 473 (T1 533 0 k) x30))))] [] T1 ?_
                          refine j_blx (F := fX6) tb_X6 (nn_ _) bk_X6_isBanned_f_149 bs_X6_isBanned_f_149 hz (fun K hK => ?_)
                          refine hK 153 [some (vR 106 0), some (vI q), some (vR 102 p), some (vI n), some (vI (T 401 (T 102 p 0) 13)), some (vI (d + (-1))), some (vI (wr_ (y + (T 473 (T1 533 0 k) x30)))), some (vI k), some (vR 102 (T1 533 0 k)), some (vI x30), some (vI (wr_ (y + (T 473 (T1 533 0 k) x30))))] [] T1 ?_
                          refine j_drq [some (vR 106 0), some (vI q), some (vR 102 p), some (vI n), some (vI (T 401 (T 102 p 0) 13)), some (vI (d + (-1))), some (vI (wr_ (y + (T 473 (T1 533 0 k) x30)))), some (vI k), none, none, none] (drq_s (drq_s (drq_s (drq_s (drq_s (drq_s (drq_s (drq_s (drq_n (drq_n (drq_n drq_0))))))))))) ?_
                          refine c_153 (d + (-1)) (wr_ (y + (T 473 (T1 533 0 k) x30))) ?_ ?_
                          · omega
                          · exact sb_2 (d1 := (d + (-1))) (kdH_2 nk9 so9) (by omega) (Or.inl ⟨by omega, by omega⟩) (by unfold yvH_; rw [← hx30]; exact Or.inr ⟨by omega, rfl⟩) (by unfold yvH_; rw [← hx30])
                        · refine rg_i (by omega) ?_
                          refine hK 153 [some (vR 106 0), some (vI q), some (vR 102 p), some (vI n), some (vI (T 401 (T 102 p 0) 13)), some (vI ((d + (-1)) + 1)), some (vI (wr_ (y + (T 473 (T1 533 0 k) x30)))), some (vI k), some (vR 102 (T1 533 0 k)), some (vI x30), some (vI (wr_ (y + (T 473 (T1 533 0 k) x30))))] [] T1 ?_
                          refine j_drq [some (vR 106 0), some (vI q), some (vR 102 p), some (vI n), some (vI (T 401 (T 102 p 0) 13)), some (vI ((d + (-1)) + 1)), some (vI (wr_ (y + (T 473 (T1 533 0 k) x30)))), some (vI k), none, none, none] (drq_s (drq_s (drq_s (drq_s (drq_s (drq_s (drq_s (drq_s (drq_n (drq_n (drq_n drq_0))))))))))) ?_
                          refine c_153 ((d + (-1)) + 1) (wr_ (y + (T 473 (T1 533 0 k) x30))) ?_ ?_
                          · omega
                          · exact sb_2 (d1 := (d + (-1))) (kdH_2 nk9 so9) (by omega) (Or.inl ⟨by omega, by omega⟩) (by unfold yvH_; rw [← hx30]; exact Or.inl ⟨⟨by omega, by omega⟩, rfl⟩) (by unfold yvH_; rw [← hx30])
                  · have so9 : T 472 (T1 533 0 k) (plc_ T (T1 533 0 k) q) = 3 := by rw [← hx30, ← e37]; exact (hx36.resolve_right (fun z => c38 z.1)).2
                    clear hx36
                    have e49 : T1 102 p 0 = T 102 p 0 := hf_28 102 p 0 rfl
                    refine ix_i (by omega) ?_
                    intro b50 b50b
                    have e51 : T1 401 (T 102 p 0) 14 = T 401 (T 102 p 0) 14 := hf_28 401 (T 102 p 0) 14 rfl
                    have e52 : T1 401 (T1 102 p 0) 14 = T 401 (T 102 p 0) 14 := by rw [e49]; exact e51
                    rw [e52] at b50 b50b ⊢
                    refine rg_i (by omega) ?_
                    refine hK 153 [some (vR 106 0), some (vI q), some (vR 102 p), some (vI n), some (vI (T 401 (T 102 p 0) 13)), some (vI ((d + (-1)) + (T 401 (T 102 p 0) 14))), some (vI y), some (vI k), some (vR 102 (T1 533 0 k)), some (vI x30), none] [] T1 ?_
                    refine j_drq [some (vR 106 0), some (vI q), some (vR 102 p), some (vI n), some (vI (T 401 (T 102 p 0) 13)), some (vI ((d + (-1)) + (T 401 (T 102 p 0) 14))), some (vI y), some (vI k), none, none, none] (drq_s (drq_s (drq_s (drq_s (drq_s (drq_s (drq_s (drq_s (drq_n (drq_n (drq_n drq_0))))))))))) ?_
                    refine c_153 ((d + (-1)) + (T 401 (T 102 p 0) 14)) y ?_ ?_
                    · omega
                    · exact sb_1 (d1 := (d + (-1))) (kdH_1 nk9 so9) (by omega) (by omega) (Or.inl ⟨by omega, by omega⟩) (by omega)
              · refine hK 153 _ [] T1 ?_
                refine j_drq [some (vR 106 0), some (vI q), some (vR 102 p), some (vI n), some (vI (T 401 (T 102 p 0) 13)), some (vI (d + (-1))), some (vI y), some (vI k), none, none, none] (drq_s (drq_s (drq_s (drq_s (drq_s (drq_s (drq_s (drq_s (drq_n (drq_n (drq_n drq_0))))))))))) ?_
                refine c_153 (d + (-1)) y ?_ ?_
                · omega
                · exact sb_0 (kdH_0 (Or.inr (by rw [← hx30]; omega))) (by omega) (Or.inl ⟨by omega, by omega⟩)
  refine j_blx (F := fX6) tb_X6 (nn_ _) bk_X6_isBanned_f_0 bs_X6_isBanned_f_0 hz (fun K hK => ?_)
  refine hK 3 _ [vR 102 p, vI q, vR 106 0] T ?_
  refine j_callV (y := yX6_listAhead) (Yc := zX6_listAhead) (rest := []) [vI q, vR 102 p] (ct_X6_listAhead_f (T := T) (hka) (hkm) (hkc) (by omega) (by omega) (by omega) hsp) cl_X6_175 (qd_c (by decide +kernel)) (nn_ _) rfl (rf_of rfl) (Nat.le_of_ble_eq_true rfl) (Nat.le_of_ble_eq_true rfl) (Nat.le_of_ble_eq_true rfl) rfl ?_
  rintro U53 _ ⟨x54, rfl, fU53, qU53, vU53, lhU53⟩
  show J_ zX6_isBanned T (po_X6_isBanned_f T p q) 0 0 6 _ [vI x54] U53
  refine j_blx (F := fX6) tb_X6 (nn_ _) bk_X6_isBanned_f_6 bs_X6_isBanned_f_6 hz (fun K hK => ?_)
  have e56 : U53 102 p 0 = T 102 p 0 := fU53 102 p 0 rfl
  refine ix_i (by omega) ?_
  intro b57 b57b
  have e58 : U53 401 (T 102 p 0) 13 = T 401 (T 102 p 0) 13 := fU53 401 (T 102 p 0) 13 rfl
  have e59 : U53 401 (U53 102 p 0) 13 = T 401 (T 102 p 0) 13 := by rw [e56]; exact e58
  rw [e59] at b57 b57b ⊢
  refine hK 28 [some (vR 106 0), some (vI q), some (vR 102 p), some (vI x54), some (vI (T 401 (T 102 p 0) 13)), some (vI 0), some (vI 0), some (vI 0), none, none, none] [] U53 ?_
  refine c_28 _ x54 0 0 0 U53 (Nat.le_refl _) ?_ ?_ ?_ ?_ ?_
  · exact fr_t (fr_0 _ _) (fr_s fU53 rfl)
  · omega
  · exact vU53
  · exact lhU53
  · intro B a b
    exact (bf_L0 (st := (sbn_ (T 401 (T 102 p 0) 14) (T 401 (T 102 p 0) 13) (kdH_ T q) (yvH_ T q))) lhU53 (by
      by_cases z : 0 < x54
      · rw [a z]; have y9 := (vU53 0 (by omega) z); have y8 : 0 ≤ T 102 (U53 533 0 0) 5 ∧ T 102 (U53 533 0 0) 5 ≤ 999 := bd_f hT 102 5 tl_2_5 (U53 533 0 0); omega
      · rw [b z]; have y7 : 0 ≤ T 102 p 5 ∧ T 102 p 5 ≤ 999 := bd_f hT 102 5 tl_2_5 p; omega) a b).symm
theorem bk_X6_whyNot_f_57 : ck_ fX6 (some .int) cX6_whyNot 57 [.iload 4, .aload 0, .tableswitch 0 6 4 #[], .if_icmp .ge 123, .aload 0, .tableswitch 0 6 3 #[], .iload 4, .aaload, .astore 5, .iload 4, .aload 2, .tableswitch 0 2 1 #[], .if_icmp .eq 117, .aload 5, .tableswitch 0 2 5 #[], .aload 2, .tableswitch 0 2 5 #[], .if_icmp .ne 117, .aload 5, .tableswitch 0 2 6 #[], .iconst (-1), .if_icmp .ne 117, .aload 5, .iload 1] 108 = true := qck_r (nn_ _) (by decide +kernel)
theorem bs_X6_whyNot_f_57 {P : Zt → Option Zv → Prop} (K : Int → Zl → List Zv → Zt → Prop) : sx_ K P [.iload 4, .aload 0, .tableswitch 0 6 4 #[], .if_icmp .ge 123, .aload 0, .tableswitch 0 6 3 #[], .iload 4, .aaload, .astore 5, .iload 4, .aload 2, .tableswitch 0 2 1 #[], .if_icmp .eq 117, .aload 5, .tableswitch 0 2 5 #[], .aload 2, .tableswitch 0 2 5 #[], .if_icmp .ne 117, .aload 5, .tableswitch 0 2 6 #[], .iconst (-1), .if_icmp .ne 117, .aload 5, .iload 1] 108 = x_iload 4 (x_aload 0 (x_g0 106 4 0 400 (x_if_icmp .ge 123 K (x_aload 0 (x_g1 106 523 (x_iload 4 (x_aaload (x_astore 5 (x_iload 4 (x_aload 2 (x_g0 102 1 0 399 (x_if_icmp .eq 117 K (x_aload 5 (x_g0 102 5 0 999 (x_aload 2 (x_g0 102 5 0 999 (x_if_icmp .ne 117 K (x_aload 5 (x_g0 102 6 (-1) 1 (x_iconst (-1) (x_if_icmp .ne 117 K (x_aload 5 (x_iload 1 (K 108)))))))))))))))))))))))) := ((xe_iload 4).trans (congrArg (x_iload 4) ((xe_aload 0).trans (congrArg (x_aload 0) ((xe_g0 (kk := 106) rfl tl_6_4).trans (congrArg (x_g0 106 4 0 400) ((xe_if_icmp .ge 123).trans (congrArg (x_if_icmp .ge 123 K) ((xe_aload 0).trans (congrArg (x_aload 0) ((xe_g1 (kk := 106) rfl tl_6_3).trans (congrArg (x_g1 106 523) ((xe_iload 4).trans (congrArg (x_iload 4) ((xe_aaload).trans (congrArg (x_aaload) ((xe_astore 5).trans (congrArg (x_astore 5) ((xe_iload 4).trans (congrArg (x_iload 4) ((xe_aload 2).trans (congrArg (x_aload 2) ((xe_g0 (kk := 102) rfl tl_2_1).trans (congrArg (x_g0 102 1 0 399) ((xe_if_icmp .eq 117).trans (congrArg (x_if_icmp .eq 117 K) ((xe_aload 5).trans (congrArg (x_aload 5) ((xe_g0 (kk := 102) rfl tl_2_5).trans (congrArg (x_g0 102 5 0 999) ((xe_aload 2).trans (congrArg (x_aload 2) ((xe_g0 (kk := 102) rfl tl_2_5).trans (congrArg (x_g0 102 5 0 999) ((xe_if_icmp .ne 117).trans (congrArg (x_if_icmp .ne 117 K) ((xe_aload 5).trans (congrArg (x_aload 5) ((xe_g0 (kk := 102) rfl tl_2_6).trans (congrArg (x_g0 102 6 (-1) 1) ((xe_iconst (-1)).trans (congrArg (x_iconst (-1)) ((xe_if_icmp .ne 117).trans (congrArg (x_if_icmp .ne 117 K) ((xe_aload 5).trans (congrArg (x_aload 5) ((xe_iload 1).trans (congrArg (x_iload 1) xe_nil))))))))))))))))))))))))))))))))))))))))))))))))
theorem bk_X6_whyNot_f_123 : ck_ fX6 (some .int) cX6_whyNot 123 [.iconst 0, .ireturn] 125 = true := qck_r (nn_ _) (by decide +kernel)
theorem bs_X6_whyNot_f_123 {P : Zt → Option Zv → Prop} (K : Int → Zl → List Zv → Zt → Prop) : sx_ K P [.iconst 0, .ireturn] 125 = x_iconst 0 (x_ireturn P) := ((xe_iconst 0).trans (congrArg (x_iconst 0) (xe_ireturn)))
theorem bk_X6_whyNot_f_117 : ck_ fX6 (some .int) cX6_whyNot 117 [.iinc 4 1, .goto 57] 123 = true := qck_r (nn_ _) (by decide +kernel)
theorem bs_X6_whyNot_f_117 {P : Zt → Option Zv → Prop} (K : Int → Zl → List Zv → Zt → Prop) : sx_ K P [.iinc 4 1, .goto 57] 123 = x_iinc 4 1 (x_goto 57 K) := ((xe_iinc 4 1).trans (congrArg (x_iinc 4 1) (xe_goto 57)))
theorem bk_X6_whyNot_f_111 : ck_ fX6 (some .int) cX6_whyNot 111 [.iconst (-1), .if_icmp .eq 117, .iconst 4, .ireturn] 117 = true := qck_r (nn_ _) (by decide +kernel)
theorem bs_X6_whyNot_f_111 {P : Zt → Option Zv → Prop} (K : Int → Zl → List Zv → Zt → Prop) : sx_ K P [.iconst (-1), .if_icmp .eq 117, .iconst 4, .ireturn] 117 = x_iconst (-1) (x_if_icmp .eq 117 K (x_iconst 4 (x_ireturn P))) := ((xe_iconst (-1)).trans (congrArg (x_iconst (-1)) ((xe_if_icmp .eq 117).trans (congrArg (x_if_icmp .eq 117 K) ((xe_iconst 4).trans (congrArg (x_iconst 4) (xe_ireturn)))))))
theorem bk_X6_whyNot_f_27 : ck_ fX6 (some .int) cX6_whyNot 27 [.if_icmp .eq 32, .iconst 1, .ireturn] 32 = true := qck_r (nn_ _) (by decide +kernel)
theorem bs_X6_whyNot_f_27 {P : Zt → Option Zv → Prop} (K : Int → Zl → List Zv → Zt → Prop) : sx_ K P [.if_icmp .eq 32, .iconst 1, .ireturn] 32 = x_if_icmp .eq 32 K (x_iconst 1 (x_ireturn P)) := ((xe_if_icmp .eq 32).trans (congrArg (x_if_icmp .eq 32 K) ((xe_iconst 1).trans (congrArg (x_iconst 1) (xe_ireturn)))))
theorem bk_X6_whyNot_f_32 : ck_ fX6 (some .int) cX6_whyNot 32 [.aload 0, .iload 1, .aload 2] 35 = true := qck_r (nn_ _) (by decide +kernel)
theorem bs_X6_whyNot_f_32 {P : Zt → Option Zv → Prop} (K : Int → Zl → List Zv → Zt → Prop) : sx_ K P [.aload 0, .iload 1, .aload 2] 35 = x_aload 0 (x_iload 1 (x_aload 2 (K 35))) := ((xe_aload 0).trans (congrArg (x_aload 0) ((xe_iload 1).trans (congrArg (x_iload 1) ((xe_aload 2).trans (congrArg (x_aload 2) xe_nil))))))
theorem bk_X6_whyNot_f_38 : ck_ fX6 (some .int) cX6_whyNot 38 [.ifCond .eq 43, .iconst 2, .ireturn] 43 = true := qck_r (nn_ _) (by decide +kernel)
theorem bs_X6_whyNot_f_38 {P : Zt → Option Zv → Prop} (K : Int → Zl → List Zv → Zt → Prop) : sx_ K P [.ifCond .eq 43, .iconst 2, .ireturn] 43 = x_ifCond .eq 43 K (x_iconst 2 (x_ireturn P)) := ((xe_ifCond .eq 43).trans (congrArg (x_ifCond .eq 43 K) ((xe_iconst 2).trans (congrArg (x_iconst 2) (xe_ireturn)))))
theorem bk_X6_whyNot_f_43 : ck_ fX6 (some .int) cX6_whyNot 43 [.aload 2, .iload 1] 45 = true := qck_r (nn_ _) (by decide +kernel)
theorem bs_X6_whyNot_f_43 {P : Zt → Option Zv → Prop} (K : Int → Zl → List Zv → Zt → Prop) : sx_ K P [.aload 2, .iload 1] 45 = x_aload 2 (x_iload 1 (K 45)) := ((xe_aload 2).trans (congrArg (x_aload 2) ((xe_iload 1).trans (congrArg (x_iload 1) xe_nil))))
theorem bk_X6_whyNot_f_48 : ck_ fX6 (some .int) cX6_whyNot 48 [.iconst (-1), .if_icmp .eq 54, .iconst 3, .ireturn] 54 = true := qck_r (nn_ _) (by decide +kernel)
theorem bs_X6_whyNot_f_48 {P : Zt → Option Zv → Prop} (K : Int → Zl → List Zv → Zt → Prop) : sx_ K P [.iconst (-1), .if_icmp .eq 54, .iconst 3, .ireturn] 54 = x_iconst (-1) (x_if_icmp .eq 54 K (x_iconst 3 (x_ireturn P))) := ((xe_iconst (-1)).trans (congrArg (x_iconst (-1)) ((xe_if_icmp .eq 54).trans (congrArg (x_if_icmp .eq 54 K) ((xe_iconst 3).trans (congrArg (x_iconst 3) (xe_ireturn)))))))
theorem bk_X6_whyNot_f_54 : ck_ fX6 (some .int) cX6_whyNot 54 [.iconst 0, .istore 4] 57 = true := qck_r (nn_ _) (by decide +kernel)
theorem bs_X6_whyNot_f_54 {P : Zt → Option Zv → Prop} (K : Int → Zl → List Zv → Zt → Prop) : sx_ K P [.iconst 0, .istore 4] 57 = x_iconst 0 (x_istore 4 (K 57)) := ((xe_iconst 0).trans (congrArg (x_iconst 0) ((xe_istore 4).trans (congrArg (x_istore 4) xe_nil))))
theorem bk_X6_whyNot_f_0 : ck_ fX6 (some .int) cX6_whyNot 0 [.aload 0, .tableswitch 0 6 0 #[], .iload 1, .aload 2, .tableswitch 0 2 5 #[]] 9 = true := qck_r (nn_ _) (by decide +kernel)
theorem bs_X6_whyNot_f_0 {P : Zt → Option Zv → Prop} (K : Int → Zl → List Zv → Zt → Prop) : sx_ K P [.aload 0, .tableswitch 0 6 0 #[], .iload 1, .aload 2, .tableswitch 0 2 5 #[]] 9 = x_aload 0 (x_g1 106 108 (x_iload 1 (x_aload 2 (x_g0 102 5 0 999 (K 9))))) := ((xe_aload 0).trans (congrArg (x_aload 0) ((xe_g1 (kk := 106) rfl tl_6_0).trans (congrArg (x_g1 106 108) ((xe_iload 1).trans (congrArg (x_iload 1) ((xe_aload 2).trans (congrArg (x_aload 2) ((xe_g0 (kk := 102) rfl tl_2_5).trans (congrArg (x_g0 102 5 0 999) xe_nil))))))))))
theorem bk_X6_whyNot_f_12 : ck_ fX6 (some .int) cX6_whyNot 12 [.iload 3, .ifCond .ne 23, .aload 2, .tableswitch 0 2 3 #[], .goto 27] 23 = true := qck_r (nn_ _) (by decide +kernel)
theorem bs_X6_whyNot_f_12 {P : Zt → Option Zv → Prop} (K : Int → Zl → List Zv → Zt → Prop) : sx_ K P [.iload 3, .ifCond .ne 23, .aload 2, .tableswitch 0 2 3 #[], .goto 27] 23 = x_iload 3 (x_ifCond .ne 23 K (x_aload 2 (x_g0 102 3 0 11 (x_goto 27 K)))) := ((xe_iload 3).trans (congrArg (x_iload 3) ((xe_ifCond .ne 23).trans (congrArg (x_ifCond .ne 23 K) ((xe_aload 2).trans (congrArg (x_aload 2) ((xe_g0 (kk := 102) rfl tl_2_3).trans (congrArg (x_g0 102 3 0 11) (xe_goto 27)))))))))
theorem bk_X6_whyNot_f_23 : ck_ fX6 (some .int) cX6_whyNot 23 [.aload 2, .tableswitch 0 2 4 #[]] 27 = true := qck_r (nn_ _) (by decide +kernel)
theorem bs_X6_whyNot_f_23 {P : Zt → Option Zv → Prop} (K : Int → Zl → List Zv → Zt → Prop) : sx_ K P [.aload 2, .tableswitch 0 2 4 #[]] 27 = x_aload 2 (x_g0 102 4 0 11 (K 27)) := ((xe_aload 2).trans (congrArg (x_aload 2) ((xe_g0 (kk := 102) rfl tl_2_4).trans (congrArg (x_g0 102 4 0 11) xe_nil))))
abbrev po_X6_whyNot_f (T : Zt) (p : Int) (q d : Int) : Zt → Option Zv → Prop := fun T' r => ∃ x : Int, r = some (vI x) ∧ fr_ [(533, [])] T T' ∧ (x = wyH_ T q p d)
set_option maxHeartbeats 4000000 in
theorem ct_X6_whyNot_f {T : Zt} {p : Int} {q d : Int} (hka : KA_ T) (hkm : KM_ T) (hkc : KC_ T) (hq : 0 ≤ q ∧ q < 200) (hp : 0 ≤ p ∧ p < T 106 0 4) (hq2 : q < T 108 0 3) (hsp : SPR_ T) : Ct_ yX6_whyNot zX6_whyNot T [vR 106 0, vI q, vR 102 p, vI d] (po_X6_whyNot_f T p q d) := by
  refine ct_of pn_6 rfl rfl (Nat.le_of_ble_eq_true rfl) (fun hT hav => ?_)
  have hr_q : -2147483648 ≤ q ∧ q ≤ 2147483647 := hav (vI q) (List.mem_cons_of_mem _ List.mem_cons_self)
  have hr_d : -2147483648 ≤ d ∧ d ≤ 2147483647 := hav (vI d) (List.mem_cons_of_mem _ (List.mem_cons_of_mem _ (List.mem_cons_of_mem _ List.mem_cons_self)))
  have hz : zX6_whyNot.2.2.2.1 = some .boolean → ∀ (T' : Zt) (x : Int), po_X6_whyNot_f T p q d T' (some (vI x)) → 0 ≤ x ∧ x ≤ 1 := fun h => by cases h
  have hb_matchCount : 0 ≤ T 106 0 4 ∧ T 106 0 4 ≤ 400 := bd_f hT 106 4 tl_6_4 0
  have hmp := hkm p (by omega) (by omega)
  have hcp := hkc (T 102 p 0) (by omega) (by omega)
  have hb7 : 0 ≤ T 100 (T 102 p 0) 7 ∧ T 100 (T 102 p 0) 7 ≤ 400 := bd_f hT 100 7 tl_0_7 (T 102 p 0)
  have hb8 : 0 ≤ T 100 (T 102 p 0) 8 ∧ T 100 (T 102 p 0) 8 ≤ 400 := bd_f hT 100 8 tl_0_8 (T 102 p 0)
  show J_ zX6_whyNot T (po_X6_whyNot_f T p q d) 0 0 0 [some (vR 106 0), some (vI q), some (vR 102 p), some (vI d), none, none] [] T
  have c_57 : ∀ (nn : Nat) (k : Int) (T1 : Zt), ((400 - k).toNat) ≤ nn → (fr_ [(533, [])] T T1) → (0 ≤ k ∧ (k = 0 ∨ k ≤ T 106 0 4)) → (¬ co9_c T q (T 102 p 5) ≠ cz_ (d = 0) (T 102 p 3) (T 102 p 4)) → (¬ 0 < bnH_ T q p) → (¬ plc_ T p q ≠ -1) → (∀ j, 0 ≤ j → j < k → j ≠ p → ¬ (T 102 j 5 = T 102 p 5 ∧ T 102 j 6 = -1 ∧ plc_ T j q ≠ -1)) → J_ zX6_whyNot T (po_X6_whyNot_f T p q d) 0 0 57 [some (vR 106 0), some (vI q), some (vR 102 p), some (vI d), some (vI k), none] [] T1 := by
    intro nn
    induction nn using Nat.strongRecOn with
    | _ nn ih_57 =>
      intro k T1 hm_57 hf_57 i1 wsd nb9 np9 ne9
      replace hm_57 := fun (_ : Unit) => hm_57
      refine j_blx (F := fX6) tb_X6 (nn_ _) bk_X6_whyNot_f_57 bs_X6_whyNot_f_57 hz (fun K hK => ?_)
      intro b1 b1b
      have e2 : T1 106 0 4 = T 106 0 4 := hf_57 106 0 4 rfl
      rw [e2] at b1 b1b ⊢
      refine And.intro (fun c3 => ?_) (fun c3 => ?_)
      · refine hK 123 _ [] T1 ?_
        refine j_blx (F := fX6) tb_X6 (nn_ _) bk_X6_whyNot_f_123 bs_X6_whyNot_f_123 hz (fun K hK => ?_)
        refine (show po_X6_whyNot_f T p q d T1 (some (vI 0)) from ?_)
        refine ⟨_, rfl, fr_t (fr_0 _ _) (fr_s hf_57 rfl), (wyH_0 wsd nb9 np9 ?_).symm⟩
        rintro ⟨j, a1, a2, a3, a4, a5, a6⟩
        exact ne9 j a1 (by omega) a3 ⟨a4, a5, a6⟩
      · refine ix_i (by omega) ?_
        have e5 : T1 523 0 k = T 523 0 k := hf_57 523 0 k rfl
        refine And.intro (fun c4 => ?_) (fun c4 => ?_)
        · exact absurd (show T 523 0 (k) = 0 from Int.le_antisymm (by omega) (by omega)) (hka.2 _ (by omega) (by omega))
        · intro b6 b6b
          have e7 : T1 102 p 1 = T 102 p 1 := hf_57 102 p 1 rfl
          rw [e7] at b6 b6b ⊢
          refine And.intro (fun c8 => ?_) (fun c8 => ?_)
          · refine hK 117 [some (vR 106 0), some (vI q), some (vR 102 p), some (vI d), some (vI k), some (vR 102 k)] [] T1 ?_
            refine j_blx (F := fX6) tb_X6 (nn_ _) bk_X6_whyNot_f_117 bs_X6_whyNot_f_117 hz (fun K hK => ?_)
            refine rg_i (by omega) ?_
            refine hK 57 [some (vR 106 0), some (vI q), some (vR 102 p), some (vI d), some (vI (k + 1)), some (vR 102 k)] [] T1 ?_
            refine j_drq [some (vR 106 0), some (vI q), some (vR 102 p), some (vI d), some (vI (k + 1)), none] (drq_s (drq_s (drq_s (drq_s (drq_s (drq_n drq_0)))))) ?_
            refine ih_57 _ ?_ (k + 1) T1 (Nat.le_refl _) ?_ ?_ ?_ ?_ ?_ ?_
            · have hm_57 := hm_57 (); omega
            · exact fr_t (fr_0 _ _) (fr_s hf_57 rfl)
            · omega
            · exact wsd
            · exact nb9
            · exact np9
            · intro j a b c e
              by_cases z : j = k
              · rw [z] at c e; omega
              · exact ne9 j a (by omega) c e
          · intro b9 b9b
            have e10 : T1 102 k 5 = T 102 k 5 := hf_57 102 k 5 rfl
            rw [e10] at b9 b9b ⊢
            intro b11 b11b
            have e12 : T1 102 p 5 = T 102 p 5 := hf_57 102 p 5 rfl
            rw [e12] at b11 b11b ⊢
            refine And.intro (fun c13 => ?_) (fun c13 => ?_)
            · refine hK 117 [some (vR 106 0), some (vI q), some (vR 102 p), some (vI d), some (vI k), some (vR 102 k)] [] T1 ?_
              refine j_blx (F := fX6) tb_X6 (nn_ _) bk_X6_whyNot_f_117 bs_X6_whyNot_f_117 hz (fun K hK => ?_)
              refine rg_i (by omega) ?_
              refine hK 57 [some (vR 106 0), some (vI q), some (vR 102 p), some (vI d), some (vI (k + 1)), some (vR 102 k)] [] T1 ?_
              refine j_drq [some (vR 106 0), some (vI q), some (vR 102 p), some (vI d), some (vI (k + 1)), none] (drq_s (drq_s (drq_s (drq_s (drq_s (drq_n drq_0)))))) ?_
              refine ih_57 _ ?_ (k + 1) T1 (Nat.le_refl _) ?_ ?_ ?_ ?_ ?_ ?_
              · have hm_57 := hm_57 (); omega
              · exact fr_t (fr_0 _ _) (fr_s hf_57 rfl)
              · omega
              · exact wsd
              · exact nb9
              · exact np9
              · intro j a b c e
                by_cases z : j = k
                · rw [z] at c e; omega
                · exact ne9 j a (by omega) c e
            · intro b14 b14b
              have e15 : T1 102 k 6 = T 102 k 6 := hf_57 102 k 6 rfl
              rw [e15] at b14 b14b ⊢
              refine And.intro (fun c16 => ?_) (fun c16 => ?_)
              · refine hK 117 [some (vR 106 0), some (vI q), some (vR 102 p), some (vI d), some (vI k), some (vR 102 k)] [] T1 ?_
                refine j_blx (F := fX6) tb_X6 (nn_ _) bk_X6_whyNot_f_117 bs_X6_whyNot_f_117 hz (fun K hK => ?_)
                refine rg_i (by omega) ?_
                refine hK 57 [some (vR 106 0), some (vI q), some (vR 102 p), some (vI d), some (vI (k + 1)), some (vR 102 k)] [] T1 ?_
                refine j_drq [some (vR 106 0), some (vI q), some (vR 102 p), some (vI d), some (vI (k + 1)), none] (drq_s (drq_s (drq_s (drq_s (drq_s (drq_n drq_0)))))) ?_
                refine ih_57 _ ?_ (k + 1) T1 (Nat.le_refl _) ?_ ?_ ?_ ?_ ?_ ?_
                · have hm_57 := hm_57 (); omega
                · exact fr_t (fr_0 _ _) (fr_s hf_57 rfl)
                · omega
                · exact wsd
                · exact nb9
                · exact np9
                · intro j a b c e
                  by_cases z : j = k
                  · rw [z] at c e; omega
                  · exact ne9 j a (by omega) c e
              · refine hK 108 [some (vR 106 0), some (vI q), some (vR 102 p), some (vI d), some (vI k), some (vR 102 k)] [vI q, vR 102 k] T1 ?_
                refine j_callV (y := yX2_placeOf) (Yc := zX2_placeOf) (rest := []) [vI q] (ct_X2_placeOf_f (T := T1)) cl_X6_172 (qd_c (by decide +kernel)) (nn_ _) rfl (rf_of rfl) (Nat.le_of_ble_eq_true rfl) (Nat.le_of_ble_eq_true rfl) (Nat.le_of_ble_eq_true rfl) rfl ?_
                rintro _ _ ⟨rfl, x17, rfl, hx17⟩
                rw [plc_k (T := T) (fr_t (fr_0 _ _) (fr_s hf_57 rfl))] at hx17
                have bx17 := plc_b (T := T) (m := k) (q := q) (bd_a hT 449 (by decide +kernel : ta_ 449 = some (1, some 2, 0, 10)) k (show (0 : Int) ≤ 0 by decide)).2 (bd_a hT 449 (by decide +kernel : ta_ 449 = some (1, some 2, 0, 10)) k (show (0 : Int) ≤ 1 by decide)).2
                show J_ zX6_whyNot T (po_X6_whyNot_f T p q d) 0 0 111 _ [vI x17] T1
                refine j_blx (F := fX6) tb_X6 (nn_ _) bk_X6_whyNot_f_111 bs_X6_whyNot_f_111 hz (fun K hK => ?_)
                refine And.intro (fun c18 => ?_) (fun c18 => ?_)
                · refine hK 117 _ [] T1 ?_
                  refine j_blx (F := fX6) tb_X6 (nn_ _) bk_X6_whyNot_f_117 bs_X6_whyNot_f_117 hz (fun K hK => ?_)
                  refine rg_i (by omega) ?_
                  refine hK 57 [some (vR 106 0), some (vI q), some (vR 102 p), some (vI d), some (vI (k + 1)), some (vR 102 k)] [] T1 ?_
                  refine j_drq [some (vR 106 0), some (vI q), some (vR 102 p), some (vI d), some (vI (k + 1)), none] (drq_s (drq_s (drq_s (drq_s (drq_s (drq_n drq_0)))))) ?_
                  refine ih_57 _ ?_ (k + 1) T1 (Nat.le_refl _) ?_ ?_ ?_ ?_ ?_ ?_
                  · have hm_57 := hm_57 (); omega
                  · exact fr_t (fr_0 _ _) (fr_s hf_57 rfl)
                  · omega
                  · exact wsd
                  · exact nb9
                  · exact np9
                  · intro j a b c e
                    by_cases z : j = k
                    · rw [z] at c e; omega
                    · exact ne9 j a (by omega) c e
                · refine (show po_X6_whyNot_f T p q d T1 (some (vI 4)) from ?_)
                  exact ⟨_, rfl, fr_t (fr_0 _ _) (fr_s hf_57 rfl), (wyH_4 wsd nb9 np9 ⟨k, by omega, by omega, by omega, by omega, by omega, by omega⟩).symm⟩
  have c_27 : ∀ (v : Int) (w : Int), (v = co9_c T q (T 102 p 5)) → ((d = 0 ∧ w = T 102 p 3) ∨ (d ≠ 0 ∧ w = T 102 p 4)) → J_ zX6_whyNot T (po_X6_whyNot_f T p q d) 0 0 27 [some (vR 106 0), some (vI q), some (vR 102 p), some (vI d), none, none] [vI w, vI v] T := by
    intro v w hcl hsd
    refine j_blx (F := fX6) tb_X6 (nn_ _) bk_X6_whyNot_f_27 bs_X6_whyNot_f_27 hz (fun K hK => ?_)
    refine And.intro (fun c19 => ?_) (fun c19 => ?_)
    · have wsd := (sd_h hcl hsd).mp c19
      refine hK 32 _ [] T ?_
      refine j_blx (F := fX6) tb_X6 (nn_ _) bk_X6_whyNot_f_32 bs_X6_whyNot_f_32 hz (fun K hK => ?_)
      refine hK 35 _ [vR 102 p, vI q, vR 106 0] T ?_
      refine j_callV (y := yX6_isBanned) (Yc := zX6_isBanned) (rest := []) [vI q, vR 102 p] (ct_X6_isBanned_f (T := T) (hka) (hkm) (hkc) (by omega) (by omega) (by omega) hsp) cl_X6_168 (qd_c (by decide +kernel)) (nn_ _) rfl (rf_of rfl) (Nat.le_of_ble_eq_true rfl) (Nat.le_of_ble_eq_true rfl) (Nat.le_of_ble_eq_true rfl) rfl ?_
      rintro U20 _ ⟨x21, rfl, fU20, qU20⟩
      show J_ zX6_whyNot T (po_X6_whyNot_f T p q d) 0 0 38 _ [vI x21] U20
      refine j_blx (F := fX6) tb_X6 (nn_ _) bk_X6_whyNot_f_38 bs_X6_whyNot_f_38 hz (fun K hK => ?_)
      refine And.intro (fun c22 => ?_) (fun c22 => ?_)
      · refine hK 43 _ [] U20 ?_
        refine j_blx (F := fX6) tb_X6 (nn_ _) bk_X6_whyNot_f_43 bs_X6_whyNot_f_43 hz (fun K hK => ?_)
        refine hK 45 _ [vI q, vR 102 p] U20 ?_
        refine j_callV (y := yX2_placeOf) (Yc := zX2_placeOf) (rest := []) [vI q] (ct_X2_placeOf_f (T := U20)) cl_X6_172 (qd_c (by decide +kernel)) (nn_ _) rfl (rf_of rfl) (Nat.le_of_ble_eq_true rfl) (Nat.le_of_ble_eq_true rfl) (Nat.le_of_ble_eq_true rfl) rfl ?_
        rintro _ _ ⟨rfl, x23, rfl, hx23⟩
        rw [plc_k (T := T) (fr_t (fr_0 _ _) (fr_s fU20 rfl))] at hx23
        have bx23 := plc_b (T := T) (m := p) (q := q) (bd_a hT 449 (by decide +kernel : ta_ 449 = some (1, some 2, 0, 10)) p (show (0 : Int) ≤ 0 by decide)).2 (bd_a hT 449 (by decide +kernel : ta_ 449 = some (1, some 2, 0, 10)) p (show (0 : Int) ≤ 1 by decide)).2
        show J_ zX6_whyNot T (po_X6_whyNot_f T p q d) 0 0 48 _ [vI x23] U20
        refine j_blx (F := fX6) tb_X6 (nn_ _) bk_X6_whyNot_f_48 bs_X6_whyNot_f_48 hz (fun K hK => ?_)
        refine And.intro (fun c24 => ?_) (fun c24 => ?_)
        · refine hK 54 _ [] U20 ?_
          refine j_blx (F := fX6) tb_X6 (nn_ _) bk_X6_whyNot_f_54 bs_X6_whyNot_f_54 hz (fun K hK => ?_)
          refine hK 57 [some (vR 106 0), some (vI q), some (vR 102 p), some (vI d), some (vI 0), none] [] U20 ?_
          refine c_57 _ 0 U20 (Nat.le_refl _) ?_ ?_ ?_ ?_ ?_ ?_
          · exact fr_t (fr_0 _ _) (fr_s fU20 rfl)
          · omega
          · exact wsd
          · omega
          · omega
          · intro j a b; omega
        · refine (show po_X6_whyNot_f T p q d U20 (some (vI 3)) from ?_)
          exact ⟨_, rfl, fr_t (fr_0 _ _) (fr_s fU20 rfl), (wyH_3 wsd (by omega) (by omega)).symm⟩
      · refine (show po_X6_whyNot_f T p q d U20 (some (vI 2)) from ?_)
        exact ⟨_, rfl, fr_t (fr_0 _ _) (fr_s fU20 rfl), (wyH_2 wsd (by omega)).symm⟩
    · refine (show po_X6_whyNot_f T p q d T (some (vI 1)) from ?_)
      have w9 : co9_c T q (T 102 p 5) ≠ cz_ (d = 0) (T 102 p 3) (T 102 p 4) := fun z => by
        have y9 := (sd_h hcl hsd).mpr (fun t => t z)
        omega
      exact ⟨_, rfl, fr_0 _ _, (wyH_1 w9).symm⟩
  refine j_blx (F := fX6) tb_X6 (nn_ _) bk_X6_whyNot_f_0 bs_X6_whyNot_f_0 hz (fun K hK => ?_)
  intro b25 b25b
  refine hK 9 _ [vI (T 102 p 5), vI q, vR 108 0] T ?_
  refine j_callV (y := yX8_clubOn) (Yc := zX8_clubOn) (rest := []) [vI q, vI (T 102 p 5)] (ct_X8_clubOn_e (T := T) (by omega) (by omega) (hsp)) cl_X6_165 (qd_c (by decide +kernel)) (nn_ _) rfl (rf_of rfl) (Nat.le_of_ble_eq_true rfl) (Nat.le_of_ble_eq_true rfl) (Nat.le_of_ble_eq_true rfl) rfl ?_
  rintro _ _ ⟨rfl, x26, rfl, hx26⟩
  show J_ zX6_whyNot T (po_X6_whyNot_f T p q d) 0 0 12 _ [vI x26] T
  refine j_blx (F := fX6) tb_X6 (nn_ _) bk_X6_whyNot_f_12 bs_X6_whyNot_f_12 hz (fun K hK => ?_)
  refine And.intro (fun c27 => ?_) (fun c27 => ?_)
  · refine hK 23 _ [vI x26] T ?_
    refine j_blx (F := fX6) tb_X6 (nn_ _) bk_X6_whyNot_f_23 bs_X6_whyNot_f_23 hz (fun K hK => ?_)
    intro b28 b28b
    refine hK 27 _ [vI (T 102 p 4), vI x26] T ?_
    refine c_27 x26 (T 102 p 4) ?_ ?_
    · omega
    · omega
  · intro b29 b29b
    refine hK 27 _ [vI (T 102 p 3), vI x26] T ?_
    refine c_27 x26 (T 102 p 3) ?_ ?_
    · omega
    · omega
theorem bk_X10_eligible_f_0 : ck_ fX10 (some .int) cX10_eligible 0 [.aload 0, .iload 1] 2 = true := qck_r (nn_ _) (by decide +kernel)
theorem bs_X10_eligible_f_0 {P : Zt → Option Zv → Prop} (K : Int → Zl → List Zv → Zt → Prop) : sx_ K P [.aload 0, .iload 1] 2 = x_aload 0 (x_iload 1 (K 2)) := ((xe_aload 0).trans (congrArg (x_aload 0) ((xe_iload 1).trans (congrArg (x_iload 1) xe_nil))))
theorem bk_X10_eligible_f_5 : ck_ fX10 (some .int) cX10_eligible 5 [.ifCond .eq 16, .aload 0, .iload 2] 10 = true := qck_r (nn_ _) (by decide +kernel)
theorem bs_X10_eligible_f_5 {P : Zt → Option Zv → Prop} (K : Int → Zl → List Zv → Zt → Prop) : sx_ K P [.ifCond .eq 16, .aload 0, .iload 2] 10 = x_ifCond .eq 16 K (x_aload 0 (x_iload 2 (K 10))) := ((xe_ifCond .eq 16).trans (congrArg (x_ifCond .eq 16 K) ((xe_aload 0).trans (congrArg (x_aload 0) ((xe_iload 2).trans (congrArg (x_iload 2) xe_nil))))))
theorem bk_X10_eligible_f_16 : ck_ fX10 (some .int) cX10_eligible 16 [.iconst (-2), .ireturn] 19 = true := qck_r (nn_ _) (by decide +kernel)
theorem bs_X10_eligible_f_16 {P : Zt → Option Zv → Prop} (K : Int → Zl → List Zv → Zt → Prop) : sx_ K P [.iconst (-2), .ireturn] 19 = x_iconst (-2) (x_ireturn P) := ((xe_iconst (-2)).trans (congrArg (x_iconst (-2)) (xe_ireturn)))
theorem bk_X10_eligible_f_13 : ck_ fX10 (some .int) cX10_eligible 13 [.ifCond .ne 19, .iconst (-2), .ireturn] 19 = true := qck_r (nn_ _) (by decide +kernel)
theorem bs_X10_eligible_f_13 {P : Zt → Option Zv → Prop} (K : Int → Zl → List Zv → Zt → Prop) : sx_ K P [.ifCond .ne 19, .iconst (-2), .ireturn] 19 = x_ifCond .ne 19 K (x_iconst (-2) (x_ireturn P)) := ((xe_ifCond .ne 19).trans (congrArg (x_ifCond .ne 19 K) ((xe_iconst (-2)).trans (congrArg (x_iconst (-2)) (xe_ireturn)))))
theorem bk_X10_eligible_f_19 : ck_ fX10 (some .int) cX10_eligible 19 [.iload 3] 20 = true := qck_r (nn_ _) (by decide +kernel)
theorem bs_X10_eligible_f_19 {P : Zt → Option Zv → Prop} (K : Int → Zl → List Zv → Zt → Prop) : sx_ K P [.iload 3] 20 = x_iload 3 (K 20) := ((xe_iload 3).trans (congrArg (x_iload 3) xe_nil))
theorem bk_X10_eligible_f_23 : ck_ fX10 (some .int) cX10_eligible 23 [.ifCond .ne 29, .iconst (-3), .ireturn] 29 = true := qck_r (nn_ _) (by decide +kernel)
theorem bs_X10_eligible_f_23 {P : Zt → Option Zv → Prop} (K : Int → Zl → List Zv → Zt → Prop) : sx_ K P [.ifCond .ne 29, .iconst (-3), .ireturn] 29 = x_ifCond .ne 29 K (x_iconst (-3) (x_ireturn P)) := ((xe_ifCond .ne 29).trans (congrArg (x_ifCond .ne 29 K) ((xe_iconst (-3)).trans (congrArg (x_iconst (-3)) (xe_ireturn)))))
theorem bk_X10_eligible_f_29 : ck_ fX10 (some .int) cX10_eligible 29 [.aload 0, .tableswitch 0 10 2 #[], .iload 1, .aload 0, .tableswitch 0 10 2 #[], .tableswitch 0 6 3 #[], .iload 2, .aaload, .iload 3] 44 = true := qck_r (nn_ _) (by decide +kernel)
theorem bs_X10_eligible_f_29 {P : Zt → Option Zv → Prop} (K : Int → Zl → List Zv → Zt → Prop) : sx_ K P [.aload 0, .tableswitch 0 10 2 #[], .iload 1, .aload 0, .tableswitch 0 10 2 #[], .tableswitch 0 6 3 #[], .iload 2, .aaload, .iload 3] 44 = x_aload 0 (x_g1 110 106 (x_iload 1 (x_aload 0 (x_g1 110 106 (x_g1 106 523 (x_iload 2 (x_aaload (x_iload 3 (K 44))))))))) := ((xe_aload 0).trans (congrArg (x_aload 0) ((xe_g1 (kk := 110) rfl tl_10_2).trans (congrArg (x_g1 110 106) ((xe_iload 1).trans (congrArg (x_iload 1) ((xe_aload 0).trans (congrArg (x_aload 0) ((xe_g1 (kk := 110) rfl tl_10_2).trans (congrArg (x_g1 110 106) ((xe_g1 (kk := 106) rfl tl_6_3).trans (congrArg (x_g1 106 523) ((xe_iload 2).trans (congrArg (x_iload 2) ((xe_aaload).trans (congrArg (x_aaload) ((xe_iload 3).trans (congrArg (x_iload 3) xe_nil))))))))))))))))))
theorem bk_X10_eligible_f_47 : ck_ fX10 (some .int) cX10_eligible 47 [.ireturn] 48 = true := qck_r (nn_ _) (by decide +kernel)
theorem bs_X10_eligible_f_47 {P : Zt → Option Zv → Prop} (K : Int → Zl → List Zv → Zt → Prop) : sx_ K P [.ireturn] 48 = x_ireturn P := (xe_ireturn)
abbrev po_X10_eligible_f (T : Zt) (q m d : Int) : Zt → Option Zv → Prop := fun T' r => ∃ x : Int, r = some (vI x) ∧ fr_ [(533, [])] T T' ∧ ((x = -2 ∧ ¬ ((0 ≤ q ∧ q < T 108 0 3) ∧ 0 ≤ m ∧ m < T 106 0 4)) ∨ (((0 ≤ q ∧ q < T 108 0 3) ∧ 0 ≤ m ∧ m < T 106 0 4) ∧ ((x = -3 ∧ ¬ (0 ≤ d ∧ d ≤ 1)) ∨ ((0 ≤ d ∧ d ≤ 1) ∧ x = wyH_ T q m d))))
set_option maxHeartbeats 4000000 in
theorem ct_X10_eligible_f {T : Zt} {q m d : Int} (hka : KA_ T) (hkm : KM_ T) (hkc : KC_ T) (hsp : SPR_ T) : Ct_ yX10_eligible zX10_eligible T [vR 110 0, vI q, vI m, vI d] (po_X10_eligible_f T q m d) := by
  refine ct_of pn_10 rfl rfl (Nat.le_of_ble_eq_true rfl) (fun hT hav => ?_)
  have hr_q : -2147483648 ≤ q ∧ q ≤ 2147483647 := hav (vI q) (List.mem_cons_of_mem _ List.mem_cons_self)
  have hr_m : -2147483648 ≤ m ∧ m ≤ 2147483647 := hav (vI m) (List.mem_cons_of_mem _ (List.mem_cons_of_mem _ List.mem_cons_self))
  have hr_d : -2147483648 ≤ d ∧ d ≤ 2147483647 := hav (vI d) (List.mem_cons_of_mem _ (List.mem_cons_of_mem _ (List.mem_cons_of_mem _ List.mem_cons_self)))
  have hz : zX10_eligible.2.2.2.1 = some .boolean → ∀ (T' : Zt) (x : Int), po_X10_eligible_f T q m d T' (some (vI x)) → 0 ≤ x ∧ x ≤ 1 := fun h => by cases h
  have hb_matchCount : 0 ≤ T 106 0 4 ∧ T 106 0 4 ≤ 400 := bd_f hT 106 4 tl_6_4 0
  have hb_persons : 0 ≤ T 108 0 3 ∧ T 108 0 3 ≤ 200 := bd_f hT 108 3 tl_8_3 0
  show J_ zX10_eligible T (po_X10_eligible_f T q m d) 0 0 0 [some (vR 110 0), some (vI q), some (vI m), some (vI d)] [] T
  refine j_blx (F := fX10) tb_X10 (nn_ _) bk_X10_eligible_f_0 bs_X10_eligible_f_0 hz (fun K hK => ?_)
  refine hK 2 _ [vI q, vR 110 0] T ?_
  refine j_callV (y := yX10_isPerson) (Yc := zX10_isPerson) (rest := []) [vI q] (ct_X10_isPerson (T := T)) cl_X10_134 (qd_c (by decide +kernel)) (nn_ _) rfl (rf_of rfl) (Nat.le_of_ble_eq_true rfl) (Nat.le_of_ble_eq_true rfl) (Nat.le_of_ble_eq_true rfl) rfl ?_
  rintro _ _ ⟨rfl, x1, rfl, hx1⟩
  show J_ zX10_eligible T (po_X10_eligible_f T q m d) 0 0 5 _ [vI x1] T
  refine j_blx (F := fX10) tb_X10 (nn_ _) bk_X10_eligible_f_5 bs_X10_eligible_f_5 hz (fun K hK => ?_)
  refine And.intro (fun c2 => ?_) (fun c2 => ?_)
  · replace hx1 := hx1.resolve_left (fun z => absurd (c2.symm.trans z.1) (by decide))
    clear c2
    refine hK 16 _ [] T ?_
    refine j_blx (F := fX10) tb_X10 (nn_ _) bk_X10_eligible_f_16 bs_X10_eligible_f_16 hz (fun K hK => ?_)
    refine (show po_X10_eligible_f T q m d T (some (vI (-2))) from ?_)
    exact ⟨_, rfl, fr_0 _ _, by omega⟩
  · replace hx1 := hx1.resolve_right (fun z => c2 z.1)
    clear c2
    refine hK 10 _ [vI m, vR 110 0] T ?_
    refine j_callV (y := yX10_isMatch) (Yc := zX10_isMatch) (rest := []) [vI m] (ct_X10_isMatch (T := T)) cl_X10_195 (qd_c (by decide +kernel)) (nn_ _) rfl (rf_of rfl) (Nat.le_of_ble_eq_true rfl) (Nat.le_of_ble_eq_true rfl) (Nat.le_of_ble_eq_true rfl) rfl ?_
    rintro _ _ ⟨rfl, x3, rfl, hx3⟩
    show J_ zX10_eligible T (po_X10_eligible_f T q m d) 0 0 13 _ [vI x3] T
    refine j_blx (F := fX10) tb_X10 (nn_ _) bk_X10_eligible_f_13 bs_X10_eligible_f_13 hz (fun K hK => ?_)
    refine And.intro (fun c4 => ?_) (fun c4 => ?_)
    · replace hx3 := hx3.resolve_right (fun z => c4 z.1)
      clear c4
      refine hK 19 _ [] T ?_
      refine j_blx (F := fX10) tb_X10 (nn_ _) bk_X10_eligible_f_19 bs_X10_eligible_f_19 hz (fun K hK => ?_)
      refine hK 20 _ [vI d] T ?_
      refine j_callS (y := yX10_isSide) (Yc := zX10_isSide) (rest := []) [vI d] (ct_X10_isSide (T := T)) cl_X10_251 (qd_c (by decide +kernel)) (nn_ _) rfl (rf_of rfl) (Nat.le_of_ble_eq_true rfl) (Nat.le_of_ble_eq_true rfl) (Nat.le_of_ble_eq_true rfl) rfl ?_
      rintro _ _ ⟨rfl, x5, rfl, hx5⟩
      show J_ zX10_eligible T (po_X10_eligible_f T q m d) 0 0 23 _ [vI x5] T
      refine j_blx (F := fX10) tb_X10 (nn_ _) bk_X10_eligible_f_23 bs_X10_eligible_f_23 hz (fun K hK => ?_)
      refine And.intro (fun c6 => ?_) (fun c6 => ?_)
      · replace hx5 := hx5.resolve_right (fun z => c6 z.1)
        clear c6
        refine hK 29 _ [] T ?_
        refine j_blx (F := fX10) tb_X10 (nn_ _) bk_X10_eligible_f_29 bs_X10_eligible_f_29 hz (fun K hK => ?_)
        refine ix_i (by omega) ?_
        refine And.intro (fun c7 => ?_) (fun c7 => ?_)
        · exact absurd (show T 523 0 (m) = 0 from Int.le_antisymm (by omega) (by omega)) (hka.2 _ (by omega) (by omega))
        · refine hK 44 _ [vI d, vR 102 m, vI q, vR 106 0] T ?_
          refine j_callV (y := yX6_whyNot) (Yc := zX6_whyNot) (rest := []) [vI q, vR 102 m, vI d] (ct_X6_whyNot_f (T := T) (hka) (hkm) (hkc) (by omega) (by omega) (by omega) hsp) cl_X10_254 (qd_c (by decide +kernel)) (nn_ _) rfl (rf_of rfl) (Nat.le_of_ble_eq_true rfl) (Nat.le_of_ble_eq_true rfl) (Nat.le_of_ble_eq_true rfl) rfl ?_
          rintro U8 _ ⟨x9, rfl, fU8, qU8⟩
          show J_ zX10_eligible T (po_X10_eligible_f T q m d) 0 0 47 _ [vI x9] U8
          refine j_blx (F := fX10) tb_X10 (nn_ _) bk_X10_eligible_f_47 bs_X10_eligible_f_47 hz (fun K hK => ?_)
          refine (show po_X10_eligible_f T q m d U8 (some (vI x9)) from ?_)
          exact ⟨_, rfl, fr_t (fr_0 _ _) (fr_s fU8 rfl), by omega⟩
      · replace hx5 := hx5.resolve_left (fun z => absurd (c6.symm.trans z.1) (by decide))
        clear c6
        refine (show po_X10_eligible_f T q m d T (some (vI (-3))) from ?_)
        exact ⟨_, rfl, fr_0 _ _, by omega⟩
    · replace hx3 := hx3.resolve_left (fun z => absurd (c4.symm.trans z.1) (by decide))
      clear c4
      refine (show po_X10_eligible_f T q m d T (some (vI (-2))) from ?_)
      exact ⟨_, rfl, fr_0 _ _, by omega⟩
theorem bk_X10_lineUp_f_0 : ck_ fX10 (some .int) cX10_lineUp 0 [.aload 0, .iload 1] 2 = true := qck_r (nn_ _) (by decide +kernel)
theorem bs_X10_lineUp_f_0 {P : Zt → Option Zv → Prop} (K : Int → Zl → List Zv → Zt → Prop) : sx_ K P [.aload 0, .iload 1] 2 = x_aload 0 (x_iload 1 (K 2)) := ((xe_aload 0).trans (congrArg (x_aload 0) ((xe_iload 1).trans (congrArg (x_iload 1) xe_nil))))
theorem bk_X10_lineUp_f_5 : ck_ fX10 (some .int) cX10_lineUp 5 [.ifCond .eq 16, .aload 0, .iload 2] 10 = true := qck_r (nn_ _) (by decide +kernel)
theorem bs_X10_lineUp_f_5 {P : Zt → Option Zv → Prop} (K : Int → Zl → List Zv → Zt → Prop) : sx_ K P [.ifCond .eq 16, .aload 0, .iload 2] 10 = x_ifCond .eq 16 K (x_aload 0 (x_iload 2 (K 10))) := ((xe_ifCond .eq 16).trans (congrArg (x_ifCond .eq 16 K) ((xe_aload 0).trans (congrArg (x_aload 0) ((xe_iload 2).trans (congrArg (x_iload 2) xe_nil))))))
theorem bk_X10_lineUp_f_16 : ck_ fX10 (some .int) cX10_lineUp 16 [.iconst (-2), .ireturn] 19 = true := qck_r (nn_ _) (by decide +kernel)
theorem bs_X10_lineUp_f_16 {P : Zt → Option Zv → Prop} (K : Int → Zl → List Zv → Zt → Prop) : sx_ K P [.iconst (-2), .ireturn] 19 = x_iconst (-2) (x_ireturn P) := ((xe_iconst (-2)).trans (congrArg (x_iconst (-2)) (xe_ireturn)))
theorem bk_X10_lineUp_f_13 : ck_ fX10 (some .int) cX10_lineUp 13 [.ifCond .ne 19, .iconst (-2), .ireturn] 19 = true := qck_r (nn_ _) (by decide +kernel)
theorem bs_X10_lineUp_f_13 {P : Zt → Option Zv → Prop} (K : Int → Zl → List Zv → Zt → Prop) : sx_ K P [.ifCond .ne 19, .iconst (-2), .ireturn] 19 = x_ifCond .ne 19 K (x_iconst (-2) (x_ireturn P)) := ((xe_ifCond .ne 19).trans (congrArg (x_ifCond .ne 19 K) ((xe_iconst (-2)).trans (congrArg (x_iconst (-2)) (xe_ireturn)))))
theorem bk_X10_lineUp_f_19 : ck_ fX10 (some .int) cX10_lineUp 19 [.iload 3] 20 = true := qck_r (nn_ _) (by decide +kernel)
theorem bs_X10_lineUp_f_19 {P : Zt → Option Zv → Prop} (K : Int → Zl → List Zv → Zt → Prop) : sx_ K P [.iload 3] 20 = x_iload 3 (K 20) := ((xe_iload 3).trans (congrArg (x_iload 3) xe_nil))
theorem bk_X10_lineUp_f_23 : ck_ fX10 (some .int) cX10_lineUp 23 [.ifCond .ne 29, .iconst (-3), .ireturn] 29 = true := qck_r (nn_ _) (by decide +kernel)
theorem bs_X10_lineUp_f_23 {P : Zt → Option Zv → Prop} (K : Int → Zl → List Zv → Zt → Prop) : sx_ K P [.ifCond .ne 29, .iconst (-3), .ireturn] 29 = x_ifCond .ne 29 K (x_iconst (-3) (x_ireturn P)) := ((xe_ifCond .ne 29).trans (congrArg (x_ifCond .ne 29 K) ((xe_iconst (-3)).trans (congrArg (x_iconst (-3)) (xe_ireturn)))))
theorem bk_X10_lineUp_f_29 : ck_ fX10 (some .int) cX10_lineUp 29 [.aload 0, .tableswitch 0 10 2 #[], .tableswitch 0 6 3 #[], .iload 2, .aaload, .astore 4, .aload 4] 42 = true := qck_r (nn_ _) (by decide +kernel)
theorem bs_X10_lineUp_f_29 {P : Zt → Option Zv → Prop} (K : Int → Zl → List Zv → Zt → Prop) : sx_ K P [.aload 0, .tableswitch 0 10 2 #[], .tableswitch 0 6 3 #[], .iload 2, .aaload, .astore 4, .aload 4] 42 = x_aload 0 (x_g1 110 106 (x_g1 106 523 (x_iload 2 (x_aaload (x_astore 4 (x_aload 4 (K 42))))))) := ((xe_aload 0).trans (congrArg (x_aload 0) ((xe_g1 (kk := 110) rfl tl_10_2).trans (congrArg (x_g1 110 106) ((xe_g1 (kk := 106) rfl tl_6_3).trans (congrArg (x_g1 106 523) ((xe_iload 2).trans (congrArg (x_iload 2) ((xe_aaload).trans (congrArg (x_aaload) ((xe_astore 4).trans (congrArg (x_astore 4) ((xe_aload 4).trans (congrArg (x_aload 4) xe_nil))))))))))))))
theorem bk_X10_lineUp_f_45 : ck_ fX10 (some .int) cX10_lineUp 45 [.ifCond .eq 51, .iconst (-4), .ireturn] 51 = true := qck_r (nn_ _) (by decide +kernel)
theorem bs_X10_lineUp_f_45 {P : Zt → Option Zv → Prop} (K : Int → Zl → List Zv → Zt → Prop) : sx_ K P [.ifCond .eq 51, .iconst (-4), .ireturn] 51 = x_ifCond .eq 51 K (x_iconst (-4) (x_ireturn P)) := ((xe_ifCond .eq 51).trans (congrArg (x_ifCond .eq 51 K) ((xe_iconst (-4)).trans (congrArg (x_iconst (-4)) (xe_ireturn)))))
theorem bk_X10_lineUp_f_51 : ck_ fX10 (some .int) cX10_lineUp 51 [.aload 4, .tableswitch 0 2 9 #[], .iload 3, .iaload, .aload 4, .tableswitch 0 2 0 #[], .tableswitch 0 0 1 #[], .iconst 9, .iaload, .iconst 4, .iadd, .if_icmp .lt 77, .iconst (-5), .ireturn] 77 = true := qck_r (nn_ _) (by decide +kernel)
theorem bs_X10_lineUp_f_51 {P : Zt → Option Zv → Prop} (K : Int → Zl → List Zv → Zt → Prop) : sx_ K P [.aload 4, .tableswitch 0 2 9 #[], .iload 3, .iaload, .aload 4, .tableswitch 0 2 0 #[], .tableswitch 0 0 1 #[], .iconst 9, .iaload, .iconst 4, .iadd, .if_icmp .lt 77, .iconst (-5), .ireturn] 77 = x_aload 4 (x_g2 102 449 (x_iload 3 (x_iaload (x_aload 4 (x_g3 102 100 0 (x_g2 100 401 (x_iconst 9 (x_iaload (x_iconst 4 (x_iadd (x_if_icmp .lt 77 K (x_iconst (-5) (x_ireturn P))))))))))))) := ((xe_aload 4).trans (congrArg (x_aload 4) ((xe_g2 (kk := 102) rfl tl_2_9).trans (congrArg (x_g2 102 449) ((xe_iload 3).trans (congrArg (x_iload 3) ((xe_iaload).trans (congrArg (x_iaload) ((xe_aload 4).trans (congrArg (x_aload 4) ((xe_g3 (kk := 102) rfl tl_2_0).trans (congrArg (x_g3 102 100 0) ((xe_g2 (kk := 100) rfl tl_0_1).trans (congrArg (x_g2 100 401) ((xe_iconst 9).trans (congrArg (x_iconst 9) ((xe_iaload).trans (congrArg (x_iaload) ((xe_iconst 4).trans (congrArg (x_iconst 4) ((xe_iadd).trans (congrArg (x_iadd) ((xe_if_icmp .lt 77).trans (congrArg (x_if_icmp .lt 77 K) ((xe_iconst (-5)).trans (congrArg (x_iconst (-5)) (xe_ireturn)))))))))))))))))))))))))))
theorem bk_X10_lineUp_f_77 : ck_ fX10 (some .int) cX10_lineUp 77 [.aload 0, .tableswitch 0 10 2 #[], .iload 1, .aload 4, .iload 3] 85 = true := qck_r (nn_ _) (by decide +kernel)
theorem bs_X10_lineUp_f_77 {P : Zt → Option Zv → Prop} (K : Int → Zl → List Zv → Zt → Prop) : sx_ K P [.aload 0, .tableswitch 0 10 2 #[], .iload 1, .aload 4, .iload 3] 85 = x_aload 0 (x_g1 110 106 (x_iload 1 (x_aload 4 (x_iload 3 (K 85))))) := ((xe_aload 0).trans (congrArg (x_aload 0) ((xe_g1 (kk := 110) rfl tl_10_2).trans (congrArg (x_g1 110 106) ((xe_iload 1).trans (congrArg (x_iload 1) ((xe_aload 4).trans (congrArg (x_aload 4) ((xe_iload 3).trans (congrArg (x_iload 3) xe_nil))))))))))
theorem bk_X10_lineUp_f_88 : ck_ fX10 (some .int) cX10_lineUp 88 [.istore 5, .iload 5, .ifCond .eq 101, .iconst (-10), .iload 5, .isub, .ireturn] 101 = true := qck_r (nn_ _) (by decide +kernel)
theorem bs_X10_lineUp_f_88 {P : Zt → Option Zv → Prop} (K : Int → Zl → List Zv → Zt → Prop) : sx_ K P [.istore 5, .iload 5, .ifCond .eq 101, .iconst (-10), .iload 5, .isub, .ireturn] 101 = x_istore 5 (x_iload 5 (x_ifCond .eq 101 K (x_iconst (-10) (x_iload 5 (x_isub (x_ireturn P)))))) := ((xe_istore 5).trans (congrArg (x_istore 5) ((xe_iload 5).trans (congrArg (x_iload 5) ((xe_ifCond .eq 101).trans (congrArg (x_ifCond .eq 101 K) ((xe_iconst (-10)).trans (congrArg (x_iconst (-10)) ((xe_iload 5).trans (congrArg (x_iload 5) ((xe_isub).trans (congrArg (x_isub) (xe_ireturn)))))))))))))
theorem bk_X10_lineUp_f_101 : ck_ fX10 (some .int) cX10_lineUp 101 [.aload 4, .tableswitch 0 2 8 #[], .iload 3, .iconst 10, .imul, .aload 4, .tableswitch 0 2 9 #[], .iload 3, .iaload, .iadd, .iload 1, .iastore, .aload 4, .tableswitch 0 2 9 #[], .iload 3, .dup2, .iaload, .iconst 1, .iadd, .iastore, .aload 4, .tableswitch 0 2 9 #[], .iload 3, .iaload, .ireturn] 139 = true := qck_r (nn_ _) (by decide +kernel)
theorem bs_X10_lineUp_f_101 {P : Zt → Option Zv → Prop} (K : Int → Zl → List Zv → Zt → Prop) : sx_ K P [.aload 4, .tableswitch 0 2 8 #[], .iload 3, .iconst 10, .imul, .aload 4, .tableswitch 0 2 9 #[], .iload 3, .iaload, .iadd, .iload 1, .iastore, .aload 4, .tableswitch 0 2 9 #[], .iload 3, .dup2, .iaload, .iconst 1, .iadd, .iastore, .aload 4, .tableswitch 0 2 9 #[], .iload 3, .iaload, .ireturn] 139 = x_aload 4 (x_g2 102 448 (x_iload 3 (x_iconst 10 (x_imul (x_aload 4 (x_g2 102 449 (x_iload 3 (x_iaload (x_iadd (x_iload 1 (x_iastore (x_aload 4 (x_g2 102 449 (x_iload 3 (x_dup2 (x_iaload (x_iconst 1 (x_iadd (x_iastore (x_aload 4 (x_g2 102 449 (x_iload 3 (x_iaload (x_ireturn P)))))))))))))))))))))))) := ((xe_aload 4).trans (congrArg (x_aload 4) ((xe_g2 (kk := 102) rfl tl_2_8).trans (congrArg (x_g2 102 448) ((xe_iload 3).trans (congrArg (x_iload 3) ((xe_iconst 10).trans (congrArg (x_iconst 10) ((xe_imul).trans (congrArg (x_imul) ((xe_aload 4).trans (congrArg (x_aload 4) ((xe_g2 (kk := 102) rfl tl_2_9).trans (congrArg (x_g2 102 449) ((xe_iload 3).trans (congrArg (x_iload 3) ((xe_iaload).trans (congrArg (x_iaload) ((xe_iadd).trans (congrArg (x_iadd) ((xe_iload 1).trans (congrArg (x_iload 1) ((xe_iastore).trans (congrArg (x_iastore) ((xe_aload 4).trans (congrArg (x_aload 4) ((xe_g2 (kk := 102) rfl tl_2_9).trans (congrArg (x_g2 102 449) ((xe_iload 3).trans (congrArg (x_iload 3) ((xe_dup2).trans (congrArg (x_dup2) ((xe_iaload).trans (congrArg (x_iaload) ((xe_iconst 1).trans (congrArg (x_iconst 1) ((xe_iadd).trans (congrArg (x_iadd) ((xe_iastore).trans (congrArg (x_iastore) ((xe_aload 4).trans (congrArg (x_aload 4) ((xe_g2 (kk := 102) rfl tl_2_9).trans (congrArg (x_g2 102 449) ((xe_iload 3).trans (congrArg (x_iload 3) ((xe_iaload).trans (congrArg (x_iaload) (xe_ireturn)))))))))))))))))))))))))))))))))))))))))))))))))
abbrev po_X10_lineUp_f (T : Zt) (q b s : Int) : Zt → Option Zv → Prop := fun T' r => ∃ x : Int, r = some (vI x) ∧ fr_ [(448, []), (449, []), (533, [])] T T' ∧ ((x = -2 ∧ ¬ ((0 ≤ q ∧ q < T 108 0 3) ∧ 0 ≤ b ∧ b < T 106 0 4) ∧ SHN_ T T') ∨ (((0 ≤ q ∧ q < T 108 0 3) ∧ 0 ≤ b ∧ b < T 106 0 4) ∧ ((x = -3 ∧ ¬ (0 ≤ s ∧ s ≤ 1) ∧ SHN_ T T') ∨ ((0 ≤ s ∧ s ≤ 1) ∧ ((x = -4 ∧ ¬ (T 102 b 6 = -1 ∧ T 102 b 10 = 0) ∧ SHN_ T T') ∨ ((T 102 b 6 = -1 ∧ T 102 b 10 = 0) ∧ ((x = -5 ∧ T 401 (T 102 b 0) 9 + 4 ≤ T 449 b s ∧ SHN_ T T') ∨ (T 449 b s < T 401 (T 102 b 0) 9 + 4 ∧ ((wyH_ T q b s ≠ 0 ∧ x = -10 - wyH_ T q b s ∧ SHN_ T T') ∨ (wyH_ T q b s = 0 ∧ x = T 449 b s + 1 ∧ SHH_ T T' b s q))))))))))
set_option maxHeartbeats 4000000 in
theorem ct_X10_lineUp_f {T : Zt} {q b s : Int} (hka : KA_ T) (hkm : KM_ T) (hkc : KC_ T) (hkr : KR_ T) (hsp : SPR_ T) : Ct_ yX10_lineUp zX10_lineUp T [vR 110 0, vI q, vI b, vI s] (po_X10_lineUp_f T q b s) := by
  refine ct_of pn_10 rfl rfl (Nat.le_of_ble_eq_true rfl) (fun hT hav => ?_)
  have hr_q : -2147483648 ≤ q ∧ q ≤ 2147483647 := hav (vI q) (List.mem_cons_of_mem _ List.mem_cons_self)
  have hr_b : -2147483648 ≤ b ∧ b ≤ 2147483647 := hav (vI b) (List.mem_cons_of_mem _ (List.mem_cons_of_mem _ List.mem_cons_self))
  have hr_s : -2147483648 ≤ s ∧ s ≤ 2147483647 := hav (vI s) (List.mem_cons_of_mem _ (List.mem_cons_of_mem _ (List.mem_cons_of_mem _ List.mem_cons_self)))
  have hz : zX10_lineUp.2.2.2.1 = some .boolean → ∀ (T' : Zt) (x : Int), po_X10_lineUp_f T q b s T' (some (vI x)) → 0 ≤ x ∧ x ≤ 1 := fun h => by cases h
  have hb_matchCount : 0 ≤ T 106 0 4 ∧ T 106 0 4 ≤ 400 := bd_f hT 106 4 tl_6_4 0
  have hb_persons : 0 ≤ T 108 0 3 ∧ T 108 0 3 ≤ 200 := bd_f hT 108 3 tl_8_3 0
  have wb9 := wyH_b (T := T) (q := q) (p := b) (d := s)
  show J_ zX10_lineUp T (po_X10_lineUp_f T q b s) 0 0 0 [some (vR 110 0), some (vI q), some (vI b), some (vI s), none, none] [] T
  refine j_blx (F := fX10) tb_X10 (nn_ _) bk_X10_lineUp_f_0 bs_X10_lineUp_f_0 hz (fun K hK => ?_)
  refine hK 2 _ [vI q, vR 110 0] T ?_
  refine j_callV (y := yX10_isPerson) (Yc := zX10_isPerson) (rest := []) [vI q] (ct_X10_isPerson (T := T)) cl_X10_134 (qd_c (by decide +kernel)) (nn_ _) rfl (rf_of rfl) (Nat.le_of_ble_eq_true rfl) (Nat.le_of_ble_eq_true rfl) (Nat.le_of_ble_eq_true rfl) rfl ?_
  rintro _ _ ⟨rfl, x1, rfl, hx1⟩
  show J_ zX10_lineUp T (po_X10_lineUp_f T q b s) 0 0 5 _ [vI x1] T
  refine j_blx (F := fX10) tb_X10 (nn_ _) bk_X10_lineUp_f_5 bs_X10_lineUp_f_5 hz (fun K hK => ?_)
  refine And.intro (fun c2 => ?_) (fun c2 => ?_)
  · replace hx1 := hx1.resolve_left (fun z => absurd (c2.symm.trans z.1) (by decide))
    clear c2
    refine hK 16 _ [] T ?_
    refine j_blx (F := fX10) tb_X10 (nn_ _) bk_X10_lineUp_f_16 bs_X10_lineUp_f_16 hz (fun K hK => ?_)
    refine (show po_X10_lineUp_f T q b s T (some (vI (-2))) from ?_)
    exact ⟨_, rfl, fr_0 _ _, Or.inl ⟨rfl, by omega, ⟨fun _ _ => rfl, fun _ _ => rfl⟩⟩⟩
  · replace hx1 := hx1.resolve_right (fun z => c2 z.1)
    clear c2
    refine hK 10 _ [vI b, vR 110 0] T ?_
    refine j_callV (y := yX10_isMatch) (Yc := zX10_isMatch) (rest := []) [vI b] (ct_X10_isMatch (T := T)) cl_X10_195 (qd_c (by decide +kernel)) (nn_ _) rfl (rf_of rfl) (Nat.le_of_ble_eq_true rfl) (Nat.le_of_ble_eq_true rfl) (Nat.le_of_ble_eq_true rfl) rfl ?_
    rintro _ _ ⟨rfl, x3, rfl, hx3⟩
    show J_ zX10_lineUp T (po_X10_lineUp_f T q b s) 0 0 13 _ [vI x3] T
    refine j_blx (F := fX10) tb_X10 (nn_ _) bk_X10_lineUp_f_13 bs_X10_lineUp_f_13 hz (fun K hK => ?_)
    refine And.intro (fun c4 => ?_) (fun c4 => ?_)
    · replace hx3 := hx3.resolve_right (fun z => c4 z.1)
      clear c4
      refine hK 19 _ [] T ?_
      refine j_blx (F := fX10) tb_X10 (nn_ _) bk_X10_lineUp_f_19 bs_X10_lineUp_f_19 hz (fun K hK => ?_)
      refine hK 20 _ [vI s] T ?_
      refine j_callS (y := yX10_isSide) (Yc := zX10_isSide) (rest := []) [vI s] (ct_X10_isSide (T := T)) cl_X10_251 (qd_c (by decide +kernel)) (nn_ _) rfl (rf_of rfl) (Nat.le_of_ble_eq_true rfl) (Nat.le_of_ble_eq_true rfl) (Nat.le_of_ble_eq_true rfl) rfl ?_
      rintro _ _ ⟨rfl, x5, rfl, hx5⟩
      show J_ zX10_lineUp T (po_X10_lineUp_f T q b s) 0 0 23 _ [vI x5] T
      refine j_blx (F := fX10) tb_X10 (nn_ _) bk_X10_lineUp_f_23 bs_X10_lineUp_f_23 hz (fun K hK => ?_)
      refine And.intro (fun c6 => ?_) (fun c6 => ?_)
      · replace hx5 := hx5.resolve_right (fun z => c6 z.1)
        clear c6
        refine hK 29 _ [] T ?_
        refine j_blx (F := fX10) tb_X10 (nn_ _) bk_X10_lineUp_f_29 bs_X10_lineUp_f_29 hz (fun K hK => ?_)
        refine ix_i (by omega) ?_
        refine And.intro (fun c7 => ?_) (fun c7 => ?_)
        · exact absurd (show T 523 0 b = 0 from Int.le_antisymm (by omega) (by omega)) (hka.2 _ (by omega) (by omega))
        · refine hK 42 [some (vR 110 0), some (vI q), some (vI b), some (vI s), some (vR 102 b), none] [vR 102 b] T ?_
          refine j_callV (y := yX2_phaseOfLife) (Yc := zX2_phaseOfLife) (rest := []) [] (ct_X2_phaseOfLife_e (T := T)) cl_X10_223 (qd_c (by decide +kernel)) (nn_ _) rfl (rf_of rfl) (Nat.le_of_ble_eq_true rfl) (Nat.le_of_ble_eq_true rfl) (Nat.le_of_ble_eq_true rfl) rfl ?_
          rintro _ _ ⟨rfl, x8, rfl, hx8⟩
          show J_ zX10_lineUp T (po_X10_lineUp_f T q b s) 0 0 45 _ [vI x8] T
          refine j_blx (F := fX10) tb_X10 (nn_ _) bk_X10_lineUp_f_45 bs_X10_lineUp_f_45 hz (fun K hK => ?_)
          refine And.intro (fun c9 => ?_) (fun c9 => ?_)
          · refine hK 51 _ [] T ?_
            refine j_blx (F := fX10) tb_X10 (nn_ _) bk_X10_lineUp_f_51 bs_X10_lineUp_f_51 hz (fun K hK => ?_)
            have hy9 := hkm b (by omega) (by omega)
            have hr9 := hkr (T 102 b 0) (by omega) (by omega)
            have hl9 : 0 ≤ T 449 b s ∧ T 449 b s ≤ 10 := bd_a hT 449 (by decide +kernel : ta_ 449 = some (1, some 2, 0, 10)) b (by omega)
            refine ix_i (by omega) ?_
            intro b10 b10b
            refine ix_i (by omega) ?_
            intro b12 b12b
            refine rg_i (by omega) ?_
            refine And.intro (fun c13 => ?_) (fun c13 => ?_)
            · refine hK 77 _ [] T ?_
              refine j_blx (F := fX10) tb_X10 (nn_ _) bk_X10_lineUp_f_77 bs_X10_lineUp_f_77 hz (fun K hK => ?_)
              refine hK 85 _ [vI s, vR 102 b, vI q, vR 106 0] T ?_
              refine j_callV (y := yX6_whyNot) (Yc := zX6_whyNot) (rest := []) [vI q, vR 102 b, vI s] (ct_X6_whyNot_f (T := T) (hka) (hkm) (hkc) (by omega) (by omega) (by omega) hsp) cl_X10_254 (qd_c (by decide +kernel)) (nn_ _) rfl (rf_of rfl) (Nat.le_of_ble_eq_true rfl) (Nat.le_of_ble_eq_true rfl) (Nat.le_of_ble_eq_true rfl) rfl ?_
              rintro U14 _ ⟨x15, rfl, fU14, qU14⟩
              show J_ zX10_lineUp T (po_X10_lineUp_f T q b s) 0 0 88 _ [vI x15] U14
              refine j_blx (F := fX10) tb_X10 (nn_ _) bk_X10_lineUp_f_88 bs_X10_lineUp_f_88 hz (fun K hK => ?_)
              refine And.intro (fun c16 => ?_) (fun c16 => ?_)
              · refine hK 101 [some (vR 110 0), some (vI q), some (vI b), some (vI s), some (vR 102 b), some (vI x15)] [] U14 ?_
                refine j_blx (F := fX10) tb_X10 (nn_ _) bk_X10_lineUp_f_101 bs_X10_lineUp_f_101 hz (fun K hK => ?_)
                refine rg_i (by omega) ?_
                refine ix_i (by omega) ?_
                intro b17 b17b
                have e18 : U14 449 b s = T 449 b s := fU14 449 b s rfl
                rw [e18] at b17 b17b ⊢
                refine rg_i (by omega) ?_
                refine iy_i (by omega) (by omega) ?_
                refine x_nm (fun U19 hU19 => ?_)
                have e20 := up_f hU19
                refine ix_i (by omega) ?_
                intro b21 b21b
                have e22 : U19 449 b s = T 449 b s := (up_k hU19 (by exact Nat.ne_of_beq_eq_false rfl) b s).trans (fU14 449 b s rfl)
                rw [e22] at b21 b21b ⊢
                refine rg_i (by omega) ?_
                refine iy_i (by omega) (by omega) ?_
                refine x_nm (fun U23 hU23 => ?_)
                have e24 := up_f hU23
                refine ix_i (by omega) ?_
                intro b25 b25b
                have e26 : U23 449 b s = (T 449 b s) + 1 := up_f hU23
                rw [e26] at b25 b25b ⊢
                refine (show po_X10_lineUp_f T q b s U23 (some (vI ((T 449 b s) + 1))) from ?_)
                have y0 : ∀ i j, U14 448 i j = T 448 i j := fun i j => fU14 448 i j rfl
                have y1 : ∀ i j, U14 449 i j = T 449 i j := fun i j => fU14 449 i j rfl
                have sh9 : SHH_ T U23 b s q := ⟨(up_k hU23 (by exact Nat.ne_of_beq_eq_false rfl) _ _).trans ((up_x hU19 (by omega))), by omega, fun i j hn => (up_k hU23 (by exact Nat.ne_of_beq_eq_false rfl) _ _).trans ((up_g hU19 (fun z => hn ⟨z.2.1, by omega⟩)).trans (y0 i j)), fun i j hn => (up_g hU23 (fun z => hn ⟨z.2.1, z.2.2⟩)).trans ((up_k hU19 (by exact Nat.ne_of_beq_eq_false rfl) _ _).trans (y1 i j))⟩
                exact ⟨_, rfl, fr_u (fr_u (fr_t (fr_0 _ _) (fr_s fU14 rfl)) hU19 rfl) hU23 rfl, Or.inr ⟨by omega, Or.inr ⟨by omega, Or.inr ⟨by omega, Or.inr ⟨by omega, Or.inr ⟨by omega, by omega, sh9⟩⟩⟩⟩⟩⟩
              · refine rg_i (by omega) ?_
                refine (show po_X10_lineUp_f T q b s U14 (some (vI ((-10) - x15))) from ?_)
                have wb := wyH_b (T := T) (q := q) (p := b) (d := s)
                exact ⟨_, rfl, fr_t (fr_0 _ _) (fr_s fU14 rfl), Or.inr ⟨by omega, Or.inr ⟨by omega, Or.inr ⟨by omega, Or.inr ⟨by omega, Or.inl ⟨by omega, by omega, ⟨fun i j => fU14 448 i j rfl, fun i j => fU14 449 i j rfl⟩⟩⟩⟩⟩⟩⟩
            · refine (show po_X10_lineUp_f T q b s T (some (vI (-5))) from ?_)
              exact ⟨_, rfl, fr_0 _ _, Or.inr ⟨by omega, Or.inr ⟨by omega, Or.inr ⟨by omega, Or.inl ⟨rfl, by omega, ⟨fun _ _ => rfl, fun _ _ => rfl⟩⟩⟩⟩⟩⟩
          · refine (show po_X10_lineUp_f T q b s T (some (vI (-4))) from ?_)
            exact ⟨_, rfl, fr_0 _ _, Or.inr ⟨by omega, Or.inr ⟨by omega, Or.inl ⟨rfl, by omega, ⟨fun _ _ => rfl, fun _ _ => rfl⟩⟩⟩⟩⟩
      · replace hx5 := hx5.resolve_left (fun z => absurd (c6.symm.trans z.1) (by decide))
        clear c6
        refine (show po_X10_lineUp_f T q b s T (some (vI (-3))) from ?_)
        exact ⟨_, rfl, fr_0 _ _, Or.inr ⟨by omega, Or.inl ⟨rfl, by omega, ⟨fun _ _ => rfl, fun _ _ => rfl⟩⟩⟩⟩
    · replace hx3 := hx3.resolve_left (fun z => absurd (c4.symm.trans z.1) (by decide))
      clear c4
      refine (show po_X10_lineUp_f T q b s T (some (vI (-2))) from ?_)
      exact ⟨_, rfl, fr_0 _ _, Or.inl ⟨rfl, by omega, ⟨fun _ _ => rfl, fun _ _ => rfl⟩⟩⟩
theorem bk_X11_nextMatch_f_90 : ck_ fX11 (some .int) cX11_nextMatch 90 [.istore 4, .iinc 5 1, .goto 11] 98 = true := qck_r (nn_ _) (by decide +kernel)
theorem bs_X11_nextMatch_f_90 {P : Zt → Option Zv → Prop} (K : Int → Zl → List Zv → Zt → Prop) : sx_ K P [.istore 4, .iinc 5 1, .goto 11] 98 = x_istore 4 (x_iinc 5 1 (x_goto 11 K)) := ((xe_istore 4).trans (congrArg (x_istore 4) ((xe_iinc 5 1).trans (congrArg (x_iinc 5 1) (xe_goto 11)))))
theorem bk_X11_nextMatch_f_59 : ck_ fX11 (some .int) cX11_nextMatch 59 [.istore 6, .iload 6, .ifCond .eq 88, .iload 4, .iconst (-1), .if_icmp .eq 83, .aload 0, .iload 5, .iload 4] 77 = true := qck_r (nn_ _) (by decide +kernel)
theorem bs_X11_nextMatch_f_59 {P : Zt → Option Zv → Prop} (K : Int → Zl → List Zv → Zt → Prop) : sx_ K P [.istore 6, .iload 6, .ifCond .eq 88, .iload 4, .iconst (-1), .if_icmp .eq 83, .aload 0, .iload 5, .iload 4] 77 = x_istore 6 (x_iload 6 (x_ifCond .eq 88 K (x_iload 4 (x_iconst (-1) (x_if_icmp .eq 83 K (x_aload 0 (x_iload 5 (x_iload 4 (K 77))))))))) := ((xe_istore 6).trans (congrArg (x_istore 6) ((xe_iload 6).trans (congrArg (x_iload 6) ((xe_ifCond .eq 88).trans (congrArg (x_ifCond .eq 88 K) ((xe_iload 4).trans (congrArg (x_iload 4) ((xe_iconst (-1)).trans (congrArg (x_iconst (-1)) ((xe_if_icmp .eq 83).trans (congrArg (x_if_icmp .eq 83 K) ((xe_aload 0).trans (congrArg (x_aload 0) ((xe_iload 5).trans (congrArg (x_iload 5) ((xe_iload 4).trans (congrArg (x_iload 4) xe_nil))))))))))))))))))
theorem bk_X11_nextMatch_f_88 : ck_ fX11 (some .int) cX11_nextMatch 88 [.iload 4] 90 = true := qck_r (nn_ _) (by decide +kernel)
theorem bs_X11_nextMatch_f_88 {P : Zt → Option Zv → Prop} (K : Int → Zl → List Zv → Zt → Prop) : sx_ K P [.iload 4] 90 = x_iload 4 (K 90) := ((xe_iload 4).trans (congrArg (x_iload 4) xe_nil))
theorem bk_X11_nextMatch_f_83 : ck_ fX11 (some .int) cX11_nextMatch 83 [.iload 5, .goto 90] 88 = true := qck_r (nn_ _) (by decide +kernel)
theorem bs_X11_nextMatch_f_83 {P : Zt → Option Zv → Prop} (K : Int → Zl → List Zv → Zt → Prop) : sx_ K P [.iload 5, .goto 90] 88 = x_iload 5 (x_goto 90 K) := ((xe_iload 5).trans (congrArg (x_iload 5) (xe_goto 90)))
theorem bk_X11_nextMatch_f_80 : ck_ fX11 (some .int) cX11_nextMatch 80 [.ifCond .eq 88, .iload 5, .goto 90] 88 = true := qck_r (nn_ _) (by decide +kernel)
theorem bs_X11_nextMatch_f_80 {P : Zt → Option Zv → Prop} (K : Int → Zl → List Zv → Zt → Prop) : sx_ K P [.ifCond .eq 88, .iload 5, .goto 90] 88 = x_ifCond .eq 88 K (x_iload 5 (x_goto 90 K)) := ((xe_ifCond .eq 88).trans (congrArg (x_ifCond .eq 88 K) ((xe_iload 5).trans (congrArg (x_iload 5) (xe_goto 90)))))
theorem bk_X11_nextMatch_f_11 : ck_ fX11 (some .int) cX11_nextMatch 11 [.iload 5, .aload 0, .tableswitch 0 11 10 #[], .iload 1, .iaload, .aload 0, .tableswitch 0 11 11 #[], .iload 1, .iaload, .iadd, .if_icmp .ge 98, .iload 2, .iconst (-1), .if_icmp .eq 44, .aload 0, .iload 2, .iload 5] 38 = true := qck_r (nn_ _) (by decide +kernel)
theorem bs_X11_nextMatch_f_11 {P : Zt → Option Zv → Prop} (K : Int → Zl → List Zv → Zt → Prop) : sx_ K P [.iload 5, .aload 0, .tableswitch 0 11 10 #[], .iload 1, .iaload, .aload 0, .tableswitch 0 11 11 #[], .iload 1, .iaload, .iadd, .if_icmp .ge 98, .iload 2, .iconst (-1), .if_icmp .eq 44, .aload 0, .iload 2, .iload 5] 38 = x_iload 5 (x_aload 0 (x_g1 111 210 (x_iload 1 (x_iaload (x_aload 0 (x_g1 111 211 (x_iload 1 (x_iaload (x_iadd (x_if_icmp .ge 98 K (x_iload 2 (x_iconst (-1) (x_if_icmp .eq 44 K (x_aload 0 (x_iload 2 (x_iload 5 (K 38))))))))))))))))) := ((xe_iload 5).trans (congrArg (x_iload 5) ((xe_aload 0).trans (congrArg (x_aload 0) ((xe_g1 (kk := 111) rfl tl_11_10).trans (congrArg (x_g1 111 210) ((xe_iload 1).trans (congrArg (x_iload 1) ((xe_iaload).trans (congrArg (x_iaload) ((xe_aload 0).trans (congrArg (x_aload 0) ((xe_g1 (kk := 111) rfl tl_11_11).trans (congrArg (x_g1 111 211) ((xe_iload 1).trans (congrArg (x_iload 1) ((xe_iaload).trans (congrArg (x_iaload) ((xe_iadd).trans (congrArg (x_iadd) ((xe_if_icmp .ge 98).trans (congrArg (x_if_icmp .ge 98 K) ((xe_iload 2).trans (congrArg (x_iload 2) ((xe_iconst (-1)).trans (congrArg (x_iconst (-1)) ((xe_if_icmp .eq 44).trans (congrArg (x_if_icmp .eq 44 K) ((xe_aload 0).trans (congrArg (x_aload 0) ((xe_iload 2).trans (congrArg (x_iload 2) ((xe_iload 5).trans (congrArg (x_iload 5) xe_nil))))))))))))))))))))))))))))))))))
theorem bk_X11_nextMatch_f_98 : ck_ fX11 (some .int) cX11_nextMatch 98 [.iload 4, .ireturn] 101 = true := qck_r (nn_ _) (by decide +kernel)
theorem bs_X11_nextMatch_f_98 {P : Zt → Option Zv → Prop} (K : Int → Zl → List Zv → Zt → Prop) : sx_ K P [.iload 4, .ireturn] 101 = x_iload 4 (x_ireturn P) := ((xe_iload 4).trans (congrArg (x_iload 4) (xe_ireturn)))
theorem bk_X11_nextMatch_f_44 : ck_ fX11 (some .int) cX11_nextMatch 44 [.aload 0, .iload 5, .iload 3] 48 = true := qck_r (nn_ _) (by decide +kernel)
theorem bs_X11_nextMatch_f_44 {P : Zt → Option Zv → Prop} (K : Int → Zl → List Zv → Zt → Prop) : sx_ K P [.aload 0, .iload 5, .iload 3] 48 = x_aload 0 (x_iload 5 (x_iload 3 (K 48))) := ((xe_aload 0).trans (congrArg (x_aload 0) ((xe_iload 5).trans (congrArg (x_iload 5) ((xe_iload 3).trans (congrArg (x_iload 3) xe_nil))))))
theorem bk_X11_nextMatch_f_51 : ck_ fX11 (some .int) cX11_nextMatch 51 [.ifCond .eq 58, .iconst 1, .goto 59] 58 = true := qck_r (nn_ _) (by decide +kernel)
theorem bs_X11_nextMatch_f_51 {P : Zt → Option Zv → Prop} (K : Int → Zl → List Zv → Zt → Prop) : sx_ K P [.ifCond .eq 58, .iconst 1, .goto 59] 58 = x_ifCond .eq 58 K (x_iconst 1 (x_goto 59 K)) := ((xe_ifCond .eq 58).trans (congrArg (x_ifCond .eq 58 K) ((xe_iconst 1).trans (congrArg (x_iconst 1) (xe_goto 59)))))
theorem bk_X11_nextMatch_f_58 : ck_ fX11 (some .int) cX11_nextMatch 58 [.iconst 0] 59 = true := qck_r (nn_ _) (by decide +kernel)
theorem bs_X11_nextMatch_f_58 {P : Zt → Option Zv → Prop} (K : Int → Zl → List Zv → Zt → Prop) : sx_ K P [.iconst 0] 59 = x_iconst 0 (K 59) := ((xe_iconst 0).trans (congrArg (x_iconst 0) xe_nil))
theorem bk_X11_nextMatch_f_41 : ck_ fX11 (some .int) cX11_nextMatch 41 [.ifCond .eq 58, .aload 0, .iload 5, .iload 3] 48 = true := qck_r (nn_ _) (by decide +kernel)
theorem bs_X11_nextMatch_f_41 {P : Zt → Option Zv → Prop} (K : Int → Zl → List Zv → Zt → Prop) : sx_ K P [.ifCond .eq 58, .aload 0, .iload 5, .iload 3] 48 = x_ifCond .eq 58 K (x_aload 0 (x_iload 5 (x_iload 3 (K 48)))) := ((xe_ifCond .eq 58).trans (congrArg (x_ifCond .eq 58 K) ((xe_aload 0).trans (congrArg (x_aload 0) ((xe_iload 5).trans (congrArg (x_iload 5) ((xe_iload 3).trans (congrArg (x_iload 3) xe_nil))))))))
theorem bk_X11_nextMatch_f_0 : ck_ fX11 (some .int) cX11_nextMatch 0 [.iconst (-1), .istore 4, .aload 0, .tableswitch 0 11 10 #[], .iload 1, .iaload, .istore 5] 11 = true := qck_r (nn_ _) (by decide +kernel)
theorem bs_X11_nextMatch_f_0 {P : Zt → Option Zv → Prop} (K : Int → Zl → List Zv → Zt → Prop) : sx_ K P [.iconst (-1), .istore 4, .aload 0, .tableswitch 0 11 10 #[], .iload 1, .iaload, .istore 5] 11 = x_iconst (-1) (x_istore 4 (x_aload 0 (x_g1 111 210 (x_iload 1 (x_iaload (x_istore 5 (K 11))))))) := ((xe_iconst (-1)).trans (congrArg (x_iconst (-1)) ((xe_istore 4).trans (congrArg (x_istore 4) ((xe_aload 0).trans (congrArg (x_aload 0) ((xe_g1 (kk := 111) rfl tl_11_10).trans (congrArg (x_g1 111 210) ((xe_iload 1).trans (congrArg (x_iload 1) ((xe_iaload).trans (congrArg (x_iaload) ((xe_istore 5).trans (congrArg (x_istore 5) xe_nil))))))))))))))
abbrev po_X11_nextMatch_f (T : Zt) (c be ah : Int) : Zt → Option Zv → Prop := fun T' r => T = T' ∧ ∃ x : Int, r = some (vI x) ∧ ((x = -1 ∨ (0 ≤ x ∧ x < 400)) ∧ NXM_ (fun m => T 234 0 m) (T 210 0 c) (T 211 0 c) (cz_ (be = -1) (-1) (T 234 0 be * 400 + be)) (T 234 0 ah * 400 + ah) x)
set_option maxHeartbeats 4000000 in
theorem ct_X11_nextMatch_f {T : Zt} {c be ah : Int} (h1 : 0 ≤ c ∧ c < 4) (h2 : T 210 0 c + T 211 0 c ≤ 400) (h3 : -1 ≤ be ∧ be < 400) (h4 : 0 ≤ ah ∧ ah < 400) : Ct_ yX11_nextMatch zX11_nextMatch T [vR 111 0, vI c, vI be, vI ah] (po_X11_nextMatch_f T c be ah) := by
  refine ct_of pn_11 rfl rfl (Nat.le_of_ble_eq_true rfl) (fun hT hav => ?_)
  have hr_c : -2147483648 ≤ c ∧ c ≤ 2147483647 := hav (vI c) (List.mem_cons_of_mem _ List.mem_cons_self)
  have hr_be : -2147483648 ≤ be ∧ be ≤ 2147483647 := hav (vI be) (List.mem_cons_of_mem _ (List.mem_cons_of_mem _ List.mem_cons_self))
  have hr_ah : -2147483648 ≤ ah ∧ ah ≤ 2147483647 := hav (vI ah) (List.mem_cons_of_mem _ (List.mem_cons_of_mem _ (List.mem_cons_of_mem _ List.mem_cons_self)))
  have hz : zX11_nextMatch.2.2.2.1 = some .boolean → ∀ (T' : Zt) (x : Int), po_X11_nextMatch_f T c be ah T' (some (vI x)) → 0 ≤ x ∧ x ≤ 1 := fun h => by cases h
  have hfo : 0 ≤ T 210 0 c ∧ T 210 0 c ≤ 400 := bd_a hT 210 (by decide +kernel : ta_ 210 = some (1, some 4, 0, 400)) 0 (by omega)
  have hmo : 0 ≤ T 211 0 c ∧ T 211 0 c ≤ 400 := bd_a hT 211 (by decide +kernel : ta_ 211 = some (1, some 4, 0, 400)) 0 (by omega)
  have hlo : (be = -1 ∧ (cz_ (be = -1) (-1) (T 234 0 be * 400 + be)) = -1) ∨ (be ≠ -1 ∧ 0 ≤ be ∧ (cz_ (be = -1) (-1) (T 234 0 be * 400 + be)) = T 234 0 be * 400 + be) := by
    by_cases z : be = -1
    · exact Or.inl ⟨z, cz_t z⟩
    · exact Or.inr ⟨z, by omega, cz_f z⟩
  have hda : 0 ≤ T 234 0 ah ∧ T 234 0 ah ≤ 999 := bd_a hT 234 (by decide +kernel : ta_ 234 = some (1, some 400, 0, 999)) 0 (by omega)
  have hde : be = -1 ∨ (0 ≤ T 234 0 be ∧ T 234 0 be ≤ 999) := by
    by_cases z : be = -1
    · exact Or.inl z
    · exact Or.inr (bd_a hT 234 (by decide +kernel : ta_ 234 = some (1, some 400, 0, 999)) 0 (by omega))
  show J_ zX11_nextMatch T (po_X11_nextMatch_f T c be ah) 0 0 0 [some (vR 111 0), some (vI c), some (vI be), some (vI ah), none, none, none] [] T
  have c_11 : ∀ (nn : Nat) (bs : Int) (m : Int), ((400 - m).toNat) ≤ nn → (T 210 0 c ≤ m ∧ 0 ≤ m ∧ -1 ≤ bs ∧ bs < 400 ∧ m ≤ T 210 0 c + T 211 0 c) → (NXM_ (fun m => T 234 0 m) (T 210 0 c) (m - T 210 0 c) (cz_ (be = -1) (-1) (T 234 0 be * 400 + be)) (T 234 0 ah * 400 + ah) bs) → J_ zX11_nextMatch T (po_X11_nextMatch_f T c be ah) 0 0 11 [some (vR 111 0), some (vI c), some (vI be), some (vI ah), some (vI bs), some (vI m), none] [] T := by
    intro nn
    induction nn using Nat.strongRecOn with
    | _ nn ih_11 =>
      intro bs m hm_11 i1 i3
      replace hm_11 := fun (_ : Unit) => hm_11
      have c_90 : ∀ (w : Int), (m < T 210 0 c + T 211 0 c ∧ -1 ≤ w ∧ w < 400) → (NXM_ (fun m => T 234 0 m) (T 210 0 c) (m + 1 - T 210 0 c) (cz_ (be = -1) (-1) (T 234 0 be * 400 + be)) (T 234 0 ah * 400 + ah) w) → J_ zX11_nextMatch T (po_X11_nextMatch_f T c be ah) 0 0 90 [some (vR 111 0), some (vI c), some (vI be), some (vI ah), some (vI bs), some (vI m), none] [vI w] T := by
        intro w w0 w3
        refine j_blx (F := fX11) tb_X11 (nn_ _) bk_X11_nextMatch_f_90 bs_X11_nextMatch_f_90 hz (fun K hK => ?_)
        refine rg_i (by omega) ?_
        refine hK 11 [some (vR 111 0), some (vI c), some (vI be), some (vI ah), some (vI w), some (vI (m + 1)), none] [] T ?_
        refine ih_11 _ ?_ w (m + 1) (Nat.le_refl _) ?_ ?_
        · have hm_11 := hm_11 (); omega
        · omega
        · exact w3
      have c_59 : ∀ (v : Int), (m < T 210 0 c + T 211 0 c) → ((v = 1 ∧ ((cz_ (be = -1) (-1) (T 234 0 be * 400 + be)) < T 234 0 m * 400 + m ∧ T 234 0 m * 400 + m < T 234 0 ah * 400 + ah)) ∨ (v = 0 ∧ ¬ ((cz_ (be = -1) (-1) (T 234 0 be * 400 + be)) < T 234 0 m * 400 + m ∧ T 234 0 m * 400 + m < T 234 0 ah * 400 + ah))) → J_ zX11_nextMatch T (po_X11_nextMatch_f T c be ah) 0 0 59 [some (vR 111 0), some (vI c), some (vI be), some (vI ah), some (vI bs), some (vI m), none] [vI v] T := by
        intro v v0 v1
        refine j_blx (F := fX11) tb_X11 (nn_ _) bk_X11_nextMatch_f_59 bs_X11_nextMatch_f_59 hz (fun K hK => ?_)
        refine And.intro (fun c1 => ?_) (fun c1 => ?_)
        · refine hK 88 [some (vR 111 0), some (vI c), some (vI be), some (vI ah), some (vI bs), some (vI m), some (vI v)] [] T ?_
          refine j_blx (F := fX11) tb_X11 (nn_ _) bk_X11_nextMatch_f_88 bs_X11_nextMatch_f_88 hz (fun K hK => ?_)
          refine hK 90 _ [vI bs] T ?_
          refine j_drq [some (vR 111 0), some (vI c), some (vI be), some (vI ah), some (vI bs), some (vI m), none] (drq_s (drq_s (drq_s (drq_s (drq_s (drq_s (drq_n drq_0))))))) ?_
          refine c_90 bs ?_ ?_
          · omega
          · have z9 : NXM_ (fun m => T 234 0 m) (T 210 0 c) (m - T 210 0 c + 1) (cz_ (be = -1) (-1) (T 234 0 be * 400 + be)) (T 234 0 ah * 400 + ah) bs := nxm_k i3 (by rw [show T 210 0 c + (m - T 210 0 c) = m from Int.le_antisymm (by omega) (by omega)]; omega)
            rw [show m + 1 - T 210 0 c = m - T 210 0 c + 1 from Int.le_antisymm (by omega) (by omega)]
            exact z9
        · refine And.intro (fun c2 => ?_) (fun c2 => ?_)
          · refine hK 83 [some (vR 111 0), some (vI c), some (vI be), some (vI ah), some (vI bs), some (vI m), some (vI v)] [] T ?_
            refine j_blx (F := fX11) tb_X11 (nn_ _) bk_X11_nextMatch_f_83 bs_X11_nextMatch_f_83 hz (fun K hK => ?_)
            refine hK 90 _ [vI m] T ?_
            refine j_drq [some (vR 111 0), some (vI c), some (vI be), some (vI ah), some (vI bs), some (vI m), none] (drq_s (drq_s (drq_s (drq_s (drq_s (drq_s (drq_n drq_0))))))) ?_
            refine c_90 m ?_ ?_
            · omega
            · have z9 : NXM_ (fun m => T 234 0 m) (T 210 0 c) (m - T 210 0 c + 1) (cz_ (be = -1) (-1) (T 234 0 be * 400 + be)) (T 234 0 ah * 400 + ah) (T 210 0 c + (m - T 210 0 c)) := nxm_t i3 (by omega) (by omega) (by rw [show T 210 0 c + (m - T 210 0 c) = m from Int.le_antisymm (by omega) (by omega)]; omega) (by rw [show T 210 0 c + (m - T 210 0 c) = m from Int.le_antisymm (by omega) (by omega)]; omega)
              rw [show T 210 0 c + (m - T 210 0 c) = m from Int.le_antisymm (by omega) (by omega)] at z9
              rw [show m + 1 - T 210 0 c = m - T 210 0 c + 1 from Int.le_antisymm (by omega) (by omega)]
              exact z9
          · refine hK 77 [some (vR 111 0), some (vI c), some (vI be), some (vI ah), some (vI bs), some (vI m), some (vI v)] [vI bs, vI m, vR 111 0] T ?_
            refine j_callV (y := yX11_isAhead) (Yc := zX11_isAhead) (rest := []) [vI m, vI bs] (ct_X11_isAhead (T := T) (by omega) (by omega)) cl_X11_368 (qd_c (by decide +kernel)) (nn_ _) rfl (rf_of rfl) (Nat.le_of_ble_eq_true rfl) (Nat.le_of_ble_eq_true rfl) (Nat.le_of_ble_eq_true rfl) rfl ?_
            rintro _ _ ⟨rfl, x3, rfl, hx3⟩
            show J_ zX11_nextMatch T (po_X11_nextMatch_f T c be ah) 0 0 80 _ [vI x3] T
            refine j_blx (F := fX11) tb_X11 (nn_ _) bk_X11_nextMatch_f_80 bs_X11_nextMatch_f_80 hz (fun K hK => ?_)
            refine And.intro (fun c4 => ?_) (fun c4 => ?_)
            · replace hx3 := hx3.resolve_left (fun z => absurd (c4.symm.trans z.1) (by decide))
              clear c4
              refine hK 88 _ [] T ?_
              refine j_blx (F := fX11) tb_X11 (nn_ _) bk_X11_nextMatch_f_88 bs_X11_nextMatch_f_88 hz (fun K hK => ?_)
              refine hK 90 _ [vI bs] T ?_
              refine j_drq [some (vR 111 0), some (vI c), some (vI be), some (vI ah), some (vI bs), some (vI m), none] (drq_s (drq_s (drq_s (drq_s (drq_s (drq_s (drq_n drq_0))))))) ?_
              refine c_90 bs ?_ ?_
              · omega
              · have z9 : NXM_ (fun m => T 234 0 m) (T 210 0 c) (m - T 210 0 c + 1) (cz_ (be = -1) (-1) (T 234 0 be * 400 + be)) (T 234 0 ah * 400 + ah) bs := nxm_k i3 (by rw [show T 210 0 c + (m - T 210 0 c) = m from Int.le_antisymm (by omega) (by omega)]; omega)
                rw [show m + 1 - T 210 0 c = m - T 210 0 c + 1 from Int.le_antisymm (by omega) (by omega)]
                exact z9
            · replace hx3 := hx3.resolve_right (fun z => c4 z.1)
              clear c4
              refine hK 90 [some (vR 111 0), some (vI c), some (vI be), some (vI ah), some (vI bs), some (vI m), some (vI v)] [vI m] T ?_
              refine j_drq [some (vR 111 0), some (vI c), some (vI be), some (vI ah), some (vI bs), some (vI m), none] (drq_s (drq_s (drq_s (drq_s (drq_s (drq_s (drq_n drq_0))))))) ?_
              refine c_90 m ?_ ?_
              · omega
              · have z9 : NXM_ (fun m => T 234 0 m) (T 210 0 c) (m - T 210 0 c + 1) (cz_ (be = -1) (-1) (T 234 0 be * 400 + be)) (T 234 0 ah * 400 + ah) (T 210 0 c + (m - T 210 0 c)) := nxm_t i3 (by omega) (by omega) (by rw [show T 210 0 c + (m - T 210 0 c) = m from Int.le_antisymm (by omega) (by omega)]; omega) (by rw [show T 210 0 c + (m - T 210 0 c) = m from Int.le_antisymm (by omega) (by omega)]; omega)
                rw [show T 210 0 c + (m - T 210 0 c) = m from Int.le_antisymm (by omega) (by omega)] at z9
                rw [show m + 1 - T 210 0 c = m - T 210 0 c + 1 from Int.le_antisymm (by omega) (by omega)]
                exact z9
      refine j_blx (F := fX11) tb_X11 (nn_ _) bk_X11_nextMatch_f_11 bs_X11_nextMatch_f_11 hz (fun K hK => ?_)
      refine ix_i (by omega) ?_
      intro b5 b5b
      refine ix_i (by omega) ?_
      intro b6 b6b
      refine rg_i (by omega) ?_
      refine And.intro (fun c7 => ?_) (fun c7 => ?_)
      · refine hK 98 _ [] T ?_
        refine j_blx (F := fX11) tb_X11 (nn_ _) bk_X11_nextMatch_f_98 bs_X11_nextMatch_f_98 hz (fun K hK => ?_)
        refine (show po_X11_nextMatch_f T c be ah T (some (vI bs)) from ?_)
        have z9 : NXM_ (fun m => T 234 0 m) (T 210 0 c) (T 211 0 c) (cz_ (be = -1) (-1) (T 234 0 be * 400 + be)) (T 234 0 ah * 400 + ah) bs := by rw [show T 211 0 c = m - T 210 0 c from Int.le_antisymm (by omega) (by omega)]; exact i3
        exact ⟨rfl, _, rfl, by omega, z9⟩
      · have hdm : 0 ≤ T 234 0 m ∧ T 234 0 m ≤ 999 := bd_a hT 234 (by decide +kernel : ta_ 234 = some (1, some 400, 0, 999)) 0 (by omega)
        have hdb : bs = -1 ∨ (0 ≤ T 234 0 bs ∧ T 234 0 bs ≤ 999) := by
          by_cases z : bs = -1
          · exact Or.inl z
          · exact Or.inr (bd_a hT 234 (by decide +kernel : ta_ 234 = some (1, some 400, 0, 999)) 0 (by omega))
        refine And.intro (fun c8 => ?_) (fun c8 => ?_)
        · refine hK 44 _ [] T ?_
          refine j_blx (F := fX11) tb_X11 (nn_ _) bk_X11_nextMatch_f_44 bs_X11_nextMatch_f_44 hz (fun K hK => ?_)
          refine hK 48 _ [vI ah, vI m, vR 111 0] T ?_
          refine j_callV (y := yX11_isAhead) (Yc := zX11_isAhead) (rest := []) [vI m, vI ah] (ct_X11_isAhead (T := T) (by omega) (by omega)) cl_X11_368 (qd_c (by decide +kernel)) (nn_ _) rfl (rf_of rfl) (Nat.le_of_ble_eq_true rfl) (Nat.le_of_ble_eq_true rfl) (Nat.le_of_ble_eq_true rfl) rfl ?_
          rintro _ _ ⟨rfl, x9, rfl, hx9⟩
          show J_ zX11_nextMatch T (po_X11_nextMatch_f T c be ah) 0 0 51 _ [vI x9] T
          refine j_blx (F := fX11) tb_X11 (nn_ _) bk_X11_nextMatch_f_51 bs_X11_nextMatch_f_51 hz (fun K hK => ?_)
          refine And.intro (fun c10 => ?_) (fun c10 => ?_)
          · replace hx9 := hx9.resolve_left (fun z => absurd (c10.symm.trans z.1) (by decide))
            clear c10
            refine hK 58 _ [] T ?_
            refine j_blx (F := fX11) tb_X11 (nn_ _) bk_X11_nextMatch_f_58 bs_X11_nextMatch_f_58 hz (fun K hK => ?_)
            refine hK 59 _ [vI 0] T ?_
            refine c_59 0 ?_ ?_
            · omega
            · omega
          · replace hx9 := hx9.resolve_right (fun z => c10 z.1)
            clear c10
            refine hK 59 _ [vI 1] T ?_
            refine c_59 1 ?_ ?_
            · omega
            · omega
        · refine hK 38 _ [vI m, vI be, vR 111 0] T ?_
          refine j_callV (y := yX11_isAhead) (Yc := zX11_isAhead) (rest := []) [vI be, vI m] (ct_X11_isAhead (T := T) (by omega) (by omega)) cl_X11_368 (qd_c (by decide +kernel)) (nn_ _) rfl (rf_of rfl) (Nat.le_of_ble_eq_true rfl) (Nat.le_of_ble_eq_true rfl) (Nat.le_of_ble_eq_true rfl) rfl ?_
          rintro _ _ ⟨rfl, x11, rfl, hx11⟩
          show J_ zX11_nextMatch T (po_X11_nextMatch_f T c be ah) 0 0 41 _ [vI x11] T
          refine j_blx (F := fX11) tb_X11 (nn_ _) bk_X11_nextMatch_f_41 bs_X11_nextMatch_f_41 hz (fun K hK => ?_)
          refine And.intro (fun c12 => ?_) (fun c12 => ?_)
          · replace hx11 := hx11.resolve_left (fun z => absurd (c12.symm.trans z.1) (by decide))
            clear c12
            refine hK 58 _ [] T ?_
            refine j_blx (F := fX11) tb_X11 (nn_ _) bk_X11_nextMatch_f_58 bs_X11_nextMatch_f_58 hz (fun K hK => ?_)
            refine hK 59 _ [vI 0] T ?_
            refine c_59 0 ?_ ?_
            · omega
            · omega
          · replace hx11 := hx11.resolve_right (fun z => c12 z.1)
            clear c12
            refine hK 48 _ [vI ah, vI m, vR 111 0] T ?_
            refine j_callV (y := yX11_isAhead) (Yc := zX11_isAhead) (rest := []) [vI m, vI ah] (ct_X11_isAhead (T := T) (by omega) (by omega)) cl_X11_368 (qd_c (by decide +kernel)) (nn_ _) rfl (rf_of rfl) (Nat.le_of_ble_eq_true rfl) (Nat.le_of_ble_eq_true rfl) (Nat.le_of_ble_eq_true rfl) rfl ?_
            rintro _ _ ⟨rfl, x13, rfl, hx13⟩
            show J_ zX11_nextMatch T (po_X11_nextMatch_f T c be ah) 0 0 51 _ [vI x13] T
            refine j_blx (F := fX11) tb_X11 (nn_ _) bk_X11_nextMatch_f_51 bs_X11_nextMatch_f_51 hz (fun K hK => ?_)
            refine And.intro (fun c14 => ?_) (fun c14 => ?_)
            · replace hx13 := hx13.resolve_left (fun z => absurd (c14.symm.trans z.1) (by decide))
              clear c14
              refine hK 58 _ [] T ?_
              refine j_blx (F := fX11) tb_X11 (nn_ _) bk_X11_nextMatch_f_58 bs_X11_nextMatch_f_58 hz (fun K hK => ?_)
              refine hK 59 _ [vI 0] T ?_
              refine c_59 0 ?_ ?_
              · omega
              · omega
            · replace hx13 := hx13.resolve_right (fun z => c14 z.1)
              clear c14
              refine hK 59 _ [vI 1] T ?_
              refine c_59 1 ?_ ?_
              · omega
              · omega
  refine j_blx (F := fX11) tb_X11 (nn_ _) bk_X11_nextMatch_f_0 bs_X11_nextMatch_f_0 hz (fun K hK => ?_)
  refine ix_i (by omega) ?_
  intro b15 b15b
  refine hK 11 [some (vR 111 0), some (vI c), some (vI be), some (vI ah), some (vI (-1)), some (vI (T 210 0 c)), none] [] T ?_
  refine c_11 _ (-1) (T 210 0 c) (Nat.le_refl _) ?_ ?_
  · omega
  · rw [show T 210 0 c - T 210 0 c = 0 from Int.le_antisymm (by omega) (by omega)]
    exact nxm_0
/-- between one match and the next there is none -/
theorem bn_0 {day : Int → Int} {f n lo hi x B m : Int} (h : NXM_ day f n lo hi x) (f0 : 0 ≤ f) (a : x ≠ -1 → B = day x * 400 + x) (b : x = -1 → B = hi) (m0 : f ≤ m) (m1 : m < f + n) (h0 : lo < day m * 400 + m) (h1 : day m * 400 + m < B) : False := by
  rcases h with ⟨z, h⟩ | ⟨z, h⟩
  · have y := b z
    exact h m m0 m1 h0 (by omega)
  · have w : x ≠ -1 := fun u => by have := z.1; omega
    have y := a w
    have y2 := z.2.2.2
    have q := h m m0 m1 h0 (by omega)
    omega
theorem bk_X11_isBanned_f_248 : ck_ fX11 (some .boolean) cX11_isBanned 248 [.aload 0, .iload 3, .iload 6, .iload 2] 253 = true := qck_r (nn_ _) (by decide +kernel)
theorem bs_X11_isBanned_f_248 {P : Zt → Option Zv → Prop} (K : Int → Zl → List Zv → Zt → Prop) : sx_ K P [.aload 0, .iload 3, .iload 6, .iload 2] 253 = x_aload 0 (x_iload 3 (x_iload 6 (x_iload 2 (K 253)))) := ((xe_aload 0).trans (congrArg (x_aload 0) ((xe_iload 3).trans (congrArg (x_iload 3) ((xe_iload 6).trans (congrArg (x_iload 6) ((xe_iload 2).trans (congrArg (x_iload 2) xe_nil))))))))
theorem bk_X11_isBanned_f_256 : ck_ fX11 (some .boolean) cX11_isBanned 256 [.istore 6, .goto 22] 261 = true := qck_r (nn_ _) (by decide +kernel)
theorem bs_X11_isBanned_f_256 {P : Zt → Option Zv → Prop} (K : Int → Zl → List Zv → Zt → Prop) : sx_ K P [.istore 6, .goto 22] 261 = x_istore 6 (x_goto 22 K) := ((xe_istore 6).trans (congrArg (x_istore 6) (xe_goto 22)))
theorem bk_X11_isBanned_f_241 : ck_ fX11 (some .boolean) cX11_isBanned 241 [.fadd, .istore 4, .iload 9, .istore 5] 248 = true := qck_r (nn_ _) (by decide +kernel)
theorem bs_X11_isBanned_f_241 {P : Zt → Option Zv → Prop} (K : Int → Zl → List Zv → Zt → Prop) : sx_ K P [.fadd, .istore 4, .iload 9, .istore 5] 248 = x_fadd (x_istore 4 (x_iload 9 (x_istore 5 (K 248)))) := ((xe_fadd).trans (congrArg (x_fadd) ((xe_istore 4).trans (congrArg (x_istore 4) ((xe_iload 9).trans (congrArg (x_iload 9) ((xe_istore 5).trans (congrArg (x_istore 5) xe_nil))))))))
theorem bk_X11_isBanned_f_160 : ck_ fX11 (some .boolean) cX11_isBanned 160 [.istore 8, .iload 8, .iconst (-1), .if_icmp .eq 193, .aload 0, .tableswitch 0 11 43 #[], .iload 8, .baload, .ifCond .eq 193, .iload 4, .aload 0, .iload 3, .iconst 14] 184 = true := qck_r (nn_ _) (by decide +kernel)
theorem bs_X11_isBanned_f_160 {P : Zt → Option Zv → Prop} (K : Int → Zl → List Zv → Zt → Prop) : sx_ K P [.istore 8, .iload 8, .iconst (-1), .if_icmp .eq 193, .aload 0, .tableswitch 0 11 43 #[], .iload 8, .baload, .ifCond .eq 193, .iload 4, .aload 0, .iload 3, .iconst 14] 184 = x_istore 8 (x_iload 8 (x_iconst (-1) (x_if_icmp .eq 193 K (x_aload 0 (x_g1 111 243 (x_iload 8 (x_baload (x_ifCond .eq 193 K (x_iload 4 (x_aload 0 (x_iload 3 (x_iconst 14 (K 184))))))))))))) := ((xe_istore 8).trans (congrArg (x_istore 8) ((xe_iload 8).trans (congrArg (x_iload 8) ((xe_iconst (-1)).trans (congrArg (x_iconst (-1)) ((xe_if_icmp .eq 193).trans (congrArg (x_if_icmp .eq 193 K) ((xe_aload 0).trans (congrArg (x_aload 0) ((xe_g1 (kk := 111) rfl tl_11_43).trans (congrArg (x_g1 111 243) ((xe_iload 8).trans (congrArg (x_iload 8) ((xe_baload).trans (congrArg (x_baload) ((xe_ifCond .eq 193).trans (congrArg (x_ifCond .eq 193 K) ((xe_iload 4).trans (congrArg (x_iload 4) ((xe_aload 0).trans (congrArg (x_aload 0) ((xe_iload 3).trans (congrArg (x_iload 3) ((xe_iconst 14).trans (congrArg (x_iconst 14) xe_nil))))))))))))))))))))))))))
theorem bk_X11_isBanned_f_193 : ck_ fX11 (some .boolean) cX11_isBanned 193 [.iload 8, .iconst (-1), .if_icmp .eq 248, .iload 5, .aload 0, .tableswitch 0 11 42 #[], .iload 8, .iaload, .fadd, .istore 9, .iload 4, .iload 9, .aload 0, .iload 3, .iconst 13] 219 = true := qck_r (nn_ _) (by decide +kernel)
theorem bs_X11_isBanned_f_193 {P : Zt → Option Zv → Prop} (K : Int → Zl → List Zv → Zt → Prop) : sx_ K P [.iload 8, .iconst (-1), .if_icmp .eq 248, .iload 5, .aload 0, .tableswitch 0 11 42 #[], .iload 8, .iaload, .fadd, .istore 9, .iload 4, .iload 9, .aload 0, .iload 3, .iconst 13] 219 = x_iload 8 (x_iconst (-1) (x_if_icmp .eq 248 K (x_iload 5 (x_aload 0 (x_g1 111 242 (x_iload 8 (x_iaload (x_fadd (x_istore 9 (x_iload 4 (x_iload 9 (x_aload 0 (x_iload 3 (x_iconst 13 (K 219))))))))))))))) := ((xe_iload 8).trans (congrArg (x_iload 8) ((xe_iconst (-1)).trans (congrArg (x_iconst (-1)) ((xe_if_icmp .eq 248).trans (congrArg (x_if_icmp .eq 248 K) ((xe_iload 5).trans (congrArg (x_iload 5) ((xe_aload 0).trans (congrArg (x_aload 0) ((xe_g1 (kk := 111) rfl tl_11_42).trans (congrArg (x_g1 111 242) ((xe_iload 8).trans (congrArg (x_iload 8) ((xe_iaload).trans (congrArg (x_iaload) ((xe_fadd).trans (congrArg (x_fadd) ((xe_istore 9).trans (congrArg (x_istore 9) ((xe_iload 4).trans (congrArg (x_iload 4) ((xe_iload 9).trans (congrArg (x_iload 9) ((xe_aload 0).trans (congrArg (x_aload 0) ((xe_iload 3).trans (congrArg (x_iload 3) ((xe_iconst 13).trans (congrArg (x_iconst 13) xe_nil))))))))))))))))))))))))))))))
theorem bk_X11_isBanned_f_222 : ck_ fX11 (some .boolean) cX11_isBanned 222 [.fdiv, .iload 5, .aload 0, .iload 3, .iconst 13] 229 = true := qck_r (nn_ _) (by decide +kernel)
theorem bs_X11_isBanned_f_222 {P : Zt → Option Zv → Prop} (K : Int → Zl → List Zv → Zt → Prop) : sx_ K P [.fdiv, .iload 5, .aload 0, .iload 3, .iconst 13] 229 = x_fdiv (x_iload 5 (x_aload 0 (x_iload 3 (x_iconst 13 (K 229))))) := ((xe_fdiv).trans (congrArg (x_fdiv) ((xe_iload 5).trans (congrArg (x_iload 5) ((xe_aload 0).trans (congrArg (x_aload 0) ((xe_iload 3).trans (congrArg (x_iload 3) ((xe_iconst 13).trans (congrArg (x_iconst 13) xe_nil))))))))))
theorem bk_X11_isBanned_f_232 : ck_ fX11 (some .boolean) cX11_isBanned 232 [.fdiv, .if_icmp .le 240, .iconst 1, .goto 241] 240 = true := qck_r (nn_ _) (by decide +kernel)
theorem bs_X11_isBanned_f_232 {P : Zt → Option Zv → Prop} (K : Int → Zl → List Zv → Zt → Prop) : sx_ K P [.fdiv, .if_icmp .le 240, .iconst 1, .goto 241] 240 = x_fdiv (x_if_icmp .le 240 K (x_iconst 1 (x_goto 241 K))) := ((xe_fdiv).trans (congrArg (x_fdiv) ((xe_if_icmp .le 240).trans (congrArg (x_if_icmp .le 240 K) ((xe_iconst 1).trans (congrArg (x_iconst 1) (xe_goto 241)))))))
theorem bk_X11_isBanned_f_240 : ck_ fX11 (some .boolean) cX11_isBanned 240 [.iconst 0] 241 = true := qck_r (nn_ _) (by decide +kernel)
theorem bs_X11_isBanned_f_240 {P : Zt → Option Zv → Prop} (K : Int → Zl → List Zv → Zt → Prop) : sx_ K P [.iconst 0] 241 = x_iconst 0 (K 241) := ((xe_iconst 0).trans (congrArg (x_iconst 0) xe_nil))
theorem bk_X11_isBanned_f_187 : ck_ fX11 (some .boolean) cX11_isBanned 187 [.fadd, .istore 4, .goto 248] 193 = true := qck_r (nn_ _) (by decide +kernel)
theorem bs_X11_isBanned_f_187 {P : Zt → Option Zv → Prop} (K : Int → Zl → List Zv → Zt → Prop) : sx_ K P [.fadd, .istore 4, .goto 248] 193 = x_fadd (x_istore 4 (x_goto 248 K)) := ((xe_fadd).trans (congrArg (x_fadd) ((xe_istore 4).trans (congrArg (x_istore 4) (xe_goto 248)))))
theorem bk_X11_isBanned_f_110 : ck_ fX11 (some .boolean) cX11_isBanned 110 [.fsub, .istore 4, .aload 0, .tableswitch 0 11 35 #[], .iload 6, .iaload, .iconst 2, .if_icmp .ne 248, .aload 0, .iconst 2, .iload 6, .imul, .iload 1] 130 = true := qck_r (nn_ _) (by decide +kernel)
theorem bs_X11_isBanned_f_110 {P : Zt → Option Zv → Prop} (K : Int → Zl → List Zv → Zt → Prop) : sx_ K P [.fsub, .istore 4, .aload 0, .tableswitch 0 11 35 #[], .iload 6, .iaload, .iconst 2, .if_icmp .ne 248, .aload 0, .iconst 2, .iload 6, .imul, .iload 1] 130 = x_fsub (x_istore 4 (x_aload 0 (x_g1 111 235 (x_iload 6 (x_iaload (x_iconst 2 (x_if_icmp .ne 248 K (x_aload 0 (x_iconst 2 (x_iload 6 (x_imul (x_iload 1 (K 130))))))))))))) := ((xe_fsub).trans (congrArg (x_fsub) ((xe_istore 4).trans (congrArg (x_istore 4) ((xe_aload 0).trans (congrArg (x_aload 0) ((xe_g1 (kk := 111) rfl tl_11_35).trans (congrArg (x_g1 111 235) ((xe_iload 6).trans (congrArg (x_iload 6) ((xe_iaload).trans (congrArg (x_iaload) ((xe_iconst 2).trans (congrArg (x_iconst 2) ((xe_if_icmp .ne 248).trans (congrArg (x_if_icmp .ne 248 K) ((xe_aload 0).trans (congrArg (x_aload 0) ((xe_iconst 2).trans (congrArg (x_iconst 2) ((xe_iload 6).trans (congrArg (x_iload 6) ((xe_imul).trans (congrArg (x_imul) ((xe_iload 1).trans (congrArg (x_iload 1) xe_nil))))))))))))))))))))))))))
theorem bk_X11_isBanned_f_133 : ck_ fX11 (some .boolean) cX11_isBanned 133 [.iconst (-1), .if_icmp .eq 149, .aload 0, .iconst 2, .iload 6, .imul, .iload 1] 143 = true := qck_r (nn_ _) (by decide +kernel)
theorem bs_X11_isBanned_f_133 {P : Zt → Option Zv → Prop} (K : Int → Zl → List Zv → Zt → Prop) : sx_ K P [.iconst (-1), .if_icmp .eq 149, .aload 0, .iconst 2, .iload 6, .imul, .iload 1] 143 = x_iconst (-1) (x_if_icmp .eq 149 K (x_aload 0 (x_iconst 2 (x_iload 6 (x_imul (x_iload 1 (K 143))))))) := ((xe_iconst (-1)).trans (congrArg (x_iconst (-1)) ((xe_if_icmp .eq 149).trans (congrArg (x_if_icmp .eq 149 K) ((xe_aload 0).trans (congrArg (x_aload 0) ((xe_iconst 2).trans (congrArg (x_iconst 2) ((xe_iload 6).trans (congrArg (x_iload 6) ((xe_imul).trans (congrArg (x_imul) ((xe_iload 1).trans (congrArg (x_iload 1) xe_nil))))))))))))))
theorem bk_X11_isBanned_f_149 : ck_ fX11 (some .boolean) cX11_isBanned 149 [.aload 0, .iconst 2, .iload 6, .imul, .iconst 1, .iadd, .iload 1] 157 = true := qck_r (nn_ _) (by decide +kernel)
theorem bs_X11_isBanned_f_149 {P : Zt → Option Zv → Prop} (K : Int → Zl → List Zv → Zt → Prop) : sx_ K P [.aload 0, .iconst 2, .iload 6, .imul, .iconst 1, .iadd, .iload 1] 157 = x_aload 0 (x_iconst 2 (x_iload 6 (x_imul (x_iconst 1 (x_iadd (x_iload 1 (K 157))))))) := ((xe_aload 0).trans (congrArg (x_aload 0) ((xe_iconst 2).trans (congrArg (x_iconst 2) ((xe_iload 6).trans (congrArg (x_iload 6) ((xe_imul).trans (congrArg (x_imul) ((xe_iconst 1).trans (congrArg (x_iconst 1) ((xe_iadd).trans (congrArg (x_iadd) ((xe_iload 1).trans (congrArg (x_iload 1) xe_nil))))))))))))))
theorem bk_X11_isBanned_f_146 : ck_ fX11 (some .boolean) cX11_isBanned 146 [.goto 160] 149 = true := qck_r (nn_ _) (by decide +kernel)
theorem bs_X11_isBanned_f_146 {P : Zt → Option Zv → Prop} (K : Int → Zl → List Zv → Zt → Prop) : sx_ K P [.goto 160] 149 = x_goto 160 K := (xe_goto 160)
theorem bk_X11_isBanned_f_66 : ck_ fX11 (some .boolean) cX11_isBanned 66 [.istore 7, .iload 7, .iconst (-1), .if_icmp .eq 248, .iload 7, .aload 0, .tableswitch 0 11 32 #[], .iload 6, .iaload, .if_icmp .eq 98, .iload 7, .aload 0, .tableswitch 0 11 33 #[], .iload 6, .iaload, .if_icmp .ne 248, .iload 4, .iload 4, .ifCond .le 109, .iconst 1, .goto 110] 109 = true := qck_r (nn_ _) (by decide +kernel)
theorem bs_X11_isBanned_f_66 {P : Zt → Option Zv → Prop} (K : Int → Zl → List Zv → Zt → Prop) : sx_ K P [.istore 7, .iload 7, .iconst (-1), .if_icmp .eq 248, .iload 7, .aload 0, .tableswitch 0 11 32 #[], .iload 6, .iaload, .if_icmp .eq 98, .iload 7, .aload 0, .tableswitch 0 11 33 #[], .iload 6, .iaload, .if_icmp .ne 248, .iload 4, .iload 4, .ifCond .le 109, .iconst 1, .goto 110] 109 = x_istore 7 (x_iload 7 (x_iconst (-1) (x_if_icmp .eq 248 K (x_iload 7 (x_aload 0 (x_g1 111 232 (x_iload 6 (x_iaload (x_if_icmp .eq 98 K (x_iload 7 (x_aload 0 (x_g1 111 233 (x_iload 6 (x_iaload (x_if_icmp .ne 248 K (x_iload 4 (x_iload 4 (x_ifCond .le 109 K (x_iconst 1 (x_goto 110 K)))))))))))))))))))) := ((xe_istore 7).trans (congrArg (x_istore 7) ((xe_iload 7).trans (congrArg (x_iload 7) ((xe_iconst (-1)).trans (congrArg (x_iconst (-1)) ((xe_if_icmp .eq 248).trans (congrArg (x_if_icmp .eq 248 K) ((xe_iload 7).trans (congrArg (x_iload 7) ((xe_aload 0).trans (congrArg (x_aload 0) ((xe_g1 (kk := 111) rfl tl_11_32).trans (congrArg (x_g1 111 232) ((xe_iload 6).trans (congrArg (x_iload 6) ((xe_iaload).trans (congrArg (x_iaload) ((xe_if_icmp .eq 98).trans (congrArg (x_if_icmp .eq 98 K) ((xe_iload 7).trans (congrArg (x_iload 7) ((xe_aload 0).trans (congrArg (x_aload 0) ((xe_g1 (kk := 111) rfl tl_11_33).trans (congrArg (x_g1 111 233) ((xe_iload 6).trans (congrArg (x_iload 6) ((xe_iaload).trans (congrArg (x_iaload) ((xe_if_icmp .ne 248).trans (congrArg (x_if_icmp .ne 248 K) ((xe_iload 4).trans (congrArg (x_iload 4) ((xe_iload 4).trans (congrArg (x_iload 4) ((xe_ifCond .le 109).trans (congrArg (x_ifCond .le 109 K) ((xe_iconst 1).trans (congrArg (x_iconst 1) (xe_goto 110)))))))))))))))))))))))))))))))))))))))))
theorem bk_X11_isBanned_f_98 : ck_ fX11 (some .boolean) cX11_isBanned 98 [.iload 4, .iload 4, .ifCond .le 109, .iconst 1, .goto 110] 109 = true := qck_r (nn_ _) (by decide +kernel)
theorem bs_X11_isBanned_f_98 {P : Zt → Option Zv → Prop} (K : Int → Zl → List Zv → Zt → Prop) : sx_ K P [.iload 4, .iload 4, .ifCond .le 109, .iconst 1, .goto 110] 109 = x_iload 4 (x_iload 4 (x_ifCond .le 109 K (x_iconst 1 (x_goto 110 K)))) := ((xe_iload 4).trans (congrArg (x_iload 4) ((xe_iload 4).trans (congrArg (x_iload 4) ((xe_ifCond .le 109).trans (congrArg (x_ifCond .le 109 K) ((xe_iconst 1).trans (congrArg (x_iconst 1) (xe_goto 110)))))))))
theorem bk_X11_isBanned_f_109 : ck_ fX11 (some .boolean) cX11_isBanned 109 [.iconst 0] 110 = true := qck_r (nn_ _) (by decide +kernel)
theorem bs_X11_isBanned_f_109 {P : Zt → Option Zv → Prop} (K : Int → Zl → List Zv → Zt → Prop) : sx_ K P [.iconst 0] 110 = x_iconst 0 (K 110) := ((xe_iconst 0).trans (congrArg (x_iconst 0) xe_nil))
theorem bk_X11_isBanned_f_22 : ck_ fX11 (some .boolean) cX11_isBanned 22 [.iload 6, .iconst (-1), .if_icmp .eq 261, .aload 0, .tableswitch 0 11 35 #[], .iload 6, .iaload, .iconst 2, .if_icmp .eq 50, .aload 0, .tableswitch 0 11 35 #[], .iload 6, .iaload, .iconst 3, .if_icmp .ne 65, .aload 0, .iload 1, .aload 0, .tableswitch 0 11 34 #[], .iload 6, .iaload] 59 = true := qck_r (nn_ _) (by decide +kernel)
theorem bs_X11_isBanned_f_22 {P : Zt → Option Zv → Prop} (K : Int → Zl → List Zv → Zt → Prop) : sx_ K P [.iload 6, .iconst (-1), .if_icmp .eq 261, .aload 0, .tableswitch 0 11 35 #[], .iload 6, .iaload, .iconst 2, .if_icmp .eq 50, .aload 0, .tableswitch 0 11 35 #[], .iload 6, .iaload, .iconst 3, .if_icmp .ne 65, .aload 0, .iload 1, .aload 0, .tableswitch 0 11 34 #[], .iload 6, .iaload] 59 = x_iload 6 (x_iconst (-1) (x_if_icmp .eq 261 K (x_aload 0 (x_g1 111 235 (x_iload 6 (x_iaload (x_iconst 2 (x_if_icmp .eq 50 K (x_aload 0 (x_g1 111 235 (x_iload 6 (x_iaload (x_iconst 3 (x_if_icmp .ne 65 K (x_aload 0 (x_iload 1 (x_aload 0 (x_g1 111 234 (x_iload 6 (x_iaload (K 59))))))))))))))))))))) := ((xe_iload 6).trans (congrArg (x_iload 6) ((xe_iconst (-1)).trans (congrArg (x_iconst (-1)) ((xe_if_icmp .eq 261).trans (congrArg (x_if_icmp .eq 261 K) ((xe_aload 0).trans (congrArg (x_aload 0) ((xe_g1 (kk := 111) rfl tl_11_35).trans (congrArg (x_g1 111 235) ((xe_iload 6).trans (congrArg (x_iload 6) ((xe_iaload).trans (congrArg (x_iaload) ((xe_iconst 2).trans (congrArg (x_iconst 2) ((xe_if_icmp .eq 50).trans (congrArg (x_if_icmp .eq 50 K) ((xe_aload 0).trans (congrArg (x_aload 0) ((xe_g1 (kk := 111) rfl tl_11_35).trans (congrArg (x_g1 111 235) ((xe_iload 6).trans (congrArg (x_iload 6) ((xe_iaload).trans (congrArg (x_iaload) ((xe_iconst 3).trans (congrArg (x_iconst 3) ((xe_if_icmp .ne 65).trans (congrArg (x_if_icmp .ne 65 K) ((xe_aload 0).trans (congrArg (x_aload 0) ((xe_iload 1).trans (congrArg (x_iload 1) ((xe_aload 0).trans (congrArg (x_aload 0) ((xe_g1 (kk := 111) rfl tl_11_34).trans (congrArg (x_g1 111 234) ((xe_iload 6).trans (congrArg (x_iload 6) ((xe_iaload).trans (congrArg (x_iaload) xe_nil))))))))))))))))))))))))))))))))))))))))))
theorem bk_X11_isBanned_f_261 : ck_ fX11 (some .boolean) cX11_isBanned 261 [.iload 4, .ifCond .le 270, .iconst 1, .goto 271] 270 = true := qck_r (nn_ _) (by decide +kernel)
theorem bs_X11_isBanned_f_261 {P : Zt → Option Zv → Prop} (K : Int → Zl → List Zv → Zt → Prop) : sx_ K P [.iload 4, .ifCond .le 270, .iconst 1, .goto 271] 270 = x_iload 4 (x_ifCond .le 270 K (x_iconst 1 (x_goto 271 K))) := ((xe_iload 4).trans (congrArg (x_iload 4) ((xe_ifCond .le 270).trans (congrArg (x_ifCond .le 270 K) ((xe_iconst 1).trans (congrArg (x_iconst 1) (xe_goto 271)))))))
theorem bk_X11_isBanned_f_270 : ck_ fX11 (some .boolean) cX11_isBanned 270 [.iconst 0, .ireturn] 272 = true := qck_r (nn_ _) (by decide +kernel)
theorem bs_X11_isBanned_f_270 {P : Zt → Option Zv → Prop} (K : Int → Zl → List Zv → Zt → Prop) : sx_ K P [.iconst 0, .ireturn] 272 = x_iconst 0 (x_ireturn P) := ((xe_iconst 0).trans (congrArg (x_iconst 0) (xe_ireturn)))
theorem bk_X11_isBanned_f_271 : ck_ fX11 (some .boolean) cX11_isBanned 271 [.ireturn] 272 = true := qck_r (nn_ _) (by decide +kernel)
theorem bs_X11_isBanned_f_271 {P : Zt → Option Zv → Prop} (K : Int → Zl → List Zv → Zt → Prop) : sx_ K P [.ireturn] 272 = x_ireturn P := (xe_ireturn)
theorem bk_X11_isBanned_f_50 : ck_ fX11 (some .boolean) cX11_isBanned 50 [.aload 0, .iload 1, .aload 0, .tableswitch 0 11 34 #[], .iload 6, .iaload] 59 = true := qck_r (nn_ _) (by decide +kernel)
theorem bs_X11_isBanned_f_50 {P : Zt → Option Zv → Prop} (K : Int → Zl → List Zv → Zt → Prop) : sx_ K P [.aload 0, .iload 1, .aload 0, .tableswitch 0 11 34 #[], .iload 6, .iaload] 59 = x_aload 0 (x_iload 1 (x_aload 0 (x_g1 111 234 (x_iload 6 (x_iaload (K 59)))))) := ((xe_aload 0).trans (congrArg (x_aload 0) ((xe_iload 1).trans (congrArg (x_iload 1) ((xe_aload 0).trans (congrArg (x_aload 0) ((xe_g1 (kk := 111) rfl tl_11_34).trans (congrArg (x_g1 111 234) ((xe_iload 6).trans (congrArg (x_iload 6) ((xe_iaload).trans (congrArg (x_iaload) xe_nil))))))))))))
theorem bk_X11_isBanned_f_62 : ck_ fX11 (some .boolean) cX11_isBanned 62 [.goto 66] 65 = true := qck_r (nn_ _) (by decide +kernel)
theorem bs_X11_isBanned_f_62 {P : Zt → Option Zv → Prop} (K : Int → Zl → List Zv → Zt → Prop) : sx_ K P [.goto 66] 65 = x_goto 66 K := (xe_goto 66)
theorem bk_X11_isBanned_f_65 : ck_ fX11 (some .boolean) cX11_isBanned 65 [.iconst (-1)] 66 = true := qck_r (nn_ _) (by decide +kernel)
theorem bs_X11_isBanned_f_65 {P : Zt → Option Zv → Prop} (K : Int → Zl → List Zv → Zt → Prop) : sx_ K P [.iconst (-1)] 66 = x_iconst (-1) (K 66) := ((xe_iconst (-1)).trans (congrArg (x_iconst (-1)) xe_nil))
theorem bk_X11_isBanned_f_0 : ck_ fX11 (some .boolean) cX11_isBanned 0 [.aload 0, .tableswitch 0 11 30 #[], .iload 2, .iaload, .istore 3, .iconst 0, .istore 4, .iconst 0, .istore 5, .aload 0, .iload 3, .iconst (-1), .iload 2] 17 = true := qck_r (nn_ _) (by decide +kernel)
theorem bs_X11_isBanned_f_0 {P : Zt → Option Zv → Prop} (K : Int → Zl → List Zv → Zt → Prop) : sx_ K P [.aload 0, .tableswitch 0 11 30 #[], .iload 2, .iaload, .istore 3, .iconst 0, .istore 4, .iconst 0, .istore 5, .aload 0, .iload 3, .iconst (-1), .iload 2] 17 = x_aload 0 (x_g1 111 230 (x_iload 2 (x_iaload (x_istore 3 (x_iconst 0 (x_istore 4 (x_iconst 0 (x_istore 5 (x_aload 0 (x_iload 3 (x_iconst (-1) (x_iload 2 (K 17))))))))))))) := ((xe_aload 0).trans (congrArg (x_aload 0) ((xe_g1 (kk := 111) rfl tl_11_30).trans (congrArg (x_g1 111 230) ((xe_iload 2).trans (congrArg (x_iload 2) ((xe_iaload).trans (congrArg (x_iaload) ((xe_istore 3).trans (congrArg (x_istore 3) ((xe_iconst 0).trans (congrArg (x_iconst 0) ((xe_istore 4).trans (congrArg (x_istore 4) ((xe_iconst 0).trans (congrArg (x_iconst 0) ((xe_istore 5).trans (congrArg (x_istore 5) ((xe_aload 0).trans (congrArg (x_aload 0) ((xe_iload 3).trans (congrArg (x_iload 3) ((xe_iconst (-1)).trans (congrArg (x_iconst (-1)) ((xe_iload 2).trans (congrArg (x_iload 2) xe_nil))))))))))))))))))))))))))
theorem bk_X11_isBanned_f_20 : ck_ fX11 (some .boolean) cX11_isBanned 20 [.istore 6] 22 = true := qck_r (nn_ _) (by decide +kernel)
theorem bs_X11_isBanned_f_20 {P : Zt → Option Zv → Prop} (K : Int → Zl → List Zv → Zt → Prop) : sx_ K P [.istore 6] 22 = x_istore 6 (K 22) := ((xe_istore 6).trans (congrArg (x_istore 6) xe_nil))
abbrev po_X11_isBanned_f (T : Zt) (p mx : Int) : Zt → Option Zv → Prop := fun T' r => T = T' ∧ ∃ r9 : Int, r = some (vI r9) ∧ ((r9 = 1 ∧ 0 < bnR_ T p mx) ∨ (r9 = 0 ∧ ¬ 0 < bnR_ T p mx))
set_option maxHeartbeats 4000000 in
theorem ct_X11_isBanned_f {T : Zt} {p mx : Int} (h1 : 0 ≤ mx ∧ mx < T 111 0 29) (hml : ML_ T) (hmc : MC_ T) (hri : RI_ T) : Ct_ yX11_isBanned zX11_isBanned T [vR 111 0, vI p, vI mx] (po_X11_isBanned_f T p mx) := by
  refine ct_of pn_11 rfl rfl (Nat.le_of_ble_eq_true rfl) (fun hT hav => ?_)
  have hr_p : -2147483648 ≤ p ∧ p ≤ 2147483647 := hav (vI p) (List.mem_cons_of_mem _ List.mem_cons_self)
  have hr_x : -2147483648 ≤ mx ∧ mx ≤ 2147483647 := hav (vI mx) (List.mem_cons_of_mem _ (List.mem_cons_of_mem _ List.mem_cons_self))
  have hz : zX11_isBanned.2.2.2.1 = some .boolean → ∀ (T' : Zt) (x9 : Int), po_X11_isBanned_f T p mx T' (some (vI x9)) → 0 ≤ x9 ∧ x9 ≤ 1 := fun _ T' x h => by obtain ⟨-, y, e, hy⟩ := h; cases e; omega
  have hcx := hmc mx (by omega) (by omega)
  have hcb : 0 ≤ T 230 0 mx ∧ T 230 0 mx ≤ 3 := bd_a hT 230 (by decide +kernel : ta_ 230 = some (1, some 400, 0, 3)) 0 (by omega)
  have hmx := hml (T 230 0 mx) (by omega) (by omega)
  have hr13 : (1 : Int) ≤ T 205 0 (23 * T 230 0 mx + 13) ∧ T 205 0 (23 * T 230 0 mx + 13) ≤ (9 : Int) := hri (T 230 0 mx) 13 (by omega) (by omega) (by omega) (by omega)
  have hb_29 : 0 ≤ T 111 0 29 ∧ T 111 0 29 ≤ 400 := bd_f hT 111 29 tl_11_29 0
  have hb_6 : 0 ≤ T 111 0 6 ∧ T 111 0 6 ≤ 4 := bd_f hT 111 6 tl_11_6 0
  have hfo : 0 ≤ T 210 0 (T 230 0 mx) ∧ T 210 0 (T 230 0 mx) ≤ 400 := bd_a hT 210 (by decide +kernel : ta_ 210 = some (1, some 4, 0, 400)) 0 (by omega)
  have hmo : 0 ≤ T 211 0 (T 230 0 mx) ∧ T 211 0 (T 230 0 mx) ≤ 400 := bd_a hT 211 (by decide +kernel : ta_ 211 = some (1, some 4, 0, 400)) 0 (by omega)
  have hdx9 : 0 ≤ T 234 0 mx ∧ T 234 0 mx ≤ 999 := bd_a hT 234 (by decide +kernel : ta_ 234 = some (1, some 400, 0, 999)) 0 (by omega)
  show J_ zX11_isBanned T (po_X11_isBanned_f T p mx) 0 0 0 [some (vR 111 0), some (vI p), some (vI mx), none, none, none, none, none, none, none] [] T
  have c_22 : ∀ (nn : Nat) (de : Int) (ye : Int) (m : Int), (if m = -1 then 0 else (1000000 - (400 * T 234 0 m + m)).toNat) ≤ nn → (m = -1 ∨ (0 ≤ m ∧ m < 400)) → (m = -1 ∨ (T 210 0 (T 230 0 mx) ≤ m ∧ m < T 210 0 (T 230 0 mx) + T 211 0 (T 230 0 mx) ∧ T 234 0 m * 400 + m < (T 234 0 mx * 400 + mx))) → (∀ B, (m ≠ -1 → B = T 234 0 m * 400 + m) → (m = -1 → B = (T 234 0 mx * 400 + mx)) → (de, ye) = bf_ (fun m => T 234 0 m) (rlR_ T p) (sbn_ (T 205 0 (23 * T 230 0 mx + 14)) (T 205 0 (23 * T 230 0 mx + 13)) (kdR_ T p) (yvR_ T p)) (T 210 0 (T 230 0 mx)) (T 211 0 (T 230 0 mx)) B.toNat) → J_ zX11_isBanned T (po_X11_isBanned_f T p mx) 0 0 22 [some (vR 111 0), some (vI p), some (vI mx), some (vI (T 230 0 mx)), some (vI de), some (vI ye), some (vI m), none, none, none] [] T := by
    intro nn
    induction nn using Nat.strongRecOn with
    | _ nn ih_22 =>
      intro de ye m hm_22 m1 rg fo
      replace hm_22 := fun (_ : Unit) => hm_22
      have c_248 : ∀ (de4 : Int) (ye4 : Int), (0 ≤ m ∧ m < 400 ∧ T 210 0 (T 230 0 mx) ≤ m ∧ m < T 210 0 (T 230 0 mx) + T 211 0 (T 230 0 mx) ∧ m ≠ -1) → ((de4, ye4) = bf_ (fun m => T 234 0 m) (rlR_ T p) (sbn_ (T 205 0 (23 * T 230 0 mx + 14)) (T 205 0 (23 * T 230 0 mx + 13)) (kdR_ T p) (yvR_ T p)) (T 210 0 (T 230 0 mx)) (T 211 0 (T 230 0 mx)) (T 234 0 m * 400 + m + 1).toNat) → J_ zX11_isBanned T (po_X11_isBanned_f T p mx) 0 0 248 [some (vR 111 0), some (vI p), some (vI mx), some (vI (T 230 0 mx)), some (vI de4), some (vI ye4), some (vI m), none, none, none] [] T := by
        intro de4 ye4 m2 fo4
        refine j_blx (F := fX11) tb_X11 (nn_ _) bk_X11_isBanned_f_248 bs_X11_isBanned_f_248 hz (fun K hK => ?_)
        refine hK 253 _ [vI mx, vI m, vI (T 230 0 mx), vR 111 0] T ?_
        refine j_callV (y := yX11_nextMatch) (Yc := zX11_nextMatch) (rest := []) [vI (T 230 0 mx), vI m, vI mx] (ct_X11_nextMatch_f (T := T) (by omega) (by omega) (by omega) (by omega)) cl_X11_371 (qd_c (by decide +kernel)) (nn_ _) rfl (rf_of rfl) (Nat.le_of_ble_eq_true rfl) (Nat.le_of_ble_eq_true rfl) (Nat.le_of_ble_eq_true rfl) rfl ?_
        rintro _ _ ⟨rfl, x1, rfl, hx1, nx1⟩
        show J_ zX11_isBanned T (po_X11_isBanned_f T p mx) 0 0 256 _ [vI x1] T
        have hdm : 0 ≤ T 234 0 m ∧ T 234 0 m ≤ 999 := bd_a hT 234 (by decide +kernel : ta_ 234 = some (1, some 400, 0, 999)) 0 (by omega)
        have hdx : x1 = -1 ∨ (T 234 0 m * 400 + m < T 234 0 x1 * 400 + x1 ∧ 0 ≤ T 234 0 x1 ∧ T 234 0 x1 ≤ 999) := by
          have nn9 := nx1
          rw [cz_f (by omega)] at nn9
          rcases nn9 with y | y
          · exact Or.inl y.1
          · exact Or.inr ⟨y.1.2.2.1, bd_a hT 234 (by decide +kernel : ta_ 234 = some (1, some 400, 0, 999)) 0 (by have := y.1.1; omega)⟩
        refine j_blx (F := fX11) tb_X11 (nn_ _) bk_X11_isBanned_f_256 bs_X11_isBanned_f_256 hz (fun K hK => ?_)
        refine hK 22 [some (vR 111 0), some (vI p), some (vI mx), some (vI (T 230 0 mx)), some (vI de4), some (vI ye4), some (vI x1), none, none, none] [] T ?_
        refine ih_22 _ ?_ de4 ye4 x1 (Nat.le_refl _) ?_ ?_ ?_
        · have hm_22 := hm_22 (); (have zm : m ≠ -1 := by omega); rw [if_neg zm] at hm_22; split <;> omega
        · omega
        · rcases nx1 with y | y
          · exact Or.inl y.1
          · exact Or.inr ⟨y.1.1, y.1.2.1, y.1.2.2.2⟩
        · intro B a b
          have nn9 := nx1
          rw [cz_f (by omega)] at nn9
          have bp9 : T 234 0 m * 400 + m + 1 ≤ B := by
            by_cases z : x1 = -1
            · rw [b z]; omega
            · rw [a z]; rcases nn9 with y | y
              · omega
              · have y2 : T 234 0 m * 400 + m < T 234 0 x1 * 400 + x1 := y.1.2.2.1; omega
          rw [bf_i (A := T 234 0 m * 400 + m + 1) (B := B) (by omega) bp9 (fun m9 a1 a2 a3 a4 a5 => bn_0 nn9 (by omega) a b a1 a2 (show T 234 0 m * 400 + m < T 234 0 m9 * 400 + m9 from by have a6 : T 234 0 m * 400 + m + 1 ≤ T 234 0 m9 * 400 + m9 := a4; omega) a5)]
          exact fo4
      have c_241 : ∀ (v : Int) (de3 : Int) (ye3 : Int), (0 ≤ m ∧ m < 400 ∧ T 210 0 (T 230 0 mx) ≤ m ∧ m < T 210 0 (T 230 0 mx) + T 211 0 (T 230 0 mx) ∧ m ≠ -1) → (rlR_ T p m) → (kdR_ T p m = 2) → (v = cz_ (0 < T 205 0 (23 * T 230 0 mx + 13) ∧ dq_ ye (T 205 0 (23 * T 230 0 mx + 13)) < dq_ ye3 (T 205 0 (23 * T 230 0 mx + 13))) 1 0) → (de3 = wr_ (de - cz_ (0 < de) 1 0)) → (ye3 = wr_ (ye + yvR_ T p m)) → J_ zX11_isBanned T (po_X11_isBanned_f T p mx) 0 0 241 [some (vR 111 0), some (vI p), some (vI mx), some (vI (T 230 0 mx)), some (vI de3), some (vI ye), some (vI m), none, none, some (vI ye3)] [vI v, vI de3] T := by
        intro v de3 ye3 m2 rl9 kd9 v9 de3e ye3e
        have hdm9 : 0 ≤ T 234 0 m ∧ T 234 0 m ≤ 999 := bd_a hT 234 (by decide +kernel : ta_ 234 = some (1, some 400, 0, 999)) 0 (by omega)
        refine j_blx (F := fX11) tb_X11 (nn_ _) bk_X11_isBanned_f_241 bs_X11_isBanned_f_241 hz (fun K hK => ?_)
        intro w2 w2b
        refine hK 248 [some (vR 111 0), some (vI p), some (vI mx), some (vI (T 230 0 mx)), some (vI (wr_ (de3 + v))), some (vI ye3), some (vI m), none, none, some (vI ye3)] [] T ?_
        refine j_drq [some (vR 111 0), some (vI p), some (vI mx), some (vI (T 230 0 mx)), some (vI (wr_ (de3 + v))), some (vI ye3), some (vI m), none, none, none] (drq_s (drq_s (drq_s (drq_s (drq_s (drq_s (drq_s (drq_n (drq_n (drq_n drq_0)))))))))) ?_
        refine c_248 (wr_ (de3 + v)) ye3 ?_ ?_
        · omega
        · have fk := fo (T 234 0 m * 400 + m) (fun _ => rfl) (fun z => absurd z (by omega))
          have g9 := bf_s (day := (fun m => T 234 0 m)) (rel := rlR_ T p) (st := (sbn_ (T 205 0 (23 * T 230 0 mx + 14)) (T 205 0 (23 * T 230 0 mx + 13)) (kdR_ T p) (yvR_ T p))) (f := T 210 0 (T 230 0 mx)) (n := T 211 0 (T 230 0 mx)) (m := m) (by omega) (by omega) hdm9.1 (by omega) (by omega) rl9
          refine Eq.trans ?_ g9.symm
          show _ = sbn_ _ _ _ _ m (bf_ _ _ _ _ _ (T 234 0 m * 400 + m).toNat)
          rw [← fk]
          rw [sbn_2 kd9, v9, de3e, ye3e]
      have c_160 : ∀ (sl : Int) (de2 : Int), (0 ≤ m ∧ m < 400 ∧ T 210 0 (T 230 0 mx) ≤ m ∧ m < T 210 0 (T 230 0 mx) + T 211 0 (T 230 0 mx) ∧ m ≠ -1) → (-1 ≤ sl ∧ sl < 8000 ∧ T 235 0 m = 2) → (rlR_ T p m) → (sl = slc_ T m p) → (de2 = wr_ (de - cz_ (0 < de) 1 0)) → J_ zX11_isBanned T (po_X11_isBanned_f T p mx) 0 0 160 [some (vR 111 0), some (vI p), some (vI mx), some (vI (T 230 0 mx)), some (vI de2), some (vI ye), some (vI m), none, none, none] [vI sl] T := by
        intro sl de2 m2 m3 rl9 sle de2e
        have hdm9 : 0 ≤ T 234 0 m ∧ T 234 0 m ≤ 999 := bd_a hT 234 (by decide +kernel : ta_ 234 = some (1, some 400, 0, 999)) 0 (by omega)
        refine j_blx (F := fX11) tb_X11 (nn_ _) bk_X11_isBanned_f_160 bs_X11_isBanned_f_160 hz (fun K hK => ?_)
        refine And.intro (fun c3 => ?_) (fun c3 => ?_)
        · refine hK 193 [some (vR 111 0), some (vI p), some (vI mx), some (vI (T 230 0 mx)), some (vI de2), some (vI ye), some (vI m), none, some (vI sl), none] [] T ?_
          refine j_blx (F := fX11) tb_X11 (nn_ _) bk_X11_isBanned_f_193 bs_X11_isBanned_f_193 hz (fun K hK => ?_)
          refine And.intro (fun c4 => ?_) (fun c4 => ?_)
          · refine hK 248 _ [] T ?_
            refine j_drq [some (vR 111 0), some (vI p), some (vI mx), some (vI (T 230 0 mx)), some (vI de2), some (vI ye), some (vI m), none, none, none] (drq_s (drq_s (drq_s (drq_s (drq_s (drq_s (drq_s (drq_n (drq_n (drq_n drq_0)))))))))) ?_
            refine c_248 de2 ye ?_ ?_
            · omega
            · have fk := fo (T 234 0 m * 400 + m) (fun _ => rfl) (fun z => absurd z (by omega))
              have g9 := bf_s (day := (fun m => T 234 0 m)) (rel := rlR_ T p) (st := (sbn_ (T 205 0 (23 * T 230 0 mx + 14)) (T 205 0 (23 * T 230 0 mx + 13)) (kdR_ T p) (yvR_ T p))) (f := T 210 0 (T 230 0 mx)) (n := T 211 0 (T 230 0 mx)) (m := m) (by omega) (by omega) hdm9.1 (by omega) (by omega) rl9
              refine Eq.trans ?_ g9.symm
              show _ = sbn_ _ _ _ _ m (bf_ _ _ _ _ _ (T 234 0 m * 400 + m).toNat)
              rw [← fk]
              rw [sbn_0 (by rw [kdR_0 (by omega)]; decide) (by rw [kdR_0 (by omega)]; decide), de2e]
          · refine ix_i (by omega) ?_
            intro b5 b5b
            intro w6 w6b
            refine hK 219 [some (vR 111 0), some (vI p), some (vI mx), some (vI (T 230 0 mx)), some (vI de2), some (vI ye), some (vI m), none, some (vI sl), some (vI (wr_ (ye + (T 242 0 sl))))] [vI 13, vI (T 230 0 mx), vR 111 0, vI (wr_ (ye + (T 242 0 sl))), vI de2] T ?_
            refine j_callV (y := yX11_rule0) (Yc := zX11_rule0) (rest := [vI (wr_ (ye + (T 242 0 sl))), vI de2]) [vI (T 230 0 mx), vI 13] (ct_X11_rule0 (T := T) (by omega) (by omega)) cl_X11_321 (qd_c (by decide +kernel)) (nn_ _) rfl (rf_of rfl) (Nat.le_of_ble_eq_true rfl) (Nat.le_of_ble_eq_true rfl) (Nat.le_of_ble_eq_true rfl) rfl ?_
            rintro _ _ ⟨rfl, rfl⟩
            show J_ zX11_isBanned T (po_X11_isBanned_f T p mx) 0 0 222 _ [vI (T 205 0 (23 * (T 230 0 mx) + 13)), vI (wr_ (ye + (T 242 0 sl))), vI de2] T
            refine j_blx (F := fX11) tb_X11 (nn_ _) bk_X11_isBanned_f_222 bs_X11_isBanned_f_222 hz (fun K hK => ?_)
            refine And.intro (by omega) (fun w7 w7b => ?_)
            refine hK 229 _ [vI 13, vI (T 230 0 mx), vR 111 0, vI ye, vI (dq_ (wr_ (ye + (T 242 0 sl))) (T 205 0 (23 * (T 230 0 mx) + 13))), vI de2] T ?_
            refine j_callV (y := yX11_rule0) (Yc := zX11_rule0) (rest := [vI ye, vI (dq_ (wr_ (ye + (T 242 0 sl))) (T 205 0 (23 * (T 230 0 mx) + 13))), vI de2]) [vI (T 230 0 mx), vI 13] (ct_X11_rule0 (T := T) (by omega) (by omega)) cl_X11_321 (qd_c (by decide +kernel)) (nn_ _) rfl (rf_of rfl) (Nat.le_of_ble_eq_true rfl) (Nat.le_of_ble_eq_true rfl) (Nat.le_of_ble_eq_true rfl) rfl ?_
            rintro _ _ ⟨rfl, rfl⟩
            show J_ zX11_isBanned T (po_X11_isBanned_f T p mx) 0 0 232 _ [vI (T 205 0 (23 * (T 230 0 mx) + 13)), vI ye, vI (dq_ (wr_ (ye + (T 242 0 sl))) (T 205 0 (23 * (T 230 0 mx) + 13))), vI de2] T
            refine j_blx (F := fX11) tb_X11 (nn_ _) bk_X11_isBanned_f_232 bs_X11_isBanned_f_232 hz (fun K hK => ?_)
            refine And.intro (by omega) (fun w8 w8b => ?_)
            refine And.intro (fun c9 => ?_) (fun c9 => ?_)
            · refine hK 240 _ [vI de2] T ?_
              refine j_blx (F := fX11) tb_X11 (nn_ _) bk_X11_isBanned_f_240 bs_X11_isBanned_f_240 hz (fun K hK => ?_)
              refine hK 241 _ [vI 0, vI de2] T ?_
              refine j_drq [some (vR 111 0), some (vI p), some (vI mx), some (vI (T 230 0 mx)), some (vI de2), some (vI ye), some (vI m), none, none, some (vI (wr_ (ye + (T 242 0 sl))))] (drq_s (drq_s (drq_s (drq_s (drq_s (drq_s (drq_s (drq_n (drq_n (drq_s drq_0)))))))))) ?_
              refine c_241 0 de2 (wr_ (ye + (T 242 0 sl))) ?_ ?_ ?_ ?_ ?_ ?_
              · omega
              · first
                | exact rl9
                | (unfold rlR_; omega)
              · exact kdR_2 (by omega) (by rw [← sle]; omega)
              · rw [cz_f (by omega)]
              · exact de2e
              · unfold yvR_
                rw [← sle]
            · refine hK 241 [some (vR 111 0), some (vI p), some (vI mx), some (vI (T 230 0 mx)), some (vI de2), some (vI ye), some (vI m), none, some (vI sl), some (vI (wr_ (ye + (T 242 0 sl))))] [vI 1, vI de2] T ?_
              refine j_drq [some (vR 111 0), some (vI p), some (vI mx), some (vI (T 230 0 mx)), some (vI de2), some (vI ye), some (vI m), none, none, some (vI (wr_ (ye + (T 242 0 sl))))] (drq_s (drq_s (drq_s (drq_s (drq_s (drq_s (drq_s (drq_n (drq_n (drq_s drq_0)))))))))) ?_
              refine c_241 1 de2 (wr_ (ye + (T 242 0 sl))) ?_ ?_ ?_ ?_ ?_ ?_
              · omega
              · first
                | exact rl9
                | (unfold rlR_; omega)
              · exact kdR_2 (by omega) (by rw [← sle]; omega)
              · rw [cz_t (by omega)]
              · exact de2e
              · unfold yvR_
                rw [← sle]
        · refine ix_i (by omega) ?_
          intro b10 b10b
          refine And.intro (fun c11 => ?_) (fun c11 => ?_)
          · refine hK 193 _ [] T ?_
            refine j_blx (F := fX11) tb_X11 (nn_ _) bk_X11_isBanned_f_193 bs_X11_isBanned_f_193 hz (fun K hK => ?_)
            refine And.intro (fun c12 => ?_) (fun c12 => ?_)
            · refine hK 248 _ [] T ?_
              refine j_drq [some (vR 111 0), some (vI p), some (vI mx), some (vI (T 230 0 mx)), some (vI de2), some (vI ye), some (vI m), none, none, none] (drq_s (drq_s (drq_s (drq_s (drq_s (drq_s (drq_s (drq_n (drq_n (drq_n drq_0)))))))))) ?_
              refine c_248 de2 ye ?_ ?_
              · omega
              · have fk := fo (T 234 0 m * 400 + m) (fun _ => rfl) (fun z => absurd z (by omega))
                have g9 := bf_s (day := (fun m => T 234 0 m)) (rel := rlR_ T p) (st := (sbn_ (T 205 0 (23 * T 230 0 mx + 14)) (T 205 0 (23 * T 230 0 mx + 13)) (kdR_ T p) (yvR_ T p))) (f := T 210 0 (T 230 0 mx)) (n := T 211 0 (T 230 0 mx)) (m := m) (by omega) (by omega) hdm9.1 (by omega) (by omega) rl9
                refine Eq.trans ?_ g9.symm
                show _ = sbn_ _ _ _ _ m (bf_ _ _ _ _ _ (T 234 0 m * 400 + m).toNat)
                rw [← fk]
                rw [sbn_0 (by rw [kdR_0 (by omega)]; decide) (by rw [kdR_0 (by omega)]; decide), de2e]
            · refine ix_i (by omega) ?_
              intro b13 b13b
              intro w14 w14b
              refine hK 219 [some (vR 111 0), some (vI p), some (vI mx), some (vI (T 230 0 mx)), some (vI de2), some (vI ye), some (vI m), none, some (vI sl), some (vI (wr_ (ye + (T 242 0 sl))))] [vI 13, vI (T 230 0 mx), vR 111 0, vI (wr_ (ye + (T 242 0 sl))), vI de2] T ?_
              refine j_callV (y := yX11_rule0) (Yc := zX11_rule0) (rest := [vI (wr_ (ye + (T 242 0 sl))), vI de2]) [vI (T 230 0 mx), vI 13] (ct_X11_rule0 (T := T) (by omega) (by omega)) cl_X11_321 (qd_c (by decide +kernel)) (nn_ _) rfl (rf_of rfl) (Nat.le_of_ble_eq_true rfl) (Nat.le_of_ble_eq_true rfl) (Nat.le_of_ble_eq_true rfl) rfl ?_
              rintro _ _ ⟨rfl, rfl⟩
              show J_ zX11_isBanned T (po_X11_isBanned_f T p mx) 0 0 222 _ [vI (T 205 0 (23 * (T 230 0 mx) + 13)), vI (wr_ (ye + (T 242 0 sl))), vI de2] T
              refine j_blx (F := fX11) tb_X11 (nn_ _) bk_X11_isBanned_f_222 bs_X11_isBanned_f_222 hz (fun K hK => ?_)
              refine And.intro (by omega) (fun w15 w15b => ?_)
              refine hK 229 _ [vI 13, vI (T 230 0 mx), vR 111 0, vI ye, vI (dq_ (wr_ (ye + (T 242 0 sl))) (T 205 0 (23 * (T 230 0 mx) + 13))), vI de2] T ?_
              refine j_callV (y := yX11_rule0) (Yc := zX11_rule0) (rest := [vI ye, vI (dq_ (wr_ (ye + (T 242 0 sl))) (T 205 0 (23 * (T 230 0 mx) + 13))), vI de2]) [vI (T 230 0 mx), vI 13] (ct_X11_rule0 (T := T) (by omega) (by omega)) cl_X11_321 (qd_c (by decide +kernel)) (nn_ _) rfl (rf_of rfl) (Nat.le_of_ble_eq_true rfl) (Nat.le_of_ble_eq_true rfl) (Nat.le_of_ble_eq_true rfl) rfl ?_
              rintro _ _ ⟨rfl, rfl⟩
              show J_ zX11_isBanned T (po_X11_isBanned_f T p mx) 0 0 232 _ [vI (T 205 0 (23 * (T 230 0 mx) + 13)), vI ye, vI (dq_ (wr_ (ye + (T 242 0 sl))) (T 205 0 (23 * (T 230 0 mx) + 13))), vI de2] T
              refine j_blx (F := fX11) tb_X11 (nn_ _) bk_X11_isBanned_f_232 bs_X11_isBanned_f_232 hz (fun K hK => ?_)
              refine And.intro (by omega) (fun w16 w16b => ?_)
              refine And.intro (fun c17 => ?_) (fun c17 => ?_)
              · refine hK 240 _ [vI de2] T ?_
                refine j_blx (F := fX11) tb_X11 (nn_ _) bk_X11_isBanned_f_240 bs_X11_isBanned_f_240 hz (fun K hK => ?_)
                refine hK 241 _ [vI 0, vI de2] T ?_
                refine j_drq [some (vR 111 0), some (vI p), some (vI mx), some (vI (T 230 0 mx)), some (vI de2), some (vI ye), some (vI m), none, none, some (vI (wr_ (ye + (T 242 0 sl))))] (drq_s (drq_s (drq_s (drq_s (drq_s (drq_s (drq_s (drq_n (drq_n (drq_s drq_0)))))))))) ?_
                refine c_241 0 de2 (wr_ (ye + (T 242 0 sl))) ?_ ?_ ?_ ?_ ?_ ?_
                · omega
                · first
                  | exact rl9
                  | (unfold rlR_; omega)
                · exact kdR_2 (by omega) (by rw [← sle]; omega)
                · rw [cz_f (by omega)]
                · exact de2e
                · unfold yvR_
                  rw [← sle]
              · refine hK 241 [some (vR 111 0), some (vI p), some (vI mx), some (vI (T 230 0 mx)), some (vI de2), some (vI ye), some (vI m), none, some (vI sl), some (vI (wr_ (ye + (T 242 0 sl))))] [vI 1, vI de2] T ?_
                refine j_drq [some (vR 111 0), some (vI p), some (vI mx), some (vI (T 230 0 mx)), some (vI de2), some (vI ye), some (vI m), none, none, some (vI (wr_ (ye + (T 242 0 sl))))] (drq_s (drq_s (drq_s (drq_s (drq_s (drq_s (drq_s (drq_n (drq_n (drq_s drq_0)))))))))) ?_
                refine c_241 1 de2 (wr_ (ye + (T 242 0 sl))) ?_ ?_ ?_ ?_ ?_ ?_
                · omega
                · first
                  | exact rl9
                  | (unfold rlR_; omega)
                · exact kdR_2 (by omega) (by rw [← sle]; omega)
                · rw [cz_t (by omega)]
                · exact de2e
                · unfold yvR_
                  rw [← sle]
          · refine hK 184 _ [vI 14, vI (T 230 0 mx), vR 111 0, vI de2] T ?_
            refine j_callV (y := yX11_rule0) (Yc := zX11_rule0) (rest := [vI de2]) [vI (T 230 0 mx), vI 14] (ct_X11_rule0 (T := T) (by omega) (by omega)) cl_X11_321 (qd_c (by decide +kernel)) (nn_ _) rfl (rf_of rfl) (Nat.le_of_ble_eq_true rfl) (Nat.le_of_ble_eq_true rfl) (Nat.le_of_ble_eq_true rfl) rfl ?_
            rintro _ _ ⟨rfl, rfl⟩
            show J_ zX11_isBanned T (po_X11_isBanned_f T p mx) 0 0 187 _ [vI (T 205 0 (23 * (T 230 0 mx) + 14)), vI de2] T
            refine j_blx (F := fX11) tb_X11 (nn_ _) bk_X11_isBanned_f_187 bs_X11_isBanned_f_187 hz (fun K hK => ?_)
            intro w18 w18b
            refine hK 248 [some (vR 111 0), some (vI p), some (vI mx), some (vI (T 230 0 mx)), some (vI (wr_ (de2 + (T 205 0 (23 * (T 230 0 mx) + 14))))), some (vI ye), some (vI m), none, some (vI sl), none] [] T ?_
            refine j_drq [some (vR 111 0), some (vI p), some (vI mx), some (vI (T 230 0 mx)), some (vI (wr_ (de2 + (T 205 0 (23 * (T 230 0 mx) + 14))))), some (vI ye), some (vI m), none, none, none] (drq_s (drq_s (drq_s (drq_s (drq_s (drq_s (drq_s (drq_n (drq_n (drq_n drq_0)))))))))) ?_
            refine c_248 (wr_ (de2 + (T 205 0 (23 * (T 230 0 mx) + 14)))) ye ?_ ?_
            · omega
            · have fk := fo (T 234 0 m * 400 + m) (fun _ => rfl) (fun z => absurd z (by omega))
              have g9 := bf_s (day := (fun m => T 234 0 m)) (rel := rlR_ T p) (st := (sbn_ (T 205 0 (23 * T 230 0 mx + 14)) (T 205 0 (23 * T 230 0 mx + 13)) (kdR_ T p) (yvR_ T p))) (f := T 210 0 (T 230 0 mx)) (n := T 211 0 (T 230 0 mx)) (m := m) (by omega) (by omega) hdm9.1 (by omega) (by omega) rl9
              refine Eq.trans ?_ g9.symm
              show _ = sbn_ _ _ _ _ m (bf_ _ _ _ _ _ (T 234 0 m * 400 + m).toNat)
              rw [← fk]
              rw [sbn_1 (kdR_1 (by omega) (by rw [← sle]; omega)), de2e]
      have c_110 : ∀ (v : Int), (0 ≤ m ∧ m < 400 ∧ T 210 0 (T 230 0 mx) ≤ m ∧ m < T 210 0 (T 230 0 mx) + T 211 0 (T 230 0 mx) ∧ m ≠ -1) → (rlR_ T p m) → (v = cz_ (0 < de) 1 0) → J_ zX11_isBanned T (po_X11_isBanned_f T p mx) 0 0 110 [some (vR 111 0), some (vI p), some (vI mx), some (vI (T 230 0 mx)), some (vI de), some (vI ye), some (vI m), none, none, none] [vI v, vI de] T := by
        intro v m2 rl9 v1e
        have hdm9 : 0 ≤ T 234 0 m ∧ T 234 0 m ≤ 999 := bd_a hT 234 (by decide +kernel : ta_ 234 = some (1, some 400, 0, 999)) 0 (by omega)
        refine j_blx (F := fX11) tb_X11 (nn_ _) bk_X11_isBanned_f_110 bs_X11_isBanned_f_110 hz (fun K hK => ?_)
        intro w19 w19b
        refine ix_i (by omega) ?_
        intro b20 b20b
        refine And.intro (fun c21 => ?_) (fun c21 => ?_)
        · refine hK 248 [some (vR 111 0), some (vI p), some (vI mx), some (vI (T 230 0 mx)), some (vI (wr_ (de - v))), some (vI ye), some (vI m), none, none, none] [] T ?_
          refine c_248 (wr_ (de - v)) ye ?_ ?_
          · omega
          · have fk := fo (T 234 0 m * 400 + m) (fun _ => rfl) (fun z => absurd z (by omega))
            have g9 := bf_s (day := (fun m => T 234 0 m)) (rel := rlR_ T p) (st := (sbn_ (T 205 0 (23 * T 230 0 mx + 14)) (T 205 0 (23 * T 230 0 mx + 13)) (kdR_ T p) (yvR_ T p))) (f := T 210 0 (T 230 0 mx)) (n := T 211 0 (T 230 0 mx)) (m := m) (by omega) (by omega) hdm9.1 (by omega) (by omega) rl9
            refine Eq.trans ?_ g9.symm
            show _ = sbn_ _ _ _ _ m (bf_ _ _ _ _ _ (T 234 0 m * 400 + m).toNat)
            rw [← fk]
            rw [sbn_0 (by rw [kdR_0 (by omega)]; decide) (by rw [kdR_0 (by omega)]; decide), v1e]
        · refine rg_i (by omega) ?_
          refine hK 130 _ [vI p, vI (2 * m), vR 111 0] T ?_
          refine j_callV (y := yX11_slotOf) (Yc := zX11_slotOf) (rest := []) [vI (2 * m), vI p] (ct_X11_slotOf_e (T := T) (m := m) (s := 0) (by omega) ⟨by omega, by decide, by decide⟩) cl_X11_378 (qd_c (by decide +kernel)) (nn_ _) rfl (rf_of rfl) (Nat.le_of_ble_eq_true rfl) (Nat.le_of_ble_eq_true rfl) (Nat.le_of_ble_eq_true rfl) rfl ?_
          rintro _ _ ⟨rfl, x22, rfl, hx22, hx22e⟩
          have bx22 : x22 = -1 ∨ (10 * (2 * m) ≤ x22 ∧ x22 < 10 * (2 * m) + 10) := by
            rcases hx22 with z | z
            · exact Or.inl z.1
            · exact Or.inr ⟨z.1, z.2.1⟩
          clear hx22
          show J_ zX11_isBanned T (po_X11_isBanned_f T p mx) 0 0 133 _ [vI x22] T
          refine j_blx (F := fX11) tb_X11 (nn_ _) bk_X11_isBanned_f_133 bs_X11_isBanned_f_133 hz (fun K hK => ?_)
          refine And.intro (fun c23 => ?_) (fun c23 => ?_)
          · refine hK 149 _ [] T ?_
            refine j_blx (F := fX11) tb_X11 (nn_ _) bk_X11_isBanned_f_149 bs_X11_isBanned_f_149 hz (fun K hK => ?_)
            refine rg_i (by omega) ?_
            refine rg_i (by omega) ?_
            refine hK 157 _ [vI p, vI ((2 * m) + 1), vR 111 0] T ?_
            refine j_callV (y := yX11_slotOf) (Yc := zX11_slotOf) (rest := []) [vI ((2 * m) + 1), vI p] (ct_X11_slotOf_e (T := T) (m := m) (s := 1) (by omega) ⟨by omega, by decide, by decide⟩) cl_X11_378 (qd_c (by decide +kernel)) (nn_ _) rfl (rf_of rfl) (Nat.le_of_ble_eq_true rfl) (Nat.le_of_ble_eq_true rfl) (Nat.le_of_ble_eq_true rfl) rfl ?_
            rintro _ _ ⟨rfl, x24, rfl, hx24, hx24e⟩
            have bx24 : x24 = -1 ∨ (10 * ((2 * m) + 1) ≤ x24 ∧ x24 < 10 * ((2 * m) + 1) + 10) := by
              rcases hx24 with z | z
              · exact Or.inl z.1
              · exact Or.inr ⟨z.1, z.2.1⟩
            clear hx24
            show J_ zX11_isBanned T (po_X11_isBanned_f T p mx) 0 0 160 _ [vI x24] T
            refine c_160 x24 (wr_ (de - v)) ?_ ?_ ?_ ?_ ?_
            · omega
            · omega
            · first
              | exact rl9
              | (unfold rlR_; omega)
            · exact (slc_1 hx22e (by omega) hx24e).symm
            · rw [v1e]
          · refine rg_i (by omega) ?_
            refine hK 143 _ [vI p, vI (2 * m), vR 111 0] T ?_
            refine j_callV (y := yX11_slotOf) (Yc := zX11_slotOf) (rest := []) [vI (2 * m), vI p] (ct_X11_slotOf_e (T := T) (m := m) (s := 0) (by omega) ⟨by omega, by decide, by decide⟩) cl_X11_378 (qd_c (by decide +kernel)) (nn_ _) rfl (rf_of rfl) (Nat.le_of_ble_eq_true rfl) (Nat.le_of_ble_eq_true rfl) (Nat.le_of_ble_eq_true rfl) rfl ?_
            rintro _ _ ⟨rfl, x25, rfl, hx25, hx25e⟩
            have bx25 : x25 = -1 ∨ (10 * (2 * m) ≤ x25 ∧ x25 < 10 * (2 * m) + 10) := by
              rcases hx25 with z | z
              · exact Or.inl z.1
              · exact Or.inr ⟨z.1, z.2.1⟩
            clear hx25
            show J_ zX11_isBanned T (po_X11_isBanned_f T p mx) 0 0 146 _ [vI x25] T
            refine j_blx (F := fX11) tb_X11 (nn_ _) bk_X11_isBanned_f_146 bs_X11_isBanned_f_146 hz (fun K hK => ?_)
            refine hK 160 _ [vI x25] T ?_
            refine c_160 x25 (wr_ (de - v)) ?_ ?_ ?_ ?_ ?_
            · omega
            · omega
            · first
              | exact rl9
              | (unfold rlR_; omega)
            · exact (slc_0 hx25e (by omega)).symm
            · rw [v1e]
      have c_66 : ∀ (v : Int), (0 ≤ m ∧ m < 400 ∧ T 210 0 (T 230 0 mx) ≤ m ∧ m < T 210 0 (T 230 0 mx) + T 211 0 (T 230 0 mx) ∧ m ≠ -1) → (((T 235 0 m = 2 ∨ T 235 0 m = 3) ∧ v = co9_c T p (T 234 0 m)) ∨ (¬ (T 235 0 m = 2 ∨ T 235 0 m = 3) ∧ v = -1)) → (-1 ≤ v ∧ v ≤ 11) → J_ zX11_isBanned T (po_X11_isBanned_f T p mx) 0 0 66 [some (vR 111 0), some (vI p), some (vI mx), some (vI (T 230 0 mx)), some (vI de), some (vI ye), some (vI m), none, none, none] [vI v] T := by
        intro v m2 v66 v67
        have hdm9 : 0 ≤ T 234 0 m ∧ T 234 0 m ≤ 999 := bd_a hT 234 (by decide +kernel : ta_ 234 = some (1, some 400, 0, 999)) 0 (by omega)
        refine j_blx (F := fX11) tb_X11 (nn_ _) bk_X11_isBanned_f_66 bs_X11_isBanned_f_66 hz (fun K hK => ?_)
        refine And.intro (fun c26 => ?_) (fun c26 => ?_)
        · refine hK 248 [some (vR 111 0), some (vI p), some (vI mx), some (vI (T 230 0 mx)), some (vI de), some (vI ye), some (vI m), some (vI v), none, none] [] T ?_
          refine j_drq [some (vR 111 0), some (vI p), some (vI mx), some (vI (T 230 0 mx)), some (vI de), some (vI ye), some (vI m), none, none, none] (drq_s (drq_s (drq_s (drq_s (drq_s (drq_s (drq_s (drq_n (drq_n (drq_n drq_0)))))))))) ?_
          refine c_248 de ye ?_ ?_
          · omega
          · have fk := fo (T 234 0 m * 400 + m) (fun _ => rfl) (fun z => absurd z (by omega))
            have nr : ¬ rlR_ T p m := fun z => by
              unfold rlR_ at z
              omega
            have g9 := bf_n (day := (fun m => T 234 0 m)) (rel := rlR_ T p) (st := (sbn_ (T 205 0 (23 * T 230 0 mx + 14)) (T 205 0 (23 * T 230 0 mx + 13)) (kdR_ T p) (yvR_ T p))) (f := T 210 0 (T 230 0 mx)) (n := T 211 0 (T 230 0 mx)) (m := m) (by omega) (by omega) hdm9.1 nr
            exact fk.trans g9.symm
        · refine ix_i (by omega) ?_
          intro b27 b27b
          refine And.intro (fun c28 => ?_) (fun c28 => ?_)
          · refine hK 98 [some (vR 111 0), some (vI p), some (vI mx), some (vI (T 230 0 mx)), some (vI de), some (vI ye), some (vI m), some (vI v), none, none] [] T ?_
            have rl9 : rlR_ T p m := by
              unfold rlR_
              omega
            refine j_blx (F := fX11) tb_X11 (nn_ _) bk_X11_isBanned_f_98 bs_X11_isBanned_f_98 hz (fun K hK => ?_)
            refine And.intro (fun c29 => ?_) (fun c29 => ?_)
            · refine hK 109 _ [vI de] T ?_
              refine j_blx (F := fX11) tb_X11 (nn_ _) bk_X11_isBanned_f_109 bs_X11_isBanned_f_109 hz (fun K hK => ?_)
              refine hK 110 _ [vI 0, vI de] T ?_
              refine j_drq [some (vR 111 0), some (vI p), some (vI mx), some (vI (T 230 0 mx)), some (vI de), some (vI ye), some (vI m), none, none, none] (drq_s (drq_s (drq_s (drq_s (drq_s (drq_s (drq_s (drq_n (drq_n (drq_n drq_0)))))))))) ?_
              refine c_110 0 ?_ ?_ ?_
              · omega
              · first
                | exact rl9
                | (unfold rlR_; omega)
              · rw [cz_f (by omega)]
            · refine hK 110 [some (vR 111 0), some (vI p), some (vI mx), some (vI (T 230 0 mx)), some (vI de), some (vI ye), some (vI m), some (vI v), none, none] [vI 1, vI de] T ?_
              refine j_drq [some (vR 111 0), some (vI p), some (vI mx), some (vI (T 230 0 mx)), some (vI de), some (vI ye), some (vI m), none, none, none] (drq_s (drq_s (drq_s (drq_s (drq_s (drq_s (drq_s (drq_n (drq_n (drq_n drq_0)))))))))) ?_
              refine c_110 1 ?_ ?_ ?_
              · omega
              · first
                | exact rl9
                | (unfold rlR_; omega)
              · rw [cz_t (by omega)]
          · refine ix_i (by omega) ?_
            intro b30 b30b
            refine And.intro (fun c31 => ?_) (fun c31 => ?_)
            · refine hK 248 _ [] T ?_
              refine j_drq [some (vR 111 0), some (vI p), some (vI mx), some (vI (T 230 0 mx)), some (vI de), some (vI ye), some (vI m), none, none, none] (drq_s (drq_s (drq_s (drq_s (drq_s (drq_s (drq_s (drq_n (drq_n (drq_n drq_0)))))))))) ?_
              refine c_248 de ye ?_ ?_
              · omega
              · have fk := fo (T 234 0 m * 400 + m) (fun _ => rfl) (fun z => absurd z (by omega))
                have nr : ¬ rlR_ T p m := fun z => by
                  unfold rlR_ at z
                  omega
                have g9 := bf_n (day := (fun m => T 234 0 m)) (rel := rlR_ T p) (st := (sbn_ (T 205 0 (23 * T 230 0 mx + 14)) (T 205 0 (23 * T 230 0 mx + 13)) (kdR_ T p) (yvR_ T p))) (f := T 210 0 (T 230 0 mx)) (n := T 211 0 (T 230 0 mx)) (m := m) (by omega) (by omega) hdm9.1 nr
                exact fk.trans g9.symm
            · refine And.intro (fun c32 => ?_) (fun c32 => ?_)
              · refine hK 109 [some (vR 111 0), some (vI p), some (vI mx), some (vI (T 230 0 mx)), some (vI de), some (vI ye), some (vI m), some (vI v), none, none] [vI de] T ?_
                refine j_blx (F := fX11) tb_X11 (nn_ _) bk_X11_isBanned_f_109 bs_X11_isBanned_f_109 hz (fun K hK => ?_)
                refine hK 110 _ [vI 0, vI de] T ?_
                refine j_drq [some (vR 111 0), some (vI p), some (vI mx), some (vI (T 230 0 mx)), some (vI de), some (vI ye), some (vI m), none, none, none] (drq_s (drq_s (drq_s (drq_s (drq_s (drq_s (drq_s (drq_n (drq_n (drq_n drq_0)))))))))) ?_
                refine c_110 0 ?_ ?_ ?_
                · omega
                · first
                  | exact rl9
                  | (unfold rlR_; omega)
                · rw [cz_f (by omega)]
              · refine hK 110 [some (vR 111 0), some (vI p), some (vI mx), some (vI (T 230 0 mx)), some (vI de), some (vI ye), some (vI m), some (vI v), none, none] [vI 1, vI de] T ?_
                refine j_drq [some (vR 111 0), some (vI p), some (vI mx), some (vI (T 230 0 mx)), some (vI de), some (vI ye), some (vI m), none, none, none] (drq_s (drq_s (drq_s (drq_s (drq_s (drq_s (drq_s (drq_n (drq_n (drq_n drq_0)))))))))) ?_
                refine c_110 1 ?_ ?_ ?_
                · omega
                · first
                  | exact rl9
                  | (unfold rlR_; omega)
                · rw [cz_t (by omega)]
      refine j_blx (F := fX11) tb_X11 (nn_ _) bk_X11_isBanned_f_22 bs_X11_isBanned_f_22 hz (fun K hK => ?_)
      refine And.intro (fun c33 => ?_) (fun c33 => ?_)
      · refine hK 261 _ [] T ?_
        refine j_blx (F := fX11) tb_X11 (nn_ _) bk_X11_isBanned_f_261 bs_X11_isBanned_f_261 hz (fun K hK => ?_)
        refine And.intro (fun c34 => ?_) (fun c34 => ?_)
        · refine hK 270 _ [] T ?_
          refine j_blx (F := fX11) tb_X11 (nn_ _) bk_X11_isBanned_f_270 bs_X11_isBanned_f_270 hz (fun K hK => ?_)
          refine (show po_X11_isBanned_f T p mx T (some (vI 0)) from ?_)
          have fin := fo (T 234 0 mx * 400 + mx) (fun z => absurd (by omega) z) (fun _ => rfl)
          have eb : bnR_ T p mx = de := (congrArg Prod.fst fin).symm
          exact ⟨rfl, _, rfl, by rw [eb]; omega⟩
        · refine hK 271 _ [vI 1] T ?_
          refine j_blx (F := fX11) tb_X11 (nn_ _) bk_X11_isBanned_f_271 bs_X11_isBanned_f_271 hz (fun K hK => ?_)
          refine (show po_X11_isBanned_f T p mx T (some (vI 1)) from ?_)
          have fin := fo (T 234 0 mx * 400 + mx) (fun z => absurd (by omega) z) (fun _ => rfl)
          have eb : bnR_ T p mx = de := (congrArg Prod.fst fin).symm
          exact ⟨rfl, _, rfl, by rw [eb]; omega⟩
      · have hdm9 : 0 ≤ T 234 0 m ∧ T 234 0 m ≤ 999 := bd_a hT 234 (by decide +kernel : ta_ 234 = some (1, some 400, 0, 999)) 0 (by omega)
        refine ix_i (by omega) ?_
        intro b35 b35b
        refine And.intro (fun c36 => ?_) (fun c36 => ?_)
        · refine hK 50 _ [] T ?_
          refine j_blx (F := fX11) tb_X11 (nn_ _) bk_X11_isBanned_f_50 bs_X11_isBanned_f_50 hz (fun K hK => ?_)
          refine ix_i (by omega) ?_
          intro b37 b37b
          refine hK 59 _ [vI (T 234 0 m), vI p, vR 111 0] T ?_
          refine j_callV (y := yX11_clubOf) (Yc := zX11_clubOf) (rest := []) [vI p, vI (T 234 0 m)] (ct_X11_clubOf_e (T := T)) cl_X11_375 (qd_c (by decide +kernel)) (nn_ _) rfl (rf_of rfl) (Nat.le_of_ble_eq_true rfl) (Nat.le_of_ble_eq_true rfl) (Nat.le_of_ble_eq_true rfl) rfl ?_
          rintro _ _ ⟨rfl, x38, rfl, hx38⟩
          have bx38 := cnn_b hT (p := p) (d := (T 234 0 m)) (T 111 0 16).toNat
          have gx38 : -1 ≤ co9_c T p (T 234 0 m) ∧ co9_c T p (T 234 0 m) ≤ 11 := bx38
          show J_ zX11_isBanned T (po_X11_isBanned_f T p mx) 0 0 62 _ [vI x38] T
          refine j_blx (F := fX11) tb_X11 (nn_ _) bk_X11_isBanned_f_62 bs_X11_isBanned_f_62 hz (fun K hK => ?_)
          refine hK 66 _ [vI x38] T ?_
          refine c_66 x38 ?_ ?_ ?_
          · omega
          · omega
          · omega
        · refine ix_i (by omega) ?_
          intro b39 b39b
          refine And.intro (fun c40 => ?_) (fun c40 => ?_)
          · refine hK 65 _ [] T ?_
            refine j_blx (F := fX11) tb_X11 (nn_ _) bk_X11_isBanned_f_65 bs_X11_isBanned_f_65 hz (fun K hK => ?_)
            refine hK 66 _ [vI (-1)] T ?_
            refine c_66 (-1) ?_ ?_ ?_
            · omega
            · omega
            · omega
          · refine ix_i (by omega) ?_
            intro b41 b41b
            refine hK 59 _ [vI (T 234 0 m), vI p, vR 111 0] T ?_
            refine j_callV (y := yX11_clubOf) (Yc := zX11_clubOf) (rest := []) [vI p, vI (T 234 0 m)] (ct_X11_clubOf_e (T := T)) cl_X11_375 (qd_c (by decide +kernel)) (nn_ _) rfl (rf_of rfl) (Nat.le_of_ble_eq_true rfl) (Nat.le_of_ble_eq_true rfl) (Nat.le_of_ble_eq_true rfl) rfl ?_
            rintro _ _ ⟨rfl, x42, rfl, hx42⟩
            have bx42 := cnn_b hT (p := p) (d := (T 234 0 m)) (T 111 0 16).toNat
            have gx42 : -1 ≤ co9_c T p (T 234 0 m) ∧ co9_c T p (T 234 0 m) ≤ 11 := bx42
            show J_ zX11_isBanned T (po_X11_isBanned_f T p mx) 0 0 62 _ [vI x42] T
            refine j_blx (F := fX11) tb_X11 (nn_ _) bk_X11_isBanned_f_62 bs_X11_isBanned_f_62 hz (fun K hK => ?_)
            refine hK 66 _ [vI x42] T ?_
            refine c_66 x42 ?_ ?_ ?_
            · omega
            · omega
            · omega
  refine j_blx (F := fX11) tb_X11 (nn_ _) bk_X11_isBanned_f_0 bs_X11_isBanned_f_0 hz (fun K hK => ?_)
  refine ix_i (by omega) ?_
  intro b43 b43b
  refine hK 17 [some (vR 111 0), some (vI p), some (vI mx), some (vI (T 230 0 mx)), some (vI 0), some (vI 0), none, none, none, none] [vI mx, vI (-1), vI (T 230 0 mx), vR 111 0] T ?_
  refine j_callV (y := yX11_nextMatch) (Yc := zX11_nextMatch) (rest := []) [vI (T 230 0 mx), vI (-1), vI mx] (ct_X11_nextMatch_f (T := T) (by omega) (by omega) (by omega) (by omega)) cl_X11_371 (qd_c (by decide +kernel)) (nn_ _) rfl (rf_of rfl) (Nat.le_of_ble_eq_true rfl) (Nat.le_of_ble_eq_true rfl) (Nat.le_of_ble_eq_true rfl) rfl ?_
  rintro _ _ ⟨rfl, x44, rfl, hx44, nx44⟩
  show J_ zX11_isBanned T (po_X11_isBanned_f T p mx) 0 0 20 _ [vI x44] T
  refine j_blx (F := fX11) tb_X11 (nn_ _) bk_X11_isBanned_f_20 bs_X11_isBanned_f_20 hz (fun K hK => ?_)
  refine hK 22 [some (vR 111 0), some (vI p), some (vI mx), some (vI (T 230 0 mx)), some (vI 0), some (vI 0), some (vI x44), none, none, none] [] T ?_
  refine c_22 _ 0 0 x44 (Nat.le_refl _) ?_ ?_ ?_
  · omega
  · rcases nx44 with y | y
    · exact Or.inl y.1
    · exact Or.inr ⟨y.1.1, y.1.2.1, y.1.2.2.2⟩
  · intro B a b
    have nn9 := nx44
    rw [cz_t rfl] at nn9
    have bp9 : 0 ≤ B := by
      by_cases z : x44 = -1
      · rw [b z]; omega
      · rw [a z]; have := bd_a hT 234 (by decide +kernel : ta_ 234 = some (1, some 400, 0, 999)) 0 (show (0 : Int) ≤ x44 by omega); omega
    rw [bf_i (A := 0) (B := B) (by omega) bp9 (fun m9 a1 a2 a3 a4 a5 => bn_0 nn9 (by omega) a b a1 a2 (show (-1 : Int) < T 234 0 m9 * 400 + m9 from by have a6 : (0 : Int) ≤ T 234 0 m9 * 400 + m9 := a4; omega) a5)]
    rfl
theorem els_n {T : Zt} {p m : Int} (h : ∀ j, 0 ≤ j → j < T 111 0 29 → ¬ (j ≠ m ∧ T 234 0 j = T 234 0 m ∧ T 235 0 j ≠ 3 ∧ slc_ T j p ≠ -1)) : ¬ elsR_ T p m := fun ⟨k, a1, a2, a3, a4, a5, a6⟩ => h k a1 a2 ⟨a3, a4, a5, a6⟩
theorem bk_X11_isElsewhere_f_84 : ck_ fX11 (some .boolean) cX11_isElsewhere 84 [.istore 3, .iinc 4 1, .goto 5] 91 = true := qck_r (nn_ _) (by decide +kernel)
theorem bs_X11_isElsewhere_f_84 {P : Zt → Option Zv → Prop} (K : Int → Zl → List Zv → Zt → Prop) : sx_ K P [.istore 3, .iinc 4 1, .goto 5] 91 = x_istore 3 (x_iinc 4 1 (x_goto 5 K)) := ((xe_istore 3).trans (congrArg (x_istore 3) ((xe_iinc 4 1).trans (congrArg (x_iinc 4 1) (xe_goto 5)))))
theorem bk_X11_isElsewhere_f_5 : ck_ fX11 (some .boolean) cX11_isElsewhere 5 [.iload 4, .aload 0, .tableswitch 0 11 29 #[], .if_icmp .ge 91, .iload 3, .ifCond .ne 91, .iload 4, .iload 2, .if_icmp .eq 83, .aload 0, .tableswitch 0 11 34 #[], .iload 4, .iaload, .aload 0, .tableswitch 0 11 34 #[], .iload 2, .iaload, .if_icmp .ne 83, .aload 0, .tableswitch 0 11 35 #[], .iload 4, .iaload, .iconst 3, .if_icmp .eq 83, .aload 0, .iconst 2, .iload 4, .imul, .iload 1] 57 = true := qck_r (nn_ _) (by decide +kernel)
theorem bs_X11_isElsewhere_f_5 {P : Zt → Option Zv → Prop} (K : Int → Zl → List Zv → Zt → Prop) : sx_ K P [.iload 4, .aload 0, .tableswitch 0 11 29 #[], .if_icmp .ge 91, .iload 3, .ifCond .ne 91, .iload 4, .iload 2, .if_icmp .eq 83, .aload 0, .tableswitch 0 11 34 #[], .iload 4, .iaload, .aload 0, .tableswitch 0 11 34 #[], .iload 2, .iaload, .if_icmp .ne 83, .aload 0, .tableswitch 0 11 35 #[], .iload 4, .iaload, .iconst 3, .if_icmp .eq 83, .aload 0, .iconst 2, .iload 4, .imul, .iload 1] 57 = x_iload 4 (x_aload 0 (x_g0 111 29 0 400 (x_if_icmp .ge 91 K (x_iload 3 (x_ifCond .ne 91 K (x_iload 4 (x_iload 2 (x_if_icmp .eq 83 K (x_aload 0 (x_g1 111 234 (x_iload 4 (x_iaload (x_aload 0 (x_g1 111 234 (x_iload 2 (x_iaload (x_if_icmp .ne 83 K (x_aload 0 (x_g1 111 235 (x_iload 4 (x_iaload (x_iconst 3 (x_if_icmp .eq 83 K (x_aload 0 (x_iconst 2 (x_iload 4 (x_imul (x_iload 1 (K 57))))))))))))))))))))))))))))) := ((xe_iload 4).trans (congrArg (x_iload 4) ((xe_aload 0).trans (congrArg (x_aload 0) ((xe_g0 (kk := 111) rfl tl_11_29).trans (congrArg (x_g0 111 29 0 400) ((xe_if_icmp .ge 91).trans (congrArg (x_if_icmp .ge 91 K) ((xe_iload 3).trans (congrArg (x_iload 3) ((xe_ifCond .ne 91).trans (congrArg (x_ifCond .ne 91 K) ((xe_iload 4).trans (congrArg (x_iload 4) ((xe_iload 2).trans (congrArg (x_iload 2) ((xe_if_icmp .eq 83).trans (congrArg (x_if_icmp .eq 83 K) ((xe_aload 0).trans (congrArg (x_aload 0) ((xe_g1 (kk := 111) rfl tl_11_34).trans (congrArg (x_g1 111 234) ((xe_iload 4).trans (congrArg (x_iload 4) ((xe_iaload).trans (congrArg (x_iaload) ((xe_aload 0).trans (congrArg (x_aload 0) ((xe_g1 (kk := 111) rfl tl_11_34).trans (congrArg (x_g1 111 234) ((xe_iload 2).trans (congrArg (x_iload 2) ((xe_iaload).trans (congrArg (x_iaload) ((xe_if_icmp .ne 83).trans (congrArg (x_if_icmp .ne 83 K) ((xe_aload 0).trans (congrArg (x_aload 0) ((xe_g1 (kk := 111) rfl tl_11_35).trans (congrArg (x_g1 111 235) ((xe_iload 4).trans (congrArg (x_iload 4) ((xe_iaload).trans (congrArg (x_iaload) ((xe_iconst 3).trans (congrArg (x_iconst 3) ((xe_if_icmp .eq 83).trans (congrArg (x_if_icmp .eq 83 K) ((xe_aload 0).trans (congrArg (x_aload 0) ((xe_iconst 2).trans (congrArg (x_iconst 2) ((xe_iload 4).trans (congrArg (x_iload 4) ((xe_imul).trans (congrArg (x_imul) ((xe_iload 1).trans (congrArg (x_iload 1) xe_nil))))))))))))))))))))))))))))))))))))))))))))))))))))))))))
theorem bk_X11_isElsewhere_f_91 : ck_ fX11 (some .boolean) cX11_isElsewhere 91 [.iload 3, .ireturn] 93 = true := qck_r (nn_ _) (by decide +kernel)
theorem bs_X11_isElsewhere_f_91 {P : Zt → Option Zv → Prop} (K : Int → Zl → List Zv → Zt → Prop) : sx_ K P [.iload 3, .ireturn] 93 = x_iload 3 (x_ireturn P) := ((xe_iload 3).trans (congrArg (x_iload 3) (xe_ireturn)))
theorem bk_X11_isElsewhere_f_83 : ck_ fX11 (some .boolean) cX11_isElsewhere 83 [.iconst 0] 84 = true := qck_r (nn_ _) (by decide +kernel)
theorem bs_X11_isElsewhere_f_83 {P : Zt → Option Zv → Prop} (K : Int → Zl → List Zv → Zt → Prop) : sx_ K P [.iconst 0] 84 = x_iconst 0 (K 84) := ((xe_iconst 0).trans (congrArg (x_iconst 0) xe_nil))
theorem bk_X11_isElsewhere_f_60 : ck_ fX11 (some .boolean) cX11_isElsewhere 60 [.iconst (-1), .if_icmp .ne 79, .aload 0, .iconst 2, .iload 4, .imul, .iconst 1, .iadd, .iload 1] 72 = true := qck_r (nn_ _) (by decide +kernel)
theorem bs_X11_isElsewhere_f_60 {P : Zt → Option Zv → Prop} (K : Int → Zl → List Zv → Zt → Prop) : sx_ K P [.iconst (-1), .if_icmp .ne 79, .aload 0, .iconst 2, .iload 4, .imul, .iconst 1, .iadd, .iload 1] 72 = x_iconst (-1) (x_if_icmp .ne 79 K (x_aload 0 (x_iconst 2 (x_iload 4 (x_imul (x_iconst 1 (x_iadd (x_iload 1 (K 72))))))))) := ((xe_iconst (-1)).trans (congrArg (x_iconst (-1)) ((xe_if_icmp .ne 79).trans (congrArg (x_if_icmp .ne 79 K) ((xe_aload 0).trans (congrArg (x_aload 0) ((xe_iconst 2).trans (congrArg (x_iconst 2) ((xe_iload 4).trans (congrArg (x_iload 4) ((xe_imul).trans (congrArg (x_imul) ((xe_iconst 1).trans (congrArg (x_iconst 1) ((xe_iadd).trans (congrArg (x_iadd) ((xe_iload 1).trans (congrArg (x_iload 1) xe_nil))))))))))))))))))
theorem bk_X11_isElsewhere_f_79 : ck_ fX11 (some .boolean) cX11_isElsewhere 79 [.iconst 1, .goto 84] 83 = true := qck_r (nn_ _) (by decide +kernel)
theorem bs_X11_isElsewhere_f_79 {P : Zt → Option Zv → Prop} (K : Int → Zl → List Zv → Zt → Prop) : sx_ K P [.iconst 1, .goto 84] 83 = x_iconst 1 (x_goto 84 K) := ((xe_iconst 1).trans (congrArg (x_iconst 1) (xe_goto 84)))
theorem bk_X11_isElsewhere_f_75 : ck_ fX11 (some .boolean) cX11_isElsewhere 75 [.iconst (-1), .if_icmp .eq 83, .iconst 1, .goto 84] 83 = true := qck_r (nn_ _) (by decide +kernel)
theorem bs_X11_isElsewhere_f_75 {P : Zt → Option Zv → Prop} (K : Int → Zl → List Zv → Zt → Prop) : sx_ K P [.iconst (-1), .if_icmp .eq 83, .iconst 1, .goto 84] 83 = x_iconst (-1) (x_if_icmp .eq 83 K (x_iconst 1 (x_goto 84 K))) := ((xe_iconst (-1)).trans (congrArg (x_iconst (-1)) ((xe_if_icmp .eq 83).trans (congrArg (x_if_icmp .eq 83 K) ((xe_iconst 1).trans (congrArg (x_iconst 1) (xe_goto 84)))))))
theorem bk_X11_isElsewhere_f_0 : ck_ fX11 (some .boolean) cX11_isElsewhere 0 [.iconst 0, .istore 3, .iconst 0, .istore 4] 5 = true := qck_r (nn_ _) (by decide +kernel)
theorem bs_X11_isElsewhere_f_0 {P : Zt → Option Zv → Prop} (K : Int → Zl → List Zv → Zt → Prop) : sx_ K P [.iconst 0, .istore 3, .iconst 0, .istore 4] 5 = x_iconst 0 (x_istore 3 (x_iconst 0 (x_istore 4 (K 5)))) := ((xe_iconst 0).trans (congrArg (x_iconst 0) ((xe_istore 3).trans (congrArg (x_istore 3) ((xe_iconst 0).trans (congrArg (x_iconst 0) ((xe_istore 4).trans (congrArg (x_istore 4) xe_nil))))))))
abbrev po_X11_isElsewhere_f (T : Zt) (p m : Int) : Zt → Option Zv → Prop := fun T' r => T = T' ∧ ∃ x : Int, r = some (vI x) ∧ ((x = 1 ∧ elsR_ T p m) ∨ (x = 0 ∧ ¬ elsR_ T p m))
set_option maxHeartbeats 4000000 in
theorem ct_X11_isElsewhere_f {T : Zt} {p m : Int} (h1 : 0 ≤ m ∧ m < 400) : Ct_ yX11_isElsewhere zX11_isElsewhere T [vR 111 0, vI p, vI m] (po_X11_isElsewhere_f T p m) := by
  refine ct_of pn_11 rfl rfl (Nat.le_of_ble_eq_true rfl) (fun hT hav => ?_)
  have hr_p : -2147483648 ≤ p ∧ p ≤ 2147483647 := hav (vI p) (List.mem_cons_of_mem _ List.mem_cons_self)
  have hr_m : -2147483648 ≤ m ∧ m ≤ 2147483647 := hav (vI m) (List.mem_cons_of_mem _ (List.mem_cons_of_mem _ List.mem_cons_self))
  have hz : zX11_isElsewhere.2.2.2.1 = some .boolean → ∀ (T' : Zt) (x : Int), po_X11_isElsewhere_f T p m T' (some (vI x)) → 0 ≤ x ∧ x ≤ 1 := fun _ T' x h => by obtain ⟨-, y, e, hy⟩ := h; cases e; rcases hy with z | z <;> omega
  have hb_29 : 0 ≤ T 111 0 29 ∧ T 111 0 29 ≤ 400 := bd_f hT 111 29 tl_11_29 0
  show J_ zX11_isElsewhere T (po_X11_isElsewhere_f T p m) 0 0 0 [some (vR 111 0), some (vI p), some (vI m), none, none] [] T
  have c_5 : ∀ (nn : Nat) (is : Int) (k : Int), ((400 - k).toNat) ≤ nn → (0 ≤ k ∧ (k = 0 ∨ k ≤ T 111 0 29) ∧ 0 ≤ is ∧ is ≤ 1) → ((is = 1 ∧ elsR_ T p m) ∨ (is = 0 ∧ ∀ j, 0 ≤ j → j < k → ¬ (j ≠ m ∧ T 234 0 j = T 234 0 m ∧ T 235 0 j ≠ 3 ∧ slc_ T j p ≠ -1))) → J_ zX11_isElsewhere T (po_X11_isElsewhere_f T p m) 0 0 5 [some (vR 111 0), some (vI p), some (vI m), some (vI is), some (vI k)] [] T := by
    intro nn
    induction nn using Nat.strongRecOn with
    | _ nn ih_5 =>
      intro is k hm_5 i1 i2
      replace hm_5 := fun (_ : Unit) => hm_5
      have c_84 : ∀ (v : Int), (0 ≤ k ∧ k < T 111 0 29 ∧ 0 ≤ v ∧ v ≤ 1 ∧ is = 0) → ((v = 1 ∧ elsR_ T p m) ∨ (v = 0 ∧ ∀ j, 0 ≤ j → j < k + 1 → ¬ (j ≠ m ∧ T 234 0 j = T 234 0 m ∧ T 235 0 j ≠ 3 ∧ slc_ T j p ≠ -1))) → J_ zX11_isElsewhere T (po_X11_isElsewhere_f T p m) 0 0 84 [some (vR 111 0), some (vI p), some (vI m), some (vI is), some (vI k)] [vI v] T := by
        intro v v83 v84
        refine j_blx (F := fX11) tb_X11 (nn_ _) bk_X11_isElsewhere_f_84 bs_X11_isElsewhere_f_84 hz (fun K hK => ?_)
        refine rg_i (by omega) ?_
        refine hK 5 [some (vR 111 0), some (vI p), some (vI m), some (vI v), some (vI (k + 1))] [] T ?_
        refine ih_5 _ ?_ v (k + 1) (Nat.le_refl _) ?_ ?_
        · have hm_5 := hm_5 (); omega
        · omega
        · exact v84
      refine j_blx (F := fX11) tb_X11 (nn_ _) bk_X11_isElsewhere_f_5 bs_X11_isElsewhere_f_5 hz (fun K hK => ?_)
      intro b1 b1b
      refine And.intro (fun c2 => ?_) (fun c2 => ?_)
      · refine hK 91 _ [] T ?_
        refine j_blx (F := fX11) tb_X11 (nn_ _) bk_X11_isElsewhere_f_91 bs_X11_isElsewhere_f_91 hz (fun K hK => ?_)
        refine (show po_X11_isElsewhere_f T p m T (some (vI is)) from ?_)
        rcases i2 with z | z
        · exact ⟨rfl, _, rfl, Or.inl ⟨z.1, z.2⟩⟩
        · exact ⟨rfl, _, rfl, Or.inr ⟨z.1, els_n (fun j a b => z.2 j a (by omega))⟩⟩
      · refine And.intro (fun c3 => ?_) (fun c3 => ?_)
        · refine hK 91 _ [] T ?_
          refine j_blx (F := fX11) tb_X11 (nn_ _) bk_X11_isElsewhere_f_91 bs_X11_isElsewhere_f_91 hz (fun K hK => ?_)
          refine (show po_X11_isElsewhere_f T p m T (some (vI is)) from ?_)
          rcases i2 with z | z
          · exact ⟨rfl, _, rfl, Or.inl ⟨z.1, z.2⟩⟩
          · exact ⟨rfl, _, rfl, Or.inr ⟨z.1, els_n (fun j a b => z.2 j a (by omega))⟩⟩
        · refine And.intro (fun c4 => ?_) (fun c4 => ?_)
          · refine hK 83 _ [] T ?_
            refine j_blx (F := fX11) tb_X11 (nn_ _) bk_X11_isElsewhere_f_83 bs_X11_isElsewhere_f_83 hz (fun K hK => ?_)
            refine hK 84 _ [vI 0] T ?_
            refine c_84 0 ?_ ?_
            · omega
            · refine Or.inr ⟨rfl, fun j a b c => ?_⟩
              by_cases z : j = k
              · rw [z] at c
                first
                | omega
                | (have y9 := c; omega)
              · exact (i2.resolve_left (fun y => by omega)).2 j a (by omega) c
          · refine ix_i (by omega) ?_
            intro b5 b5b
            refine ix_i (by omega) ?_
            intro b6 b6b
            refine And.intro (fun c7 => ?_) (fun c7 => ?_)
            · refine hK 83 _ [] T ?_
              refine j_blx (F := fX11) tb_X11 (nn_ _) bk_X11_isElsewhere_f_83 bs_X11_isElsewhere_f_83 hz (fun K hK => ?_)
              refine hK 84 _ [vI 0] T ?_
              refine c_84 0 ?_ ?_
              · omega
              · refine Or.inr ⟨rfl, fun j a b c => ?_⟩
                by_cases z : j = k
                · rw [z] at c
                  first
                  | omega
                  | (have y9 := c; omega)
                · exact (i2.resolve_left (fun y => by omega)).2 j a (by omega) c
            · refine ix_i (by omega) ?_
              intro b8 b8b
              refine And.intro (fun c9 => ?_) (fun c9 => ?_)
              · refine hK 83 _ [] T ?_
                refine j_blx (F := fX11) tb_X11 (nn_ _) bk_X11_isElsewhere_f_83 bs_X11_isElsewhere_f_83 hz (fun K hK => ?_)
                refine hK 84 _ [vI 0] T ?_
                refine c_84 0 ?_ ?_
                · omega
                · refine Or.inr ⟨rfl, fun j a b c => ?_⟩
                  by_cases z : j = k
                  · rw [z] at c
                    first
                    | omega
                    | (have y9 := c; omega)
                  · exact (i2.resolve_left (fun y => by omega)).2 j a (by omega) c
              · refine rg_i (by omega) ?_
                refine hK 57 _ [vI p, vI (2 * k), vR 111 0] T ?_
                refine j_callV (y := yX11_slotOf) (Yc := zX11_slotOf) (rest := []) [vI (2 * k), vI p] (ct_X11_slotOf_e (T := T) (m := k) (s := 0) (by omega) ⟨by omega, by decide, by decide⟩) cl_X11_378 (qd_c (by decide +kernel)) (nn_ _) rfl (rf_of rfl) (Nat.le_of_ble_eq_true rfl) (Nat.le_of_ble_eq_true rfl) (Nat.le_of_ble_eq_true rfl) rfl ?_
                rintro _ _ ⟨rfl, x10, rfl, hx10, hx10e⟩
                have bx10 : x10 = -1 ∨ (10 * (2 * k) ≤ x10 ∧ x10 < 10 * (2 * k) + 10) := by
                  rcases hx10 with z | z
                  · exact Or.inl z.1
                  · exact Or.inr ⟨z.1, z.2.1⟩
                clear hx10
                show J_ zX11_isElsewhere T (po_X11_isElsewhere_f T p m) 0 0 60 _ [vI x10] T
                refine j_blx (F := fX11) tb_X11 (nn_ _) bk_X11_isElsewhere_f_60 bs_X11_isElsewhere_f_60 hz (fun K hK => ?_)
                refine And.intro (fun c11 => ?_) (fun c11 => ?_)
                · refine hK 79 _ [] T ?_
                  refine j_blx (F := fX11) tb_X11 (nn_ _) bk_X11_isElsewhere_f_79 bs_X11_isElsewhere_f_79 hz (fun K hK => ?_)
                  refine hK 84 _ [vI 1] T ?_
                  refine c_84 1 ?_ ?_
                  · omega
                  · have sq : slc_ T k p ≠ -1 := by rw [slc_0 hx10e (by omega)]; omega
                    exact Or.inl ⟨rfl, ⟨k, by omega, by omega, by omega, by omega, by omega, sq⟩⟩
                · refine rg_i (by omega) ?_
                  refine rg_i (by omega) ?_
                  refine hK 72 _ [vI p, vI ((2 * k) + 1), vR 111 0] T ?_
                  refine j_callV (y := yX11_slotOf) (Yc := zX11_slotOf) (rest := []) [vI ((2 * k) + 1), vI p] (ct_X11_slotOf_e (T := T) (m := k) (s := 1) (by omega) ⟨by omega, by decide, by decide⟩) cl_X11_378 (qd_c (by decide +kernel)) (nn_ _) rfl (rf_of rfl) (Nat.le_of_ble_eq_true rfl) (Nat.le_of_ble_eq_true rfl) (Nat.le_of_ble_eq_true rfl) rfl ?_
                  rintro _ _ ⟨rfl, x12, rfl, hx12, hx12e⟩
                  have bx12 : x12 = -1 ∨ (10 * ((2 * k) + 1) ≤ x12 ∧ x12 < 10 * ((2 * k) + 1) + 10) := by
                    rcases hx12 with z | z
                    · exact Or.inl z.1
                    · exact Or.inr ⟨z.1, z.2.1⟩
                  clear hx12
                  show J_ zX11_isElsewhere T (po_X11_isElsewhere_f T p m) 0 0 75 _ [vI x12] T
                  refine j_blx (F := fX11) tb_X11 (nn_ _) bk_X11_isElsewhere_f_75 bs_X11_isElsewhere_f_75 hz (fun K hK => ?_)
                  refine And.intro (fun c13 => ?_) (fun c13 => ?_)
                  · have sq8 : slc_ T k p = -1 := by rw [slc_1 hx10e (by omega) hx12e]; omega
                    refine hK 83 _ [] T ?_
                    refine j_blx (F := fX11) tb_X11 (nn_ _) bk_X11_isElsewhere_f_83 bs_X11_isElsewhere_f_83 hz (fun K hK => ?_)
                    refine hK 84 _ [vI 0] T ?_
                    refine c_84 0 ?_ ?_
                    · omega
                    · refine Or.inr ⟨rfl, fun j a b c => ?_⟩
                      by_cases z : j = k
                      · rw [z] at c
                        first
                        | omega
                        | (have y9 := c; omega)
                      · exact (i2.resolve_left (fun y => by omega)).2 j a (by omega) c
                  · refine hK 84 _ [vI 1] T ?_
                    refine c_84 1 ?_ ?_
                    · omega
                    · have sq : slc_ T k p ≠ -1 := by rw [slc_1 hx10e (by omega) hx12e]; omega
                      exact Or.inl ⟨rfl, ⟨k, by omega, by omega, by omega, by omega, by omega, sq⟩⟩
  refine j_blx (F := fX11) tb_X11 (nn_ _) bk_X11_isElsewhere_f_0 bs_X11_isElsewhere_f_0 hz (fun K hK => ?_)
  refine hK 5 [some (vR 111 0), some (vI p), some (vI m), some (vI 0), some (vI 0)] [] T ?_
  refine c_5 _ 0 0 (Nat.le_refl _) ?_ ?_
  · omega
  · exact Or.inr ⟨rfl, fun j a b => by omega⟩
theorem bk_X11_whyNot_f_30 : ck_ fX11 (some .int) cX11_whyNot 30 [.if_icmp .eq 35, .iconst 1, .ireturn] 35 = true := qck_r (nn_ _) (by decide +kernel)
theorem bs_X11_whyNot_f_30 {P : Zt → Option Zv → Prop} (K : Int → Zl → List Zv → Zt → Prop) : sx_ K P [.if_icmp .eq 35, .iconst 1, .ireturn] 35 = x_if_icmp .eq 35 K (x_iconst 1 (x_ireturn P)) := ((xe_if_icmp .eq 35).trans (congrArg (x_if_icmp .eq 35 K) ((xe_iconst 1).trans (congrArg (x_iconst 1) (xe_ireturn)))))
theorem bk_X11_whyNot_f_35 : ck_ fX11 (some .int) cX11_whyNot 35 [.aload 0, .iload 1, .iload 2] 38 = true := qck_r (nn_ _) (by decide +kernel)
theorem bs_X11_whyNot_f_35 {P : Zt → Option Zv → Prop} (K : Int → Zl → List Zv → Zt → Prop) : sx_ K P [.aload 0, .iload 1, .iload 2] 38 = x_aload 0 (x_iload 1 (x_iload 2 (K 38))) := ((xe_aload 0).trans (congrArg (x_aload 0) ((xe_iload 1).trans (congrArg (x_iload 1) ((xe_iload 2).trans (congrArg (x_iload 2) xe_nil))))))
theorem bk_X11_whyNot_f_41 : ck_ fX11 (some .int) cX11_whyNot 41 [.ifCond .eq 46, .iconst 2, .ireturn] 46 = true := qck_r (nn_ _) (by decide +kernel)
theorem bs_X11_whyNot_f_41 {P : Zt → Option Zv → Prop} (K : Int → Zl → List Zv → Zt → Prop) : sx_ K P [.ifCond .eq 46, .iconst 2, .ireturn] 46 = x_ifCond .eq 46 K (x_iconst 2 (x_ireturn P)) := ((xe_ifCond .eq 46).trans (congrArg (x_ifCond .eq 46 K) ((xe_iconst 2).trans (congrArg (x_iconst 2) (xe_ireturn)))))
theorem bk_X11_whyNot_f_46 : ck_ fX11 (some .int) cX11_whyNot 46 [.aload 0, .iconst 2, .iload 2, .imul, .iload 1] 51 = true := qck_r (nn_ _) (by decide +kernel)
theorem bs_X11_whyNot_f_46 {P : Zt → Option Zv → Prop} (K : Int → Zl → List Zv → Zt → Prop) : sx_ K P [.aload 0, .iconst 2, .iload 2, .imul, .iload 1] 51 = x_aload 0 (x_iconst 2 (x_iload 2 (x_imul (x_iload 1 (K 51))))) := ((xe_aload 0).trans (congrArg (x_aload 0) ((xe_iconst 2).trans (congrArg (x_iconst 2) ((xe_iload 2).trans (congrArg (x_iload 2) ((xe_imul).trans (congrArg (x_imul) ((xe_iload 1).trans (congrArg (x_iload 1) xe_nil))))))))))
theorem bk_X11_whyNot_f_54 : ck_ fX11 (some .int) cX11_whyNot 54 [.iconst (-1), .if_icmp .ne 72, .aload 0, .iconst 2, .iload 2, .imul, .iconst 1, .iadd, .iload 1] 65 = true := qck_r (nn_ _) (by decide +kernel)
theorem bs_X11_whyNot_f_54 {P : Zt → Option Zv → Prop} (K : Int → Zl → List Zv → Zt → Prop) : sx_ K P [.iconst (-1), .if_icmp .ne 72, .aload 0, .iconst 2, .iload 2, .imul, .iconst 1, .iadd, .iload 1] 65 = x_iconst (-1) (x_if_icmp .ne 72 K (x_aload 0 (x_iconst 2 (x_iload 2 (x_imul (x_iconst 1 (x_iadd (x_iload 1 (K 65))))))))) := ((xe_iconst (-1)).trans (congrArg (x_iconst (-1)) ((xe_if_icmp .ne 72).trans (congrArg (x_if_icmp .ne 72 K) ((xe_aload 0).trans (congrArg (x_aload 0) ((xe_iconst 2).trans (congrArg (x_iconst 2) ((xe_iload 2).trans (congrArg (x_iload 2) ((xe_imul).trans (congrArg (x_imul) ((xe_iconst 1).trans (congrArg (x_iconst 1) ((xe_iadd).trans (congrArg (x_iadd) ((xe_iload 1).trans (congrArg (x_iload 1) xe_nil))))))))))))))))))
theorem bk_X11_whyNot_f_72 : ck_ fX11 (some .int) cX11_whyNot 72 [.iconst 3, .ireturn] 74 = true := qck_r (nn_ _) (by decide +kernel)
theorem bs_X11_whyNot_f_72 {P : Zt → Option Zv → Prop} (K : Int → Zl → List Zv → Zt → Prop) : sx_ K P [.iconst 3, .ireturn] 74 = x_iconst 3 (x_ireturn P) := ((xe_iconst 3).trans (congrArg (x_iconst 3) (xe_ireturn)))
theorem bk_X11_whyNot_f_68 : ck_ fX11 (some .int) cX11_whyNot 68 [.iconst (-1), .if_icmp .eq 74, .iconst 3, .ireturn] 74 = true := qck_r (nn_ _) (by decide +kernel)
theorem bs_X11_whyNot_f_68 {P : Zt → Option Zv → Prop} (K : Int → Zl → List Zv → Zt → Prop) : sx_ K P [.iconst (-1), .if_icmp .eq 74, .iconst 3, .ireturn] 74 = x_iconst (-1) (x_if_icmp .eq 74 K (x_iconst 3 (x_ireturn P))) := ((xe_iconst (-1)).trans (congrArg (x_iconst (-1)) ((xe_if_icmp .eq 74).trans (congrArg (x_if_icmp .eq 74 K) ((xe_iconst 3).trans (congrArg (x_iconst 3) (xe_ireturn)))))))
theorem bk_X11_whyNot_f_74 : ck_ fX11 (some .int) cX11_whyNot 74 [.aload 0, .iload 1, .iload 2] 77 = true := qck_r (nn_ _) (by decide +kernel)
theorem bs_X11_whyNot_f_74 {P : Zt → Option Zv → Prop} (K : Int → Zl → List Zv → Zt → Prop) : sx_ K P [.aload 0, .iload 1, .iload 2] 77 = x_aload 0 (x_iload 1 (x_iload 2 (K 77))) := ((xe_aload 0).trans (congrArg (x_aload 0) ((xe_iload 1).trans (congrArg (x_iload 1) ((xe_iload 2).trans (congrArg (x_iload 2) xe_nil))))))
theorem bk_X11_whyNot_f_80 : ck_ fX11 (some .int) cX11_whyNot 80 [.ifCond .eq 87, .iconst 4, .goto 88] 87 = true := qck_r (nn_ _) (by decide +kernel)
theorem bs_X11_whyNot_f_80 {P : Zt → Option Zv → Prop} (K : Int → Zl → List Zv → Zt → Prop) : sx_ K P [.ifCond .eq 87, .iconst 4, .goto 88] 87 = x_ifCond .eq 87 K (x_iconst 4 (x_goto 88 K)) := ((xe_ifCond .eq 87).trans (congrArg (x_ifCond .eq 87 K) ((xe_iconst 4).trans (congrArg (x_iconst 4) (xe_goto 88)))))
theorem bk_X11_whyNot_f_87 : ck_ fX11 (some .int) cX11_whyNot 87 [.iconst 0, .ireturn] 89 = true := qck_r (nn_ _) (by decide +kernel)
theorem bs_X11_whyNot_f_87 {P : Zt → Option Zv → Prop} (K : Int → Zl → List Zv → Zt → Prop) : sx_ K P [.iconst 0, .ireturn] 89 = x_iconst 0 (x_ireturn P) := ((xe_iconst 0).trans (congrArg (x_iconst 0) (xe_ireturn)))
theorem bk_X11_whyNot_f_88 : ck_ fX11 (some .int) cX11_whyNot 88 [.ireturn] 89 = true := qck_r (nn_ _) (by decide +kernel)
theorem bs_X11_whyNot_f_88 {P : Zt → Option Zv → Prop} (K : Int → Zl → List Zv → Zt → Prop) : sx_ K P [.ireturn] 89 = x_ireturn P := (xe_ireturn)
theorem bk_X11_whyNot_f_0 : ck_ fX11 (some .int) cX11_whyNot 0 [.aload 0, .iload 1, .aload 0, .tableswitch 0 11 34 #[], .iload 2, .iaload] 8 = true := qck_r (nn_ _) (by decide +kernel)
theorem bs_X11_whyNot_f_0 {P : Zt → Option Zv → Prop} (K : Int → Zl → List Zv → Zt → Prop) : sx_ K P [.aload 0, .iload 1, .aload 0, .tableswitch 0 11 34 #[], .iload 2, .iaload] 8 = x_aload 0 (x_iload 1 (x_aload 0 (x_g1 111 234 (x_iload 2 (x_iaload (K 8)))))) := ((xe_aload 0).trans (congrArg (x_aload 0) ((xe_iload 1).trans (congrArg (x_iload 1) ((xe_aload 0).trans (congrArg (x_aload 0) ((xe_g1 (kk := 111) rfl tl_11_34).trans (congrArg (x_g1 111 234) ((xe_iload 2).trans (congrArg (x_iload 2) ((xe_iaload).trans (congrArg (x_iaload) xe_nil))))))))))))
theorem bk_X11_whyNot_f_11 : ck_ fX11 (some .int) cX11_whyNot 11 [.iload 3, .ifCond .ne 24, .aload 0, .tableswitch 0 11 32 #[], .iload 2, .iaload, .goto 30] 24 = true := qck_r (nn_ _) (by decide +kernel)
theorem bs_X11_whyNot_f_11 {P : Zt → Option Zv → Prop} (K : Int → Zl → List Zv → Zt → Prop) : sx_ K P [.iload 3, .ifCond .ne 24, .aload 0, .tableswitch 0 11 32 #[], .iload 2, .iaload, .goto 30] 24 = x_iload 3 (x_ifCond .ne 24 K (x_aload 0 (x_g1 111 232 (x_iload 2 (x_iaload (x_goto 30 K)))))) := ((xe_iload 3).trans (congrArg (x_iload 3) ((xe_ifCond .ne 24).trans (congrArg (x_ifCond .ne 24 K) ((xe_aload 0).trans (congrArg (x_aload 0) ((xe_g1 (kk := 111) rfl tl_11_32).trans (congrArg (x_g1 111 232) ((xe_iload 2).trans (congrArg (x_iload 2) ((xe_iaload).trans (congrArg (x_iaload) (xe_goto 30)))))))))))))
theorem bk_X11_whyNot_f_24 : ck_ fX11 (some .int) cX11_whyNot 24 [.aload 0, .tableswitch 0 11 33 #[], .iload 2, .iaload] 30 = true := qck_r (nn_ _) (by decide +kernel)
theorem bs_X11_whyNot_f_24 {P : Zt → Option Zv → Prop} (K : Int → Zl → List Zv → Zt → Prop) : sx_ K P [.aload 0, .tableswitch 0 11 33 #[], .iload 2, .iaload] 30 = x_aload 0 (x_g1 111 233 (x_iload 2 (x_iaload (K 30)))) := ((xe_aload 0).trans (congrArg (x_aload 0) ((xe_g1 (kk := 111) rfl tl_11_33).trans (congrArg (x_g1 111 233) ((xe_iload 2).trans (congrArg (x_iload 2) ((xe_iaload).trans (congrArg (x_iaload) xe_nil))))))))
abbrev po_X11_whyNot_f (T : Zt) (p m sd : Int) : Zt → Option Zv → Prop := fun T' r => T = T' ∧ ∃ x : Int, r = some (vI x) ∧ (x = wyR_ T p m sd)
set_option maxHeartbeats 4000000 in
theorem ct_X11_whyNot_f {T : Zt} {p m sd : Int} (h1 : 0 ≤ m ∧ m < T 111 0 29) (hml : ML_ T) (hmc : MC_ T) (hri : RI_ T) : Ct_ yX11_whyNot zX11_whyNot T [vR 111 0, vI p, vI m, vI sd] (po_X11_whyNot_f T p m sd) := by
  refine ct_of pn_11 rfl rfl (Nat.le_of_ble_eq_true rfl) (fun hT hav => ?_)
  have hr_p : -2147483648 ≤ p ∧ p ≤ 2147483647 := hav (vI p) (List.mem_cons_of_mem _ List.mem_cons_self)
  have hr_m : -2147483648 ≤ m ∧ m ≤ 2147483647 := hav (vI m) (List.mem_cons_of_mem _ (List.mem_cons_of_mem _ List.mem_cons_self))
  have hr_sd : -2147483648 ≤ sd ∧ sd ≤ 2147483647 := hav (vI sd) (List.mem_cons_of_mem _ (List.mem_cons_of_mem _ (List.mem_cons_of_mem _ List.mem_cons_self)))
  have hz : zX11_whyNot.2.2.2.1 = some .boolean → ∀ (T' : Zt) (x : Int), po_X11_whyNot_f T p m sd T' (some (vI x)) → 0 ≤ x ∧ x ≤ 1 := fun h => by cases h
  have hb_29 : 0 ≤ T 111 0 29 ∧ T 111 0 29 ≤ 400 := bd_f hT 111 29 tl_11_29 0
  show J_ zX11_whyNot T (po_X11_whyNot_f T p m sd) 0 0 0 [some (vR 111 0), some (vI p), some (vI m), some (vI sd)] [] T
  have c_30 : ∀ (v : Int) (w : Int), (v = co9_c T p (T 234 0 m)) → ((sd = 0 ∧ w = T 232 0 m) ∨ (sd ≠ 0 ∧ w = T 233 0 m)) → J_ zX11_whyNot T (po_X11_whyNot_f T p m sd) 0 0 30 [some (vR 111 0), some (vI p), some (vI m), some (vI sd)] [vI w, vI v] T := by
    intro v w hcl hsd
    refine j_blx (F := fX11) tb_X11 (nn_ _) bk_X11_whyNot_f_30 bs_X11_whyNot_f_30 hz (fun K hK => ?_)
    refine And.intro (fun c1 => ?_) (fun c1 => ?_)
    · have wsd := (sd_r hcl hsd).mp c1
      refine hK 35 _ [] T ?_
      refine j_blx (F := fX11) tb_X11 (nn_ _) bk_X11_whyNot_f_35 bs_X11_whyNot_f_35 hz (fun K hK => ?_)
      refine hK 38 _ [vI m, vI p, vR 111 0] T ?_
      refine j_callV (y := yX11_isBanned) (Yc := zX11_isBanned) (rest := []) [vI p, vI m] (ct_X11_isBanned_f (T := T) (by omega) hml hmc hri) cl_X11_381 (qd_c (by decide +kernel)) (nn_ _) rfl (rf_of rfl) (Nat.le_of_ble_eq_true rfl) (Nat.le_of_ble_eq_true rfl) (Nat.le_of_ble_eq_true rfl) rfl ?_
      rintro _ _ ⟨rfl, x2, rfl, hx2⟩
      show J_ zX11_whyNot T (po_X11_whyNot_f T p m sd) 0 0 41 _ [vI x2] T
      refine j_blx (F := fX11) tb_X11 (nn_ _) bk_X11_whyNot_f_41 bs_X11_whyNot_f_41 hz (fun K hK => ?_)
      refine And.intro (fun c3 => ?_) (fun c3 => ?_)
      · refine hK 46 _ [] T ?_
        refine j_blx (F := fX11) tb_X11 (nn_ _) bk_X11_whyNot_f_46 bs_X11_whyNot_f_46 hz (fun K hK => ?_)
        refine rg_i (by omega) ?_
        refine hK 51 _ [vI p, vI (2 * m), vR 111 0] T ?_
        refine j_callV (y := yX11_slotOf) (Yc := zX11_slotOf) (rest := []) [vI (2 * m), vI p] (ct_X11_slotOf_e (T := T) (m := m) (s := 0) (by omega) ⟨by omega, by decide, by decide⟩) cl_X11_378 (qd_c (by decide +kernel)) (nn_ _) rfl (rf_of rfl) (Nat.le_of_ble_eq_true rfl) (Nat.le_of_ble_eq_true rfl) (Nat.le_of_ble_eq_true rfl) rfl ?_
        rintro _ _ ⟨rfl, x4, rfl, hx4, hx4e⟩
        have bx4 : x4 = -1 ∨ (10 * (2 * m) ≤ x4 ∧ x4 < 10 * (2 * m) + 10) := by
          rcases hx4 with z | z
          · exact Or.inl z.1
          · exact Or.inr ⟨z.1, z.2.1⟩
        clear hx4
        show J_ zX11_whyNot T (po_X11_whyNot_f T p m sd) 0 0 54 _ [vI x4] T
        refine j_blx (F := fX11) tb_X11 (nn_ _) bk_X11_whyNot_f_54 bs_X11_whyNot_f_54 hz (fun K hK => ?_)
        refine And.intro (fun c5 => ?_) (fun c5 => ?_)
        · refine hK 72 _ [] T ?_
          refine j_blx (F := fX11) tb_X11 (nn_ _) bk_X11_whyNot_f_72 bs_X11_whyNot_f_72 hz (fun K hK => ?_)
          refine (show po_X11_whyNot_f T p m sd T (some (vI 3)) from ?_)
          have sq : slc_ T m p ≠ -1 := by rw [slc_0 hx4e (by omega)]; omega
          exact ⟨rfl, _, rfl, (wyR_3 wsd (by omega) sq).symm⟩
        · refine rg_i (by omega) ?_
          refine rg_i (by omega) ?_
          refine hK 65 _ [vI p, vI ((2 * m) + 1), vR 111 0] T ?_
          refine j_callV (y := yX11_slotOf) (Yc := zX11_slotOf) (rest := []) [vI ((2 * m) + 1), vI p] (ct_X11_slotOf_e (T := T) (m := m) (s := 1) (by omega) ⟨by omega, by decide, by decide⟩) cl_X11_378 (qd_c (by decide +kernel)) (nn_ _) rfl (rf_of rfl) (Nat.le_of_ble_eq_true rfl) (Nat.le_of_ble_eq_true rfl) (Nat.le_of_ble_eq_true rfl) rfl ?_
          rintro _ _ ⟨rfl, x6, rfl, hx6, hx6e⟩
          have bx6 : x6 = -1 ∨ (10 * ((2 * m) + 1) ≤ x6 ∧ x6 < 10 * ((2 * m) + 1) + 10) := by
            rcases hx6 with z | z
            · exact Or.inl z.1
            · exact Or.inr ⟨z.1, z.2.1⟩
          clear hx6
          show J_ zX11_whyNot T (po_X11_whyNot_f T p m sd) 0 0 68 _ [vI x6] T
          refine j_blx (F := fX11) tb_X11 (nn_ _) bk_X11_whyNot_f_68 bs_X11_whyNot_f_68 hz (fun K hK => ?_)
          refine And.intro (fun c7 => ?_) (fun c7 => ?_)
          · refine hK 74 _ [] T ?_
            refine j_blx (F := fX11) tb_X11 (nn_ _) bk_X11_whyNot_f_74 bs_X11_whyNot_f_74 hz (fun K hK => ?_)
            refine hK 77 _ [vI m, vI p, vR 111 0] T ?_
            refine j_callV (y := yX11_isElsewhere) (Yc := zX11_isElsewhere) (rest := []) [vI p, vI m] (ct_X11_isElsewhere_f (T := T) (by omega)) cl_X11_384 (qd_c (by decide +kernel)) (nn_ _) rfl (rf_of rfl) (Nat.le_of_ble_eq_true rfl) (Nat.le_of_ble_eq_true rfl) (Nat.le_of_ble_eq_true rfl) rfl ?_
            rintro _ _ ⟨rfl, x8, rfl, hx8⟩
            show J_ zX11_whyNot T (po_X11_whyNot_f T p m sd) 0 0 80 _ [vI x8] T
            refine j_blx (F := fX11) tb_X11 (nn_ _) bk_X11_whyNot_f_80 bs_X11_whyNot_f_80 hz (fun K hK => ?_)
            refine And.intro (fun c9 => ?_) (fun c9 => ?_)
            · refine hK 87 _ [] T ?_
              refine j_blx (F := fX11) tb_X11 (nn_ _) bk_X11_whyNot_f_87 bs_X11_whyNot_f_87 hz (fun K hK => ?_)
              refine (show po_X11_whyNot_f T p m sd T (some (vI 0)) from ?_)
              have sq : ¬ slc_ T m p ≠ -1 := by rw [slc_1 hx4e (by omega) hx6e]; omega
              rcases hx8 with z | z
              · omega
              · exact ⟨rfl, _, rfl, (wyR_0 wsd (by omega) sq z.2).symm⟩
            · refine hK 88 _ [vI 4] T ?_
              refine j_blx (F := fX11) tb_X11 (nn_ _) bk_X11_whyNot_f_88 bs_X11_whyNot_f_88 hz (fun K hK => ?_)
              refine (show po_X11_whyNot_f T p m sd T (some (vI 4)) from ?_)
              have sq : ¬ slc_ T m p ≠ -1 := by rw [slc_1 hx4e (by omega) hx6e]; omega
              rcases hx8 with z | z
              · exact ⟨rfl, _, rfl, (wyR_4 wsd (by omega) sq z.2).symm⟩
              · omega
          · refine (show po_X11_whyNot_f T p m sd T (some (vI 3)) from ?_)
            have sq : slc_ T m p ≠ -1 := by rw [slc_1 hx4e (by omega) hx6e]; omega
            exact ⟨rfl, _, rfl, (wyR_3 wsd (by omega) sq).symm⟩
      · refine (show po_X11_whyNot_f T p m sd T (some (vI 2)) from ?_)
        exact ⟨rfl, _, rfl, (wyR_2 wsd (by omega)).symm⟩
    · refine (show po_X11_whyNot_f T p m sd T (some (vI 1)) from ?_)
      have w9 : co9_c T p (T 234 0 m) ≠ cz_ (sd = 0) (T 232 0 m) (T 233 0 m) := fun z => by
        have y9 := (sd_r hcl hsd).mpr (fun t => t z)
        omega
      exact ⟨rfl, _, rfl, (wyR_1 w9).symm⟩
  refine j_blx (F := fX11) tb_X11 (nn_ _) bk_X11_whyNot_f_0 bs_X11_whyNot_f_0 hz (fun K hK => ?_)
  refine ix_i (by omega) ?_
  intro b10 b10b
  refine hK 8 _ [vI (T 234 0 m), vI p, vR 111 0] T ?_
  refine j_callV (y := yX11_clubOf) (Yc := zX11_clubOf) (rest := []) [vI p, vI (T 234 0 m)] (ct_X11_clubOf_e (T := T)) cl_X11_375 (qd_c (by decide +kernel)) (nn_ _) rfl (rf_of rfl) (Nat.le_of_ble_eq_true rfl) (Nat.le_of_ble_eq_true rfl) (Nat.le_of_ble_eq_true rfl) rfl ?_
  rintro _ _ ⟨rfl, x11, rfl, hx11⟩
  have bx11 := cnn_b hT (p := p) (d := (T 234 0 m)) (T 111 0 16).toNat
  have gx11 : -1 ≤ co9_c T p (T 234 0 m) ∧ co9_c T p (T 234 0 m) ≤ 11 := bx11
  show J_ zX11_whyNot T (po_X11_whyNot_f T p m sd) 0 0 11 _ [vI x11] T
  refine j_blx (F := fX11) tb_X11 (nn_ _) bk_X11_whyNot_f_11 bs_X11_whyNot_f_11 hz (fun K hK => ?_)
  refine And.intro (fun c12 => ?_) (fun c12 => ?_)
  · refine hK 24 _ [vI x11] T ?_
    refine j_blx (F := fX11) tb_X11 (nn_ _) bk_X11_whyNot_f_24 bs_X11_whyNot_f_24 hz (fun K hK => ?_)
    refine ix_i (by omega) ?_
    intro b13 b13b
    refine hK 30 _ [vI (T 233 0 m), vI x11] T ?_
    refine c_30 x11 (T 233 0 m) ?_ ?_
    · omega
    · omega
  · refine ix_i (by omega) ?_
    intro b14 b14b
    refine hK 30 _ [vI (T 232 0 m), vI x11] T ?_
    refine c_30 x11 (T 232 0 m) ?_ ?_
    · omega
    · omega
theorem bk_X11_eligible_f_0 : ck_ fX11 (some .int) cX11_eligible 0 [.iload 1, .aload 0, .tableswitch 0 11 15 #[]] 5 = true := qck_r (nn_ _) (by decide +kernel)
theorem bs_X11_eligible_f_0 {P : Zt → Option Zv → Prop} (K : Int → Zl → List Zv → Zt → Prop) : sx_ K P [.iload 1, .aload 0, .tableswitch 0 11 15 #[]] 5 = x_iload 1 (x_aload 0 (x_g0 111 15 0 200 (K 5))) := ((xe_iload 1).trans (congrArg (x_iload 1) ((xe_aload 0).trans (congrArg (x_aload 0) ((xe_g0 (kk := 111) rfl tl_11_15).trans (congrArg (x_g0 111 15 0 200) xe_nil))))))
theorem bk_X11_eligible_f_8 : ck_ fX11 (some .int) cX11_eligible 8 [.ifCond .eq 22, .iload 2, .aload 0, .tableswitch 0 11 29 #[]] 16 = true := qck_r (nn_ _) (by decide +kernel)
theorem bs_X11_eligible_f_8 {P : Zt → Option Zv → Prop} (K : Int → Zl → List Zv → Zt → Prop) : sx_ K P [.ifCond .eq 22, .iload 2, .aload 0, .tableswitch 0 11 29 #[]] 16 = x_ifCond .eq 22 K (x_iload 2 (x_aload 0 (x_g0 111 29 0 400 (K 16)))) := ((xe_ifCond .eq 22).trans (congrArg (x_ifCond .eq 22 K) ((xe_iload 2).trans (congrArg (x_iload 2) ((xe_aload 0).trans (congrArg (x_aload 0) ((xe_g0 (kk := 111) rfl tl_11_29).trans (congrArg (x_g0 111 29 0 400) xe_nil))))))))
theorem bk_X11_eligible_f_22 : ck_ fX11 (some .int) cX11_eligible 22 [.iconst (-2), .ireturn] 25 = true := qck_r (nn_ _) (by decide +kernel)
theorem bs_X11_eligible_f_22 {P : Zt → Option Zv → Prop} (K : Int → Zl → List Zv → Zt → Prop) : sx_ K P [.iconst (-2), .ireturn] 25 = x_iconst (-2) (x_ireturn P) := ((xe_iconst (-2)).trans (congrArg (x_iconst (-2)) (xe_ireturn)))
theorem bk_X11_eligible_f_19 : ck_ fX11 (some .int) cX11_eligible 19 [.ifCond .ne 25, .iconst (-2), .ireturn] 25 = true := qck_r (nn_ _) (by decide +kernel)
theorem bs_X11_eligible_f_19 {P : Zt → Option Zv → Prop} (K : Int → Zl → List Zv → Zt → Prop) : sx_ K P [.ifCond .ne 25, .iconst (-2), .ireturn] 25 = x_ifCond .ne 25 K (x_iconst (-2) (x_ireturn P)) := ((xe_ifCond .ne 25).trans (congrArg (x_ifCond .ne 25 K) ((xe_iconst (-2)).trans (congrArg (x_iconst (-2)) (xe_ireturn)))))
theorem bk_X11_eligible_f_25 : ck_ fX11 (some .int) cX11_eligible 25 [.iload 3, .iconst 0, .iconst 1] 28 = true := qck_r (nn_ _) (by decide +kernel)
theorem bs_X11_eligible_f_25 {P : Zt → Option Zv → Prop} (K : Int → Zl → List Zv → Zt → Prop) : sx_ K P [.iload 3, .iconst 0, .iconst 1] 28 = x_iload 3 (x_iconst 0 (x_iconst 1 (K 28))) := ((xe_iload 3).trans (congrArg (x_iload 3) ((xe_iconst 0).trans (congrArg (x_iconst 0) ((xe_iconst 1).trans (congrArg (x_iconst 1) xe_nil))))))
theorem bk_X11_eligible_f_31 : ck_ fX11 (some .int) cX11_eligible 31 [.ifCond .eq 44, .aload 0, .iload 1, .iload 2, .iload 3] 38 = true := qck_r (nn_ _) (by decide +kernel)
theorem bs_X11_eligible_f_31 {P : Zt → Option Zv → Prop} (K : Int → Zl → List Zv → Zt → Prop) : sx_ K P [.ifCond .eq 44, .aload 0, .iload 1, .iload 2, .iload 3] 38 = x_ifCond .eq 44 K (x_aload 0 (x_iload 1 (x_iload 2 (x_iload 3 (K 38))))) := ((xe_ifCond .eq 44).trans (congrArg (x_ifCond .eq 44 K) ((xe_aload 0).trans (congrArg (x_aload 0) ((xe_iload 1).trans (congrArg (x_iload 1) ((xe_iload 2).trans (congrArg (x_iload 2) ((xe_iload 3).trans (congrArg (x_iload 3) xe_nil))))))))))
theorem bk_X11_eligible_f_44 : ck_ fX11 (some .int) cX11_eligible 44 [.iconst (-3), .ireturn] 47 = true := qck_r (nn_ _) (by decide +kernel)
theorem bs_X11_eligible_f_44 {P : Zt → Option Zv → Prop} (K : Int → Zl → List Zv → Zt → Prop) : sx_ K P [.iconst (-3), .ireturn] 47 = x_iconst (-3) (x_ireturn P) := ((xe_iconst (-3)).trans (congrArg (x_iconst (-3)) (xe_ireturn)))
theorem bk_X11_eligible_f_41 : ck_ fX11 (some .int) cX11_eligible 41 [.goto 46] 44 = true := qck_r (nn_ _) (by decide +kernel)
theorem bs_X11_eligible_f_41 {P : Zt → Option Zv → Prop} (K : Int → Zl → List Zv → Zt → Prop) : sx_ K P [.goto 46] 44 = x_goto 46 K := (xe_goto 46)
theorem bk_X11_eligible_f_46 : ck_ fX11 (some .int) cX11_eligible 46 [.ireturn] 47 = true := qck_r (nn_ _) (by decide +kernel)
theorem bs_X11_eligible_f_46 {P : Zt → Option Zv → Prop} (K : Int → Zl → List Zv → Zt → Prop) : sx_ K P [.ireturn] 47 = x_ireturn P := (xe_ireturn)
abbrev po_X11_eligible_f (T : Zt) (p m sd : Int) : Zt → Option Zv → Prop := fun T' r => T = T' ∧ ∃ x : Int, r = some (vI x) ∧ ((x = -2 ∧ ¬ ((0 ≤ p ∧ p < T 111 0 15) ∧ 0 ≤ m ∧ m < T 111 0 29)) ∨ (((0 ≤ p ∧ p < T 111 0 15) ∧ 0 ≤ m ∧ m < T 111 0 29) ∧ ((x = -3 ∧ ¬ (0 ≤ sd ∧ sd ≤ 1)) ∨ ((0 ≤ sd ∧ sd ≤ 1) ∧ x = wyR_ T p m sd))))
set_option maxHeartbeats 4000000 in
theorem ct_X11_eligible_f {T : Zt} {p m sd : Int} (hml : ML_ T) (hmc : MC_ T) (hri : RI_ T) : Ct_ yX11_eligible zX11_eligible T [vR 111 0, vI p, vI m, vI sd] (po_X11_eligible_f T p m sd) := by
  refine ct_of pn_11 rfl rfl (Nat.le_of_ble_eq_true rfl) (fun hT hav => ?_)
  have hr_p : -2147483648 ≤ p ∧ p ≤ 2147483647 := hav (vI p) (List.mem_cons_of_mem _ List.mem_cons_self)
  have hr_m : -2147483648 ≤ m ∧ m ≤ 2147483647 := hav (vI m) (List.mem_cons_of_mem _ (List.mem_cons_of_mem _ List.mem_cons_self))
  have hr_sd : -2147483648 ≤ sd ∧ sd ≤ 2147483647 := hav (vI sd) (List.mem_cons_of_mem _ (List.mem_cons_of_mem _ (List.mem_cons_of_mem _ List.mem_cons_self)))
  have hz : zX11_eligible.2.2.2.1 = some .boolean → ∀ (T' : Zt) (x : Int), po_X11_eligible_f T p m sd T' (some (vI x)) → 0 ≤ x ∧ x ≤ 1 := fun h => by cases h
  have hb_29 : 0 ≤ T 111 0 29 ∧ T 111 0 29 ≤ 400 := bd_f hT 111 29 tl_11_29 0
  have hb_15 : 0 ≤ T 111 0 15 ∧ T 111 0 15 ≤ 200 := bd_f hT 111 15 tl_11_15 0
  show J_ zX11_eligible T (po_X11_eligible_f T p m sd) 0 0 0 [some (vR 111 0), some (vI p), some (vI m), some (vI sd)] [] T
  refine j_blx (F := fX11) tb_X11 (nn_ _) bk_X11_eligible_f_0 bs_X11_eligible_f_0 hz (fun K hK => ?_)
  intro b1 b1b
  refine hK 5 _ [vI (T 111 0 15), vI p] T ?_
  refine j_callS (y := yX11_isOf) (Yc := zX11_isOf) (rest := []) [vI p, vI (T 111 0 15)] (ct_X11_isOf (T := T) (by omega)) cl_X11_317 (qd_c (by decide +kernel)) (nn_ _) rfl (rf_of rfl) (Nat.le_of_ble_eq_true rfl) (Nat.le_of_ble_eq_true rfl) (Nat.le_of_ble_eq_true rfl) rfl ?_
  rintro _ _ ⟨rfl, x2, rfl, hx2⟩
  show J_ zX11_eligible T (po_X11_eligible_f T p m sd) 0 0 8 _ [vI x2] T
  refine j_blx (F := fX11) tb_X11 (nn_ _) bk_X11_eligible_f_8 bs_X11_eligible_f_8 hz (fun K hK => ?_)
  refine And.intro (fun c3 => ?_) (fun c3 => ?_)
  · replace hx2 := hx2.resolve_left (fun z => absurd (c3.symm.trans z.1) (by decide))
    clear c3
    refine hK 22 _ [] T ?_
    refine j_blx (F := fX11) tb_X11 (nn_ _) bk_X11_eligible_f_22 bs_X11_eligible_f_22 hz (fun K hK => ?_)
    refine (show po_X11_eligible_f T p m sd T (some (vI (-2))) from ?_)
    exact ⟨rfl, _, rfl, by omega⟩
  · replace hx2 := hx2.resolve_right (fun z => c3 z.1)
    clear c3
    intro b4 b4b
    refine hK 16 _ [vI (T 111 0 29), vI m] T ?_
    refine j_callS (y := yX11_isOf) (Yc := zX11_isOf) (rest := []) [vI m, vI (T 111 0 29)] (ct_X11_isOf (T := T) (by omega)) cl_X11_317 (qd_c (by decide +kernel)) (nn_ _) rfl (rf_of rfl) (Nat.le_of_ble_eq_true rfl) (Nat.le_of_ble_eq_true rfl) (Nat.le_of_ble_eq_true rfl) rfl ?_
    rintro _ _ ⟨rfl, x5, rfl, hx5⟩
    show J_ zX11_eligible T (po_X11_eligible_f T p m sd) 0 0 19 _ [vI x5] T
    refine j_blx (F := fX11) tb_X11 (nn_ _) bk_X11_eligible_f_19 bs_X11_eligible_f_19 hz (fun K hK => ?_)
    refine And.intro (fun c6 => ?_) (fun c6 => ?_)
    · replace hx5 := hx5.resolve_right (fun z => c6 z.1)
      clear c6
      refine hK 25 _ [] T ?_
      refine j_blx (F := fX11) tb_X11 (nn_ _) bk_X11_eligible_f_25 bs_X11_eligible_f_25 hz (fun K hK => ?_)
      refine hK 28 _ [vI 1, vI 0, vI sd] T ?_
      refine j_callS (y := yX11_in) (Yc := zX11_in) (rest := []) [vI sd, vI 0, vI 1] (ct_X11_in (T := T)) cl_X11_255 (qd_c (by decide +kernel)) (nn_ _) rfl (rf_of rfl) (Nat.le_of_ble_eq_true rfl) (Nat.le_of_ble_eq_true rfl) (Nat.le_of_ble_eq_true rfl) rfl ?_
      rintro _ _ ⟨rfl, x7, rfl, hx7⟩
      show J_ zX11_eligible T (po_X11_eligible_f T p m sd) 0 0 31 _ [vI x7] T
      refine j_blx (F := fX11) tb_X11 (nn_ _) bk_X11_eligible_f_31 bs_X11_eligible_f_31 hz (fun K hK => ?_)
      refine And.intro (fun c8 => ?_) (fun c8 => ?_)
      · replace hx7 := hx7.resolve_left (fun z => absurd (c8.symm.trans z.1) (by decide))
        clear c8
        refine hK 44 _ [] T ?_
        refine j_blx (F := fX11) tb_X11 (nn_ _) bk_X11_eligible_f_44 bs_X11_eligible_f_44 hz (fun K hK => ?_)
        refine (show po_X11_eligible_f T p m sd T (some (vI (-3))) from ?_)
        exact ⟨rfl, _, rfl, by omega⟩
      · replace hx7 := hx7.resolve_right (fun z => c8 z.1)
        clear c8
        refine hK 38 _ [vI sd, vI m, vI p, vR 111 0] T ?_
        refine j_callV (y := yX11_whyNot) (Yc := zX11_whyNot) (rest := []) [vI p, vI m, vI sd] (ct_X11_whyNot_f (T := T) (by omega) hml hmc hri) cl_X11_387 (qd_c (by decide +kernel)) (nn_ _) rfl (rf_of rfl) (Nat.le_of_ble_eq_true rfl) (Nat.le_of_ble_eq_true rfl) (Nat.le_of_ble_eq_true rfl) rfl ?_
        rintro _ _ ⟨rfl, x9, rfl, hx9⟩
        show J_ zX11_eligible T (po_X11_eligible_f T p m sd) 0 0 41 _ [vI x9] T
        refine j_blx (F := fX11) tb_X11 (nn_ _) bk_X11_eligible_f_41 bs_X11_eligible_f_41 hz (fun K hK => ?_)
        refine hK 46 _ [vI x9] T ?_
        refine j_blx (F := fX11) tb_X11 (nn_ _) bk_X11_eligible_f_46 bs_X11_eligible_f_46 hz (fun K hK => ?_)
        refine (show po_X11_eligible_f T p m sd T (some (vI x9)) from ?_)
        exact ⟨rfl, _, rfl, by omega⟩
    · replace hx5 := hx5.resolve_left (fun z => absurd (c6.symm.trans z.1) (by decide))
      clear c6
      refine (show po_X11_eligible_f T p m sd T (some (vI (-2))) from ?_)
      exact ⟨rfl, _, rfl, by omega⟩
theorem bk_X11_lineUp_f_0 : ck_ fX11 (some .int) cX11_lineUp 0 [.iload 1, .aload 0, .tableswitch 0 11 15 #[]] 5 = true := qck_r (nn_ _) (by decide +kernel)
theorem bs_X11_lineUp_f_0 {P : Zt → Option Zv → Prop} (K : Int → Zl → List Zv → Zt → Prop) : sx_ K P [.iload 1, .aload 0, .tableswitch 0 11 15 #[]] 5 = x_iload 1 (x_aload 0 (x_g0 111 15 0 200 (K 5))) := ((xe_iload 1).trans (congrArg (x_iload 1) ((xe_aload 0).trans (congrArg (x_aload 0) ((xe_g0 (kk := 111) rfl tl_11_15).trans (congrArg (x_g0 111 15 0 200) xe_nil))))))
theorem bk_X11_lineUp_f_8 : ck_ fX11 (some .int) cX11_lineUp 8 [.ifCond .eq 22, .iload 2, .aload 0, .tableswitch 0 11 29 #[]] 16 = true := qck_r (nn_ _) (by decide +kernel)
theorem bs_X11_lineUp_f_8 {P : Zt → Option Zv → Prop} (K : Int → Zl → List Zv → Zt → Prop) : sx_ K P [.ifCond .eq 22, .iload 2, .aload 0, .tableswitch 0 11 29 #[]] 16 = x_ifCond .eq 22 K (x_iload 2 (x_aload 0 (x_g0 111 29 0 400 (K 16)))) := ((xe_ifCond .eq 22).trans (congrArg (x_ifCond .eq 22 K) ((xe_iload 2).trans (congrArg (x_iload 2) ((xe_aload 0).trans (congrArg (x_aload 0) ((xe_g0 (kk := 111) rfl tl_11_29).trans (congrArg (x_g0 111 29 0 400) xe_nil))))))))
theorem bk_X11_lineUp_f_22 : ck_ fX11 (some .int) cX11_lineUp 22 [.iconst (-2), .ireturn] 25 = true := qck_r (nn_ _) (by decide +kernel)
theorem bs_X11_lineUp_f_22 {P : Zt → Option Zv → Prop} (K : Int → Zl → List Zv → Zt → Prop) : sx_ K P [.iconst (-2), .ireturn] 25 = x_iconst (-2) (x_ireturn P) := ((xe_iconst (-2)).trans (congrArg (x_iconst (-2)) (xe_ireturn)))
theorem bk_X11_lineUp_f_19 : ck_ fX11 (some .int) cX11_lineUp 19 [.ifCond .ne 25, .iconst (-2), .ireturn] 25 = true := qck_r (nn_ _) (by decide +kernel)
theorem bs_X11_lineUp_f_19 {P : Zt → Option Zv → Prop} (K : Int → Zl → List Zv → Zt → Prop) : sx_ K P [.ifCond .ne 25, .iconst (-2), .ireturn] 25 = x_ifCond .ne 25 K (x_iconst (-2) (x_ireturn P)) := ((xe_ifCond .ne 25).trans (congrArg (x_ifCond .ne 25 K) ((xe_iconst (-2)).trans (congrArg (x_iconst (-2)) (xe_ireturn)))))
theorem bk_X11_lineUp_f_25 : ck_ fX11 (some .int) cX11_lineUp 25 [.iload 3, .iconst 0, .iconst 1] 28 = true := qck_r (nn_ _) (by decide +kernel)
theorem bs_X11_lineUp_f_25 {P : Zt → Option Zv → Prop} (K : Int → Zl → List Zv → Zt → Prop) : sx_ K P [.iload 3, .iconst 0, .iconst 1] 28 = x_iload 3 (x_iconst 0 (x_iconst 1 (K 28))) := ((xe_iload 3).trans (congrArg (x_iload 3) ((xe_iconst 0).trans (congrArg (x_iconst 0) ((xe_iconst 1).trans (congrArg (x_iconst 1) xe_nil))))))
theorem bk_X11_lineUp_f_31 : ck_ fX11 (some .int) cX11_lineUp 31 [.ifCond .ne 37, .iconst (-3), .ireturn] 37 = true := qck_r (nn_ _) (by decide +kernel)
theorem bs_X11_lineUp_f_31 {P : Zt → Option Zv → Prop} (K : Int → Zl → List Zv → Zt → Prop) : sx_ K P [.ifCond .ne 37, .iconst (-3), .ireturn] 37 = x_ifCond .ne 37 K (x_iconst (-3) (x_ireturn P)) := ((xe_ifCond .ne 37).trans (congrArg (x_ifCond .ne 37 K) ((xe_iconst (-3)).trans (congrArg (x_iconst (-3)) (xe_ireturn)))))
theorem bk_X11_lineUp_f_37 : ck_ fX11 (some .int) cX11_lineUp 37 [.aload 0, .tableswitch 0 11 35 #[], .iload 2, .iaload, .ifCond .eq 49, .iconst (-4), .ireturn] 49 = true := qck_r (nn_ _) (by decide +kernel)
theorem bs_X11_lineUp_f_37 {P : Zt → Option Zv → Prop} (K : Int → Zl → List Zv → Zt → Prop) : sx_ K P [.aload 0, .tableswitch 0 11 35 #[], .iload 2, .iaload, .ifCond .eq 49, .iconst (-4), .ireturn] 49 = x_aload 0 (x_g1 111 235 (x_iload 2 (x_iaload (x_ifCond .eq 49 K (x_iconst (-4) (x_ireturn P)))))) := ((xe_aload 0).trans (congrArg (x_aload 0) ((xe_g1 (kk := 111) rfl tl_11_35).trans (congrArg (x_g1 111 235) ((xe_iload 2).trans (congrArg (x_iload 2) ((xe_iaload).trans (congrArg (x_iaload) ((xe_ifCond .eq 49).trans (congrArg (x_ifCond .eq 49 K) ((xe_iconst (-4)).trans (congrArg (x_iconst (-4)) (xe_ireturn)))))))))))))
theorem bk_X11_lineUp_f_49 : ck_ fX11 (some .int) cX11_lineUp 49 [.iconst 2, .iload 2, .imul, .iload 3, .iadd, .istore 4, .aload 0, .tableswitch 0 11 39 #[], .iload 4, .iaload, .aload 0, .aload 0, .tableswitch 0 11 30 #[], .iload 2, .iaload, .iconst 9] 72 = true := qck_r (nn_ _) (by decide +kernel)
theorem bs_X11_lineUp_f_49 {P : Zt → Option Zv → Prop} (K : Int → Zl → List Zv → Zt → Prop) : sx_ K P [.iconst 2, .iload 2, .imul, .iload 3, .iadd, .istore 4, .aload 0, .tableswitch 0 11 39 #[], .iload 4, .iaload, .aload 0, .aload 0, .tableswitch 0 11 30 #[], .iload 2, .iaload, .iconst 9] 72 = x_iconst 2 (x_iload 2 (x_imul (x_iload 3 (x_iadd (x_istore 4 (x_aload 0 (x_g1 111 239 (x_iload 4 (x_iaload (x_aload 0 (x_aload 0 (x_g1 111 230 (x_iload 2 (x_iaload (x_iconst 9 (K 72)))))))))))))))) := ((xe_iconst 2).trans (congrArg (x_iconst 2) ((xe_iload 2).trans (congrArg (x_iload 2) ((xe_imul).trans (congrArg (x_imul) ((xe_iload 3).trans (congrArg (x_iload 3) ((xe_iadd).trans (congrArg (x_iadd) ((xe_istore 4).trans (congrArg (x_istore 4) ((xe_aload 0).trans (congrArg (x_aload 0) ((xe_g1 (kk := 111) rfl tl_11_39).trans (congrArg (x_g1 111 239) ((xe_iload 4).trans (congrArg (x_iload 4) ((xe_iaload).trans (congrArg (x_iaload) ((xe_aload 0).trans (congrArg (x_aload 0) ((xe_aload 0).trans (congrArg (x_aload 0) ((xe_g1 (kk := 111) rfl tl_11_30).trans (congrArg (x_g1 111 230) ((xe_iload 2).trans (congrArg (x_iload 2) ((xe_iaload).trans (congrArg (x_iaload) ((xe_iconst 9).trans (congrArg (x_iconst 9) xe_nil))))))))))))))))))))))))))))))))
theorem bk_X11_lineUp_f_75 : ck_ fX11 (some .int) cX11_lineUp 75 [.iconst 4, .iadd, .if_icmp .ne 83, .iconst (-5), .ireturn] 83 = true := qck_r (nn_ _) (by decide +kernel)
theorem bs_X11_lineUp_f_75 {P : Zt → Option Zv → Prop} (K : Int → Zl → List Zv → Zt → Prop) : sx_ K P [.iconst 4, .iadd, .if_icmp .ne 83, .iconst (-5), .ireturn] 83 = x_iconst 4 (x_iadd (x_if_icmp .ne 83 K (x_iconst (-5) (x_ireturn P)))) := ((xe_iconst 4).trans (congrArg (x_iconst 4) ((xe_iadd).trans (congrArg (x_iadd) ((xe_if_icmp .ne 83).trans (congrArg (x_if_icmp .ne 83 K) ((xe_iconst (-5)).trans (congrArg (x_iconst (-5)) (xe_ireturn)))))))))
theorem bk_X11_lineUp_f_83 : ck_ fX11 (some .int) cX11_lineUp 83 [.aload 0, .iload 1, .iload 2, .iload 3] 87 = true := qck_r (nn_ _) (by decide +kernel)
theorem bs_X11_lineUp_f_83 {P : Zt → Option Zv → Prop} (K : Int → Zl → List Zv → Zt → Prop) : sx_ K P [.aload 0, .iload 1, .iload 2, .iload 3] 87 = x_aload 0 (x_iload 1 (x_iload 2 (x_iload 3 (K 87)))) := ((xe_aload 0).trans (congrArg (x_aload 0) ((xe_iload 1).trans (congrArg (x_iload 1) ((xe_iload 2).trans (congrArg (x_iload 2) ((xe_iload 3).trans (congrArg (x_iload 3) xe_nil))))))))
theorem bk_X11_lineUp_f_90 : ck_ fX11 (some .int) cX11_lineUp 90 [.istore 5, .iload 5, .ifCond .eq 103, .iconst (-10), .iload 5, .isub, .ireturn] 103 = true := qck_r (nn_ _) (by decide +kernel)
theorem bs_X11_lineUp_f_90 {P : Zt → Option Zv → Prop} (K : Int → Zl → List Zv → Zt → Prop) : sx_ K P [.istore 5, .iload 5, .ifCond .eq 103, .iconst (-10), .iload 5, .isub, .ireturn] 103 = x_istore 5 (x_iload 5 (x_ifCond .eq 103 K (x_iconst (-10) (x_iload 5 (x_isub (x_ireturn P)))))) := ((xe_istore 5).trans (congrArg (x_istore 5) ((xe_iload 5).trans (congrArg (x_iload 5) ((xe_ifCond .eq 103).trans (congrArg (x_ifCond .eq 103 K) ((xe_iconst (-10)).trans (congrArg (x_iconst (-10)) ((xe_iload 5).trans (congrArg (x_iload 5) ((xe_isub).trans (congrArg (x_isub) (xe_ireturn)))))))))))))
theorem bk_X11_lineUp_f_103 : ck_ fX11 (some .int) cX11_lineUp 103 [.aload 0, .tableswitch 0 11 40 #[], .iconst 10, .iload 4, .imul, .aload 0, .tableswitch 0 11 39 #[], .iload 4, .iaload, .iadd, .iload 1, .iastore, .aload 0, .tableswitch 0 11 39 #[], .iload 4, .dup2, .iaload, .iconst 1, .iadd, .iastore, .aload 0, .tableswitch 0 11 39 #[], .iload 4, .iaload, .ireturn] 141 = true := qck_r (nn_ _) (by decide +kernel)
theorem bs_X11_lineUp_f_103 {P : Zt → Option Zv → Prop} (K : Int → Zl → List Zv → Zt → Prop) : sx_ K P [.aload 0, .tableswitch 0 11 40 #[], .iconst 10, .iload 4, .imul, .aload 0, .tableswitch 0 11 39 #[], .iload 4, .iaload, .iadd, .iload 1, .iastore, .aload 0, .tableswitch 0 11 39 #[], .iload 4, .dup2, .iaload, .iconst 1, .iadd, .iastore, .aload 0, .tableswitch 0 11 39 #[], .iload 4, .iaload, .ireturn] 141 = x_aload 0 (x_g1 111 240 (x_iconst 10 (x_iload 4 (x_imul (x_aload 0 (x_g1 111 239 (x_iload 4 (x_iaload (x_iadd (x_iload 1 (x_iastore (x_aload 0 (x_g1 111 239 (x_iload 4 (x_dup2 (x_iaload (x_iconst 1 (x_iadd (x_iastore (x_aload 0 (x_g1 111 239 (x_iload 4 (x_iaload (x_ireturn P)))))))))))))))))))))))) := ((xe_aload 0).trans (congrArg (x_aload 0) ((xe_g1 (kk := 111) rfl tl_11_40).trans (congrArg (x_g1 111 240) ((xe_iconst 10).trans (congrArg (x_iconst 10) ((xe_iload 4).trans (congrArg (x_iload 4) ((xe_imul).trans (congrArg (x_imul) ((xe_aload 0).trans (congrArg (x_aload 0) ((xe_g1 (kk := 111) rfl tl_11_39).trans (congrArg (x_g1 111 239) ((xe_iload 4).trans (congrArg (x_iload 4) ((xe_iaload).trans (congrArg (x_iaload) ((xe_iadd).trans (congrArg (x_iadd) ((xe_iload 1).trans (congrArg (x_iload 1) ((xe_iastore).trans (congrArg (x_iastore) ((xe_aload 0).trans (congrArg (x_aload 0) ((xe_g1 (kk := 111) rfl tl_11_39).trans (congrArg (x_g1 111 239) ((xe_iload 4).trans (congrArg (x_iload 4) ((xe_dup2).trans (congrArg (x_dup2) ((xe_iaload).trans (congrArg (x_iaload) ((xe_iconst 1).trans (congrArg (x_iconst 1) ((xe_iadd).trans (congrArg (x_iadd) ((xe_iastore).trans (congrArg (x_iastore) ((xe_aload 0).trans (congrArg (x_aload 0) ((xe_g1 (kk := 111) rfl tl_11_39).trans (congrArg (x_g1 111 239) ((xe_iload 4).trans (congrArg (x_iload 4) ((xe_iaload).trans (congrArg (x_iaload) (xe_ireturn)))))))))))))))))))))))))))))))))))))))))))))))))
abbrev po_X11_lineUp_f (T : Zt) (p m sd : Int) : Zt → Option Zv → Prop := fun T' r => ∃ x : Int, r = some (vI x) ∧ fr_ [(239, []), (240, [])] T T' ∧ ((SH_ T' ∧ ∀ z, T 239 0 z ≤ T' 239 0 z) ∧ ((x = -2 ∧ ¬ ((0 ≤ p ∧ p < T 111 0 15) ∧ 0 ≤ m ∧ m < T 111 0 29) ∧ T = T') ∨ (((0 ≤ p ∧ p < T 111 0 15) ∧ 0 ≤ m ∧ m < T 111 0 29) ∧ ((x = -3 ∧ ¬ (0 ≤ sd ∧ sd ≤ 1) ∧ T = T') ∨ ((0 ≤ sd ∧ sd ≤ 1) ∧ ((x = -4 ∧ T 235 0 m ≠ 0 ∧ T = T') ∨ (T 235 0 m = 0 ∧ ((x = -5 ∧ T 239 0 (2 * m + sd) = T 205 0 (23 * T 230 0 m + 9) + 4 ∧ T = T') ∨ (T 239 0 (2 * m + sd) ≠ T 205 0 (23 * T 230 0 m + 9) + 4 ∧ ((wyR_ T p m sd ≠ 0 ∧ x = -10 - wyR_ T p m sd ∧ T = T') ∨ (wyR_ T p m sd = 0 ∧ x = T 239 0 (2 * m + sd) + 1 ∧ SRR_ T T' m sd p)))))))))))
set_option maxHeartbeats 4000000 in
theorem ct_X11_lineUp_f {T : Zt} {p m sd : Int} (hml : ML_ T) (hmc : MC_ T) (hri : RI_ T) (hsh : SH_ T) : Ct_ yX11_lineUp zX11_lineUp T [vR 111 0, vI p, vI m, vI sd] (po_X11_lineUp_f T p m sd) := by
  refine ct_of pn_11 rfl rfl (Nat.le_of_ble_eq_true rfl) (fun hT hav => ?_)
  have hr_p : -2147483648 ≤ p ∧ p ≤ 2147483647 := hav (vI p) (List.mem_cons_of_mem _ List.mem_cons_self)
  have hr_m : -2147483648 ≤ m ∧ m ≤ 2147483647 := hav (vI m) (List.mem_cons_of_mem _ (List.mem_cons_of_mem _ List.mem_cons_self))
  have hr_sd : -2147483648 ≤ sd ∧ sd ≤ 2147483647 := hav (vI sd) (List.mem_cons_of_mem _ (List.mem_cons_of_mem _ (List.mem_cons_of_mem _ List.mem_cons_self)))
  have hz : zX11_lineUp.2.2.2.1 = some .boolean → ∀ (T' : Zt) (x : Int), po_X11_lineUp_f T p m sd T' (some (vI x)) → 0 ≤ x ∧ x ≤ 1 := fun h => by cases h
  have hb_29 : 0 ≤ T 111 0 29 ∧ T 111 0 29 ≤ 400 := bd_f hT 111 29 tl_11_29 0
  have hb_15 : 0 ≤ T 111 0 15 ∧ T 111 0 15 ≤ 200 := bd_f hT 111 15 tl_11_15 0
  have hb_6 : 0 ≤ T 111 0 6 ∧ T 111 0 6 ≤ 4 := bd_f hT 111 6 tl_11_6 0
  have wb9 := wyR_b (T := T) (q := p) (p := m) (d := sd)
  show J_ zX11_lineUp T (po_X11_lineUp_f T p m sd) 0 0 0 [some (vR 111 0), some (vI p), some (vI m), some (vI sd), none, none] [] T
  refine j_blx (F := fX11) tb_X11 (nn_ _) bk_X11_lineUp_f_0 bs_X11_lineUp_f_0 hz (fun K hK => ?_)
  intro b1 b1b
  refine hK 5 _ [vI (T 111 0 15), vI p] T ?_
  refine j_callS (y := yX11_isOf) (Yc := zX11_isOf) (rest := []) [vI p, vI (T 111 0 15)] (ct_X11_isOf (T := T) (by omega)) cl_X11_317 (qd_c (by decide +kernel)) (nn_ _) rfl (rf_of rfl) (Nat.le_of_ble_eq_true rfl) (Nat.le_of_ble_eq_true rfl) (Nat.le_of_ble_eq_true rfl) rfl ?_
  rintro _ _ ⟨rfl, x2, rfl, hx2⟩
  show J_ zX11_lineUp T (po_X11_lineUp_f T p m sd) 0 0 8 _ [vI x2] T
  refine j_blx (F := fX11) tb_X11 (nn_ _) bk_X11_lineUp_f_8 bs_X11_lineUp_f_8 hz (fun K hK => ?_)
  refine And.intro (fun c3 => ?_) (fun c3 => ?_)
  · replace hx2 := hx2.resolve_left (fun z => absurd (c3.symm.trans z.1) (by decide))
    clear c3
    refine hK 22 _ [] T ?_
    refine j_blx (F := fX11) tb_X11 (nn_ _) bk_X11_lineUp_f_22 bs_X11_lineUp_f_22 hz (fun K hK => ?_)
    refine (show po_X11_lineUp_f T p m sd T (some (vI (-2))) from ?_)
    have wb := wyR_b (T := T) (q := p) (p := m) (d := sd)
    exact ⟨_, rfl, fr_0 _ _, ⟨hsh, fun _ => Int.le_refl _⟩, Or.inl ⟨rfl, by omega, rfl⟩⟩
  · replace hx2 := hx2.resolve_right (fun z => c3 z.1)
    clear c3
    intro b4 b4b
    refine hK 16 _ [vI (T 111 0 29), vI m] T ?_
    refine j_callS (y := yX11_isOf) (Yc := zX11_isOf) (rest := []) [vI m, vI (T 111 0 29)] (ct_X11_isOf (T := T) (by omega)) cl_X11_317 (qd_c (by decide +kernel)) (nn_ _) rfl (rf_of rfl) (Nat.le_of_ble_eq_true rfl) (Nat.le_of_ble_eq_true rfl) (Nat.le_of_ble_eq_true rfl) rfl ?_
    rintro _ _ ⟨rfl, x5, rfl, hx5⟩
    show J_ zX11_lineUp T (po_X11_lineUp_f T p m sd) 0 0 19 _ [vI x5] T
    refine j_blx (F := fX11) tb_X11 (nn_ _) bk_X11_lineUp_f_19 bs_X11_lineUp_f_19 hz (fun K hK => ?_)
    refine And.intro (fun c6 => ?_) (fun c6 => ?_)
    · replace hx5 := hx5.resolve_right (fun z => c6 z.1)
      clear c6
      refine hK 25 _ [] T ?_
      refine j_blx (F := fX11) tb_X11 (nn_ _) bk_X11_lineUp_f_25 bs_X11_lineUp_f_25 hz (fun K hK => ?_)
      refine hK 28 _ [vI 1, vI 0, vI sd] T ?_
      refine j_callS (y := yX11_in) (Yc := zX11_in) (rest := []) [vI sd, vI 0, vI 1] (ct_X11_in (T := T)) cl_X11_255 (qd_c (by decide +kernel)) (nn_ _) rfl (rf_of rfl) (Nat.le_of_ble_eq_true rfl) (Nat.le_of_ble_eq_true rfl) (Nat.le_of_ble_eq_true rfl) rfl ?_
      rintro _ _ ⟨rfl, x7, rfl, hx7⟩
      show J_ zX11_lineUp T (po_X11_lineUp_f T p m sd) 0 0 31 _ [vI x7] T
      refine j_blx (F := fX11) tb_X11 (nn_ _) bk_X11_lineUp_f_31 bs_X11_lineUp_f_31 hz (fun K hK => ?_)
      refine And.intro (fun c8 => ?_) (fun c8 => ?_)
      · replace hx7 := hx7.resolve_right (fun z => c8 z.1)
        clear c8
        refine hK 37 _ [] T ?_
        refine j_blx (F := fX11) tb_X11 (nn_ _) bk_X11_lineUp_f_37 bs_X11_lineUp_f_37 hz (fun K hK => ?_)
        refine ix_i (by omega) ?_
        intro b9 b9b
        refine And.intro (fun c10 => ?_) (fun c10 => ?_)
        · refine hK 49 _ [] T ?_
          refine j_blx (F := fX11) tb_X11 (nn_ _) bk_X11_lineUp_f_49 bs_X11_lineUp_f_49 hz (fun K hK => ?_)
          refine rg_i (by omega) ?_
          refine rg_i (by omega) ?_
          refine ix_i (by omega) ?_
          intro b11 b11b
          refine ix_i (by omega) ?_
          intro b12 b12b
          refine hK 72 [some (vR 111 0), some (vI p), some (vI m), some (vI sd), some (vI ((2 * m) + sd)), none] [vI 9, vI (T 230 0 m), vR 111 0, vI (T 239 0 ((2 * m) + sd))] T ?_
          refine j_callV (y := yX11_rule0) (Yc := zX11_rule0) (rest := [vI (T 239 0 ((2 * m) + sd))]) [vI (T 230 0 m), vI 9] (ct_X11_rule0 (T := T) (by omega) (by omega)) cl_X11_321 (qd_c (by decide +kernel)) (nn_ _) rfl (rf_of rfl) (Nat.le_of_ble_eq_true rfl) (Nat.le_of_ble_eq_true rfl) (Nat.le_of_ble_eq_true rfl) rfl ?_
          rintro _ _ ⟨rfl, rfl⟩
          show J_ zX11_lineUp T (po_X11_lineUp_f T p m sd) 0 0 75 _ [vI (T 205 0 (23 * (T 230 0 m) + 9)), vI (T 239 0 ((2 * m) + sd))] T
          have hcm := hmc m (by omega) (by omega)
          have hr9 : (1 : Int) ≤ T 205 0 (23 * T 230 0 m + 9) ∧ T 205 0 (23 * T 230 0 m + 9) ≤ (6 : Int) := hri (T 230 0 m) 9 (by omega) (by omega) (by omega) (by omega)
          have hsm := (hsh m sd (by omega) (by omega) (by omega) (by omega)).1 (by omega)
          refine j_blx (F := fX11) tb_X11 (nn_ _) bk_X11_lineUp_f_75 bs_X11_lineUp_f_75 hz (fun K hK => ?_)
          refine rg_i (by omega) ?_
          refine And.intro (fun c13 => ?_) (fun c13 => ?_)
          · refine hK 83 _ [] T ?_
            refine j_blx (F := fX11) tb_X11 (nn_ _) bk_X11_lineUp_f_83 bs_X11_lineUp_f_83 hz (fun K hK => ?_)
            refine hK 87 _ [vI sd, vI m, vI p, vR 111 0] T ?_
            refine j_callV (y := yX11_whyNot) (Yc := zX11_whyNot) (rest := []) [vI p, vI m, vI sd] (ct_X11_whyNot_f (T := T) (by omega) hml hmc hri) cl_X11_387 (qd_c (by decide +kernel)) (nn_ _) rfl (rf_of rfl) (Nat.le_of_ble_eq_true rfl) (Nat.le_of_ble_eq_true rfl) (Nat.le_of_ble_eq_true rfl) rfl ?_
            rintro _ _ ⟨rfl, x14, rfl, hx14⟩
            show J_ zX11_lineUp T (po_X11_lineUp_f T p m sd) 0 0 90 _ [vI x14] T
            refine j_blx (F := fX11) tb_X11 (nn_ _) bk_X11_lineUp_f_90 bs_X11_lineUp_f_90 hz (fun K hK => ?_)
            refine And.intro (fun c15 => ?_) (fun c15 => ?_)
            · refine hK 103 [some (vR 111 0), some (vI p), some (vI m), some (vI sd), some (vI ((2 * m) + sd)), some (vI x14)] [] T ?_
              refine j_blx (F := fX11) tb_X11 (nn_ _) bk_X11_lineUp_f_103 bs_X11_lineUp_f_103 hz (fun K hK => ?_)
              refine rg_i (by omega) ?_
              refine ix_i (by omega) ?_
              intro b16 b16b
              refine rg_i (by omega) ?_
              refine iy_i (by omega) (by omega) ?_
              refine x_nm (fun U17 hU17 => ?_)
              have e18 := up_f hU17
              refine ix_i (by omega) ?_
              intro b19 b19b
              have e20 : U17 239 0 ((2 * m) + sd) = T 239 0 ((2 * m) + sd) := up_k hU17 (by exact Nat.ne_of_beq_eq_false rfl) 0 ((2 * m) + sd)
              rw [e20] at b19 b19b ⊢
              refine rg_i (by omega) ?_
              refine iy_i (by omega) (by omega) ?_
              refine x_nm (fun U21 hU21 => ?_)
              have e22 := up_f hU21
              refine ix_i (by omega) ?_
              intro b23 b23b
              have e24 : U21 239 0 ((2 * m) + sd) = (T 239 0 ((2 * m) + sd)) + 1 := up_f hU21
              rw [e24] at b23 b23b ⊢
              refine (show po_X11_lineUp_f T p m sd U21 (some (vI ((T 239 0 ((2 * m) + sd)) + 1))) from ?_)
              have es : ∀ z, z ≠ 2 * m + sd → U21 239 0 z = T 239 0 z := fun z hz => (up_g hU21 (fun q => hz q.2.2)).trans (up_k hU17 (by exact Nat.ne_of_beq_eq_false rfl) 0 z)
              have er : ∀ z, U21 205 0 z = T 205 0 z := fun z => (up_k hU21 (by exact Nat.ne_of_beq_eq_false rfl) 0 z).trans (up_k hU17 (by exact Nat.ne_of_beq_eq_false rfl) 0 z)
              have ec : ∀ z, U21 230 0 z = T 230 0 z := fun z => (up_k hU21 (by exact Nat.ne_of_beq_eq_false rfl) 0 z).trans (up_k hU17 (by exact Nat.ne_of_beq_eq_false rfl) 0 z)
              have e29 : U21 111 0 29 = T 111 0 29 := (up_k hU21 (by exact Nat.ne_of_beq_eq_false rfl) 0 29).trans (up_k hU17 (by exact Nat.ne_of_beq_eq_false rfl) 0 29)
              have eg : ∀ z, T 239 0 z ≤ U21 239 0 z := fun z => by
                by_cases y : z = 2 * m + sd
                · rw [y]; omega
                · rw [es z y]; exact Int.le_refl _
              have sr9 : SRR_ T U21 m sd p := ⟨(up_k hU21 (by exact Nat.ne_of_beq_eq_false rfl) 0 _).trans (up_x hU17 (by omega)), by omega, fun j hj => (up_k hU21 (by exact Nat.ne_of_beq_eq_false rfl) 0 j).trans (up_g hU17 (fun z => hj (by omega))), es⟩
              refine ⟨_, rfl, fr_u (fr_u (fr_0 _ _) hU17 rfl) hU21 rfl, ⟨fun m9 s9 a b c d => ?_, eg⟩, Or.inr ⟨by omega, Or.inr ⟨by omega, Or.inr ⟨by omega, Or.inr ⟨by omega, Or.inr ⟨by omega, by omega, sr9⟩⟩⟩⟩⟩⟩
              have y := hsh m9 s9 a b c d
              rw [er, ec, e29]
              by_cases z9 : m9 = m ∧ s9 = sd
              · obtain ⟨rfl, rfl⟩ := z9
                have e8 : U21 239 0 (2 * m9 + s9) = T 239 0 (2 * m9 + s9) + 1 := Int.le_antisymm (by omega) (by omega)
                rw [e8]; omega
              · rw [es _ (by omega)]; exact y
            · refine rg_i (by omega) ?_
              refine (show po_X11_lineUp_f T p m sd T (some (vI ((-10) - x14))) from ?_)
              have wb := wyR_b (T := T) (q := p) (p := m) (d := sd)
              exact ⟨_, rfl, fr_0 _ _, ⟨hsh, fun _ => Int.le_refl _⟩, Or.inr ⟨by omega, Or.inr ⟨by omega, Or.inr ⟨by omega, Or.inr ⟨by omega, Or.inl ⟨by omega, by omega, rfl⟩⟩⟩⟩⟩⟩
          · refine (show po_X11_lineUp_f T p m sd T (some (vI (-5))) from ?_)
            have wb := wyR_b (T := T) (q := p) (p := m) (d := sd)
            exact ⟨_, rfl, fr_0 _ _, ⟨hsh, fun _ => Int.le_refl _⟩, Or.inr ⟨by omega, Or.inr ⟨by omega, Or.inr ⟨by omega, Or.inl ⟨rfl, by omega, rfl⟩⟩⟩⟩⟩
        · refine (show po_X11_lineUp_f T p m sd T (some (vI (-4))) from ?_)
          have wb := wyR_b (T := T) (q := p) (p := m) (d := sd)
          exact ⟨_, rfl, fr_0 _ _, ⟨hsh, fun _ => Int.le_refl _⟩, Or.inr ⟨by omega, Or.inr ⟨by omega, Or.inl ⟨rfl, by omega, rfl⟩⟩⟩⟩
      · replace hx7 := hx7.resolve_left (fun z => absurd (c8.symm.trans z.1) (by decide))
        clear c8
        refine (show po_X11_lineUp_f T p m sd T (some (vI (-3))) from ?_)
        have wb := wyR_b (T := T) (q := p) (p := m) (d := sd)
        exact ⟨_, rfl, fr_0 _ _, ⟨hsh, fun _ => Int.le_refl _⟩, Or.inr ⟨by omega, Or.inl ⟨rfl, by omega, rfl⟩⟩⟩
    · replace hx5 := hx5.resolve_left (fun z => absurd (c6.symm.trans z.1) (by decide))
      clear c6
      refine (show po_X11_lineUp_f T p m sd T (some (vI (-2))) from ?_)
      have wb := wyR_b (T := T) (q := p) (p := m) (d := sd)
      exact ⟨_, rfl, fr_0 _ _, ⟨hsh, fun _ => Int.le_refl _⟩, Or.inl ⟨rfl, by omega, rfl⟩⟩

