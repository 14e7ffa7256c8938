-- bans: matches in the order of their days
abbrev Dy_ : Type := Int × Int
/-- all that count, in order, as far as a place in it -/
noncomputable def bf_ (day : Int → Int) (rel : Int → Prop) (st : Int → Dy_ → Dy_) (f n : Int) : Nat → Dy_
  | 0 => (0, 0)
  | K + 1 => cz_ (f ≤ (K : Int) % 400 ∧ (K : Int) % 400 < f + n ∧ day ((K : Int) % 400) = (K : Int) / 400 ∧ rel ((K : Int) % 400)) (st ((K : Int) % 400) (bf_ day rel st f n K)) (bf_ day rel st f n K)
theorem bf_t {day : Int → Int} {rel : Int → Prop} {st : Int → Dy_ → Dy_} {f n : Int} {K : Nat} (h : f ≤ (K : Int) % 400 ∧ (K : Int) % 400 < f + n ∧ day ((K : Int) % 400) = (K : Int) / 400 ∧ rel ((K : Int) % 400)) : bf_ day rel st f n (K + 1) = st ((K : Int) % 400) (bf_ day rel st f n K) := cz_t h
theorem bf_f {day : Int → Int} {rel : Int → Prop} {st : Int → Dy_ → Dy_} {f n : Int} {K : Nat} (h : ¬ (f ≤ (K : Int) % 400 ∧ (K : Int) % 400 < f + n ∧ day ((K : Int) % 400) = (K : Int) / 400 ∧ rel ((K : Int) % 400))) : bf_ day rel st f n (K + 1) = bf_ day rel st f n K := cz_f h
/-- where none counts, nothing is done -/
theorem bf_g {day : Int → Int} {rel : Int → Prop} {st : Int → Dy_ → Dy_} {f n : Int} (A : Nat) : ∀ t : Nat, (∀ m, f ≤ m → m < f + n → rel m → (A : Int) ≤ day m * 400 + m → ¬ day m * 400 + m < (A : Int) + (t : Int)) → bf_ day rel st f n (A + t) = bf_ day rel st f n A
  | 0, _ => rfl
  | t + 1, h => by
    show bf_ day rel st f n (A + t + 1) = _
    rw [bf_f (fun c => h _ c.1 c.2.1 c.2.2.2 (by rw [c.2.2.1]; omega) (by rw [c.2.2.1]; omega))]
    exact bf_g A t (fun m a b c d e => h m a b c d (by omega))
theorem bf_i {day : Int → Int} {rel : Int → Prop} {st : Int → Dy_ → Dy_} {f n A B : Int} (h0 : 0 ≤ A) (h1 : A ≤ B) (h : ∀ m, f ≤ m → m < f + n → rel m → A ≤ day m * 400 + m → ¬ day m * 400 + m < B) : bf_ day rel st f n B.toNat = bf_ day rel st f n A.toNat := by
  rw [show B.toNat = A.toNat + (B - A).toNat by omega]
  exact bf_g A.toNat (B - A).toNat (fun m a b c d e => h m a b c (by omega) (by omega))
theorem bf_s {day : Int → Int} {rel : Int → Prop} {st : Int → Dy_ → Dy_} {f n m : Int} (m0 : 0 ≤ m) (m1 : m < 400) (d0 : 0 ≤ day m) (hf : f ≤ m) (hn : m < f + n) (hr : rel m) : bf_ day rel st f n (day m * 400 + m + 1).toNat = st m (bf_ day rel st f n (day m * 400 + m).toNat) := by
  rw [show (day m * 400 + m + 1).toNat = (day m * 400 + m).toNat + 1 by omega]
  have e1 : (((day m * 400 + m).toNat : Nat) : Int) % 400 = m := by omega
  have e2 : (((day m * 400 + m).toNat : Nat) : Int) / 400 = day m := by omega
  rw [bf_t (by rw [e1, e2]; exact ⟨hf, hn, rfl, hr⟩), e1]
theorem bf_n {day : Int → Int} {rel : Int → Prop} {st : Int → Dy_ → Dy_} {f n m : Int} (m0 : 0 ≤ m) (m1 : m < 400) (d0 : 0 ≤ day m) (hr : ¬ rel m) : bf_ day rel st f n (day m * 400 + m + 1).toNat = bf_ day rel st f n (day m * 400 + m).toNat := by
  rw [show (day m * 400 + m + 1).toNat = (day m * 400 + m).toNat + 1 by omega]
  have e1 : (((day m * 400 + m).toNat : Nat) : Int) % 400 = m := by omega
  rw [bf_f (by rw [e1]; exact fun c => hr c.2.2.2)]
theorem bf_c {day day' : Int → Int} {rel rel' : Int → Prop} {st st' : Int → Dy_ → Dy_} {f n : Int} (hd : ∀ m, f ≤ m → m < f + n → day' m = day m) (hr : ∀ m, f ≤ m → m < f + n → (rel' m ↔ rel m)) (hs : ∀ m, f ≤ m → m < f + n → rel m → st' m = st m) : ∀ K : Nat, bf_ day' rel' st' f n K = bf_ day rel st f n K
  | 0 => rfl
  | K + 1 => by
    by_cases z : f ≤ (K : Int) % 400 ∧ (K : Int) % 400 < f + n ∧ day ((K : Int) % 400) = (K : Int) / 400 ∧ rel ((K : Int) % 400)
    · have z' : f ≤ (K : Int) % 400 ∧ (K : Int) % 400 < f + n ∧ day' ((K : Int) % 400) = (K : Int) / 400 ∧ rel' ((K : Int) % 400) := ⟨z.1, z.2.1, (hd _ z.1 z.2.1).trans z.2.2.1, (hr _ z.1 z.2.1).mpr z.2.2.2⟩
      rw [bf_t z, bf_t z', bf_c hd hr hs K, hs _ z.1 z.2.1 z.2.2.2]
    · have z' : ¬ (f ≤ (K : Int) % 400 ∧ (K : Int) % 400 < f + n ∧ day' ((K : Int) % 400) = (K : Int) / 400 ∧ rel' ((K : Int) % 400)) := fun c => z ⟨c.1, c.2.1, (hd _ c.1 c.2.1).symm.trans c.2.2.1, (hr _ c.1 c.2.1).mp c.2.2.2⟩
      rw [bf_f z, bf_f z', bf_c hd hr hs K]
/-- what a match does to debt and yellow cards: kd 0 nothing, 1 sent off, 2 cards yv -/
noncomputable def sbn_ (red cards : Int) (kd yv : Int → Int) (m : Int) (x : Dy_) : Dy_ :=
  cz_ (kd m = 1) (wr_ (wr_ (x.1 - cz_ (0 < x.1) 1 0) + red), x.2) (cz_ (kd m = 2) (wr_ (wr_ (x.1 - cz_ (0 < x.1) 1 0) + cz_ (0 < cards ∧ dq_ x.2 cards < dq_ (wr_ (x.2 + yv m)) cards) 1 0), wr_ (x.2 + yv m)) (wr_ (x.1 - cz_ (0 < x.1) 1 0), x.2))
theorem sbn_1 {red cards : Int} {kd yv : Int → Int} {m : Int} {x : Dy_} (h : kd m = 1) : sbn_ red cards kd yv m x = (wr_ (wr_ (x.1 - cz_ (0 < x.1) 1 0) + red), x.2) := cz_t h
theorem sbn_2 {red cards : Int} {kd yv : Int → Int} {m : Int} {x : Dy_} (h : kd m = 2) : sbn_ red cards kd yv m x = (wr_ (wr_ (x.1 - cz_ (0 < x.1) 1 0) + cz_ (0 < cards ∧ dq_ x.2 cards < dq_ (wr_ (x.2 + yv m)) cards) 1 0), wr_ (x.2 + yv m)) := by
  unfold sbn_
  rw [cz_f (by omega), cz_t h]
theorem sbn_0 {red cards : Int} {kd yv : Int → Int} {m : Int} {x : Dy_} (h : kd m ≠ 1) (g : kd m ≠ 2) : sbn_ red cards kd yv m x = (wr_ (x.1 - cz_ (0 < x.1) 1 0), x.2) := by
  unfold sbn_
  rw [cz_f h, cz_f g]
-- a list of those that count, in order
def LHD_ (day : Int → Int) (rel : Int → Prop) (L : Int → Int) (f k kp x : Int) : Prop :=
  (∀ j, 0 ≤ j → j < x → f ≤ L j ∧ L j < f + k ∧ rel (L j) ∧ day (L j) * 400 + L j < kp) ∧ (∀ i j, 0 ≤ i → i < j → j < x → day (L i) * 400 + L i < day (L j) * 400 + L j) ∧ ∀ m, f ≤ m → m < f + k → rel m → day m * 400 + m < kp → ∃ j, 0 ≤ j ∧ j < x ∧ L j = m
theorem lhd_0 {day : Int → Int} {rel : Int → Prop} {L : Int → Int} {f kp : Int} : LHD_ day rel L f 0 kp 0 := ⟨fun j a b => by omega, fun i j a b c => by omega, fun m a b => by omega⟩
theorem lhd_n {day : Int → Int} {rel : Int → Prop} {L : Int → Int} {f k kp x : Int} (h : LHD_ day rel L f k kp x) (hn : ¬ (rel (f + k) ∧ day (f + k) * 400 + (f + k) < kp)) : LHD_ day rel L f (k + 1) kp x := by
  refine ⟨fun j a b => ?_, h.2.1, fun m a b c d => ?_⟩
  · have y := h.1 j a b
    exact ⟨y.1, by omega, y.2.2⟩
  · by_cases z : m = f + k
    · exact absurd ⟨z ▸ c, z ▸ d⟩ hn
    · exact h.2.2 m a (by omega) c d
theorem lhd_e {day : Int → Int} {rel : Int → Prop} {L L' : Int → Int} {f k kp x : Int} (h : LHD_ day rel L f k kp x) (e : ∀ j, 0 ≤ j → j < x → L' j = L j) : LHD_ day rel L' f k kp x := by
  refine ⟨fun j a b => ?_, fun i j a b c => ?_, fun m a b c d => ?_⟩
  · rw [e j a b]; exact h.1 j a b
  · rw [e i a (by omega), e j (by omega) c]; exact h.2.1 i j a b c
  · obtain ⟨j, j0, j1, j2⟩ := h.2.2 m a b c d
    exact ⟨j, j0, j1, by rw [e j j0 j1]; exact j2⟩
/-- one more is put where it belongs -/
theorem lhd_i {day : Int → Int} {rel : Int → Prop} {L L' : Int → Int} {f k kp x t m : Int} (h : LHD_ day rel L f k kp x) (hm : m = f + k) (h0 : 0 ≤ f) (h4 : f + k < 400) (k0 : 0 ≤ k) (hr : rel m) (hk : day m * 400 + m < kp) (t0 : 0 ≤ t) (t1 : t ≤ x) (g1 : ∀ j, t ≤ j → j < x → day m < day (L j)) (g2 : t = 0 ∨ day (L (t - 1)) ≤ day m) (e1 : ∀ j, 0 ≤ j → j < t → L' j = L j) (e2 : L' t = m) (e3 : ∀ j, t < j → j ≤ x → L' j = L (j - 1)) : LHD_ day rel L' f (k + 1) kp (x + 1) := by
  have lo : ∀ j, 0 ≤ j → j < t → day (L j) * 400 + L j < day m * 400 + m := fun j a b => by
    have y1 := h.1 j a (by omega)
    have y2 := h.1 (t - 1) (by omega) (by omega)
    rcases g2 with z | z
    · omega
    · by_cases w : j = t - 1
      · rw [w] at y1 ⊢; omega
      · have y3 := h.2.1 j (t - 1) a (by omega) (by omega)
        omega
  have hi : ∀ j, t ≤ j → j < x → day m * 400 + m < day (L j) * 400 + L j := fun j a b => by
    have y1 := g1 j a b
    have y2 := h.1 j (by omega) b
    omega
  refine ⟨fun j a b => ?_, fun i j a b c => ?_, fun q a b c d => ?_⟩
  · rcases Int.lt_trichotomy j t with z | z | z
    · rw [e1 j a z]
      have y := h.1 j a (by omega)
      exact ⟨y.1, by omega, y.2.2⟩
    · rw [z, e2]
      exact ⟨by omega, by omega, hr, hk⟩
    · rw [e3 j z (by omega)]
      have y := h.1 (j - 1) (by omega) (by omega)
      exact ⟨y.1, by omega, y.2.2⟩
  · rcases Int.lt_trichotomy j t with z | z | z
    · rw [e1 i a (by omega), e1 j (by omega) z]; exact h.2.1 i j a b (by omega)
    · rw [z, e2, e1 i a (by omega)]; exact lo i a (by omega)
    · rw [e3 j z (by omega)]
      rcases Int.lt_trichotomy i t with w | w | w
      · rw [e1 i a w]
        by_cases u : i = j - 1
        · omega
        · exact h.2.1 i (j - 1) a (by omega) (by omega)
      · rw [w, e2]; exact hi (j - 1) (by omega) (by omega)
      · rw [e3 i w (by omega)]; exact h.2.1 (i - 1) (j - 1) (by omega) (by omega) (by omega)
  · by_cases z : q = m
    · exact ⟨t, t0, by omega, by rw [e2, z]⟩
    · obtain ⟨j, j0, j1, j2⟩ := h.2.2 q a (by omega) c d
      by_cases w : j < t
      · exact ⟨j, j0, by omega, by rw [e1 j j0 w]; exact j2⟩
      · exact ⟨j + 1, by omega, by omega, by rw [e3 (j + 1) (by omega) (by omega), show j + 1 - 1 = j from Int.le_antisymm (by omega) (by omega)]; exact j2⟩
