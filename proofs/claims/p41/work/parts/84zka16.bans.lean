-- bans: matches in the order of their days
abbrev Dy_ : Type := Int × Int
/-- all that count, in order, as far as a place in it -/
noncomputable def bf_ (day : Int → Int) (rel : Int → Prop) (st : Int → Dy_ → Dy_) (f n : Int) : Nat → Dy_
  | 0 => (0, 0)
  | K + 1 => cz_ (f ≤ (K : Int) % 400 ∧ (K : Int) % 400 < f + n ∧ day ((K : Int) % 400) = (K : Int) / 400 ∧ rel ((K : Int) % 400)) (st ((K : Int) % 400) (bf_ day rel st f n K)) (bf_ day rel st f n K)
theorem bf_t {day : Int → Int} {rel : Int → Prop} {st : Int → Dy_ → Dy_} {f n : Int} {K : Nat} (h : f ≤ (K : Int) % 400 ∧ (K : Int) % 400 < f + n ∧ day ((K : Int) % 400) = (K : Int) / 400 ∧ rel ((K : Int) % 400)) : bf_ day rel st f n (K + 1) = st ((K : Int) % 400) (bf_ day rel st f n K) := sorry
theorem bf_f {day : Int → Int} {rel : Int → Prop} {st : Int → Dy_ → Dy_} {f n : Int} {K : Nat} (h : ¬ (f ≤ (K : Int) % 400 ∧ (K : Int) % 400 < f + n ∧ day ((K : Int) % 400) = (K : Int) / 400 ∧ rel ((K : Int) % 400))) : bf_ day rel st f n (K + 1) = bf_ day rel st f n K := sorry
/-- where none counts, nothing is done -/
theorem bf_g {day : Int → Int} {rel : Int → Prop} {st : Int → Dy_ → Dy_} {f n : Int} (A : Nat) : ∀ t : Nat, (∀ m, f ≤ m → m < f + n → rel m → (A : Int) ≤ day m * 400 + m → ¬ day m * 400 + m < (A : Int) + (t : Int)) → bf_ day rel st f n (A + t) = bf_ day rel st f n A := sorry
theorem bf_i {day : Int → Int} {rel : Int → Prop} {st : Int → Dy_ → Dy_} {f n A B : Int} (h0 : 0 ≤ A) (h1 : A ≤ B) (h : ∀ m, f ≤ m → m < f + n → rel m → A ≤ day m * 400 + m → ¬ day m * 400 + m < B) : bf_ day rel st f n B.toNat = bf_ day rel st f n A.toNat := sorry
theorem bf_s {day : Int → Int} {rel : Int → Prop} {st : Int → Dy_ → Dy_} {f n m : Int} (m0 : 0 ≤ m) (m1 : m < 400) (d0 : 0 ≤ day m) (hf : f ≤ m) (hn : m < f + n) (hr : rel m) : bf_ day rel st f n (day m * 400 + m + 1).toNat = st m (bf_ day rel st f n (day m * 400 + m).toNat) := sorry
theorem bf_n {day : Int → Int} {rel : Int → Prop} {st : Int → Dy_ → Dy_} {f n m : Int} (m0 : 0 ≤ m) (m1 : m < 400) (d0 : 0 ≤ day m) (hr : ¬ rel m) : bf_ day rel st f n (day m * 400 + m + 1).toNat = bf_ day rel st f n (day m * 400 + m).toNat := sorry
theorem bf_c {day day' : Int → Int} {rel rel' : Int → Prop} {st st' : Int → Dy_ → Dy_} {f n : Int} (hd : ∀ m, f ≤ m → m < f + n → day' m = day m) (hr : ∀ m, f ≤ m → m < f + n → (rel' m ↔ rel m)) (hs : ∀ m, f ≤ m → m < f + n → rel m → st' m = st m) : ∀ K : Nat, bf_ day' rel' st' f n K = bf_ day rel st f n K := sorry
/-- what a match does to debt and yellow cards: kd 0 nothing, 1 sent off, 2 cards yv -/
noncomputable def sbn_ (red cards : Int) (kd yv : Int → Int) (m : Int) (x : Dy_) : Dy_ :=
  cz_ (kd m = 1) (wr_ (wr_ (x.1 - cz_ (0 < x.1) 1 0) + red), x.2) (cz_ (kd m = 2) (wr_ (wr_ (x.1 - cz_ (0 < x.1) 1 0) + cz_ (0 < cards ∧ dq_ x.2 cards < dq_ (wr_ (x.2 + yv m)) cards) 1 0), wr_ (x.2 + yv m)) (wr_ (x.1 - cz_ (0 < x.1) 1 0), x.2))
theorem sbn_1 {red cards : Int} {kd yv : Int → Int} {m : Int} {x : Dy_} (h : kd m = 1) : sbn_ red cards kd yv m x = (wr_ (wr_ (x.1 - cz_ (0 < x.1) 1 0) + red), x.2) := sorry
theorem sbn_2 {red cards : Int} {kd yv : Int → Int} {m : Int} {x : Dy_} (h : kd m = 2) : sbn_ red cards kd yv m x = (wr_ (wr_ (x.1 - cz_ (0 < x.1) 1 0) + cz_ (0 < cards ∧ dq_ x.2 cards < dq_ (wr_ (x.2 + yv m)) cards) 1 0), wr_ (x.2 + yv m)) := sorry
theorem sbn_0 {red cards : Int} {kd yv : Int → Int} {m : Int} {x : Dy_} (h : kd m ≠ 1) (g : kd m ≠ 2) : sbn_ red cards kd yv m x = (wr_ (x.1 - cz_ (0 < x.1) 1 0), x.2) := sorry
-- a list of those that count, in order
def LHD_ (day : Int → Int) (rel : Int → Prop) (L : Int → Int) (f k kp x : Int) : Prop :=
  (∀ j, 0 ≤ j → j < x → f ≤ L j ∧ L j < f + k ∧ rel (L j) ∧ day (L j) * 400 + L j < kp) ∧ (∀ i j, 0 ≤ i → i < j → j < x → day (L i) * 400 + L i < day (L j) * 400 + L j) ∧ ∀ m, f ≤ m → m < f + k → rel m → day m * 400 + m < kp → ∃ j, 0 ≤ j ∧ j < x ∧ L j = m
theorem lhd_0 {day : Int → Int} {rel : Int → Prop} {L : Int → Int} {f kp : Int} : LHD_ day rel L f 0 kp 0 := sorry
theorem lhd_n {day : Int → Int} {rel : Int → Prop} {L : Int → Int} {f k kp x : Int} (h : LHD_ day rel L f k kp x) (hn : ¬ (rel (f + k) ∧ day (f + k) * 400 + (f + k) < kp)) : LHD_ day rel L f (k + 1) kp x := sorry
theorem lhd_e {day : Int → Int} {rel : Int → Prop} {L L' : Int → Int} {f k kp x : Int} (h : LHD_ day rel L f k kp x) (e : ∀ j, 0 ≤ j → j < x → L' j = L j) : LHD_ day rel L' f k kp x := sorry
/-- one more is put where it belongs -/
theorem lhd_i {day : Int → Int} {rel : Int → Prop} {L L' : Int → Int} {f k kp x t m : Int} (h : LHD_ day rel L f k kp x) (hm : m = f + k) (h0 : 0 ≤ f) (h4 : f + k < 400) (k0 : 0 ≤ k) (hr : rel m) (hk : day m * 400 + m < kp) (t0 : 0 ≤ t) (t1 : t ≤ x) (g1 : ∀ j, t ≤ j → j < x → day m < day (L j)) (g2 : t = 0 ∨ day (L (t - 1)) ≤ day m) (e1 : ∀ j, 0 ≤ j → j < t → L' j = L j) (e2 : L' t = m) (e3 : ∀ j, t < j → j ≤ x → L' j = L (j - 1)) : LHD_ day rel L' f (k + 1) kp (x + 1) := sorry
/-- the next one behind lo, ahead of hi -/
def NXM_ (day : Int → Int) (f n lo hi x : Int) : Prop := (x = -1 ∧ ∀ m, f ≤ m → m < f + n → lo < day m * 400 + m → ¬ day m * 400 + m < hi) ∨ ((f ≤ x ∧ x < f + n ∧ lo < day x * 400 + x ∧ day x * 400 + x < hi) ∧ ∀ m, f ≤ m → m < f + n → lo < day m * 400 + m → day m * 400 + m < hi → day x * 400 + x ≤ day m * 400 + m)
theorem nxm_0 {day : Int → Int} {f lo hi : Int} : NXM_ day f 0 lo hi (-1) := sorry
theorem nxm_k {day : Int → Int} {f n lo hi x : Int} (h : NXM_ day f n lo hi x) (c : ¬ (lo < day (f + n) * 400 + (f + n) ∧ day (f + n) * 400 + (f + n) < hi) ∨ (x ≠ -1 ∧ day x * 400 + x ≤ day (f + n) * 400 + (f + n))) : NXM_ day f (n + 1) lo hi x := sorry
theorem nxm_t {day : Int → Int} {f n lo hi x : Int} (h : NXM_ day f n lo hi x) (f0 : 0 ≤ f) (n0 : 0 ≤ n) (c : lo < day (f + n) * 400 + (f + n) ∧ day (f + n) * 400 + (f + n) < hi) (d : x = -1 ∨ day (f + n) * 400 + (f + n) ≤ day x * 400 + x) : NXM_ day f (n + 1) lo hi (f + n) := sorry
theorem sb_d {d : Int} (hd : 0 ≤ d ∧ d ≤ 1000000) {d1 : Int} (e : (0 < d ∧ d1 = d - 1) ∨ (¬ 0 < d ∧ d1 = d)) : wr_ (d - cz_ (0 < d) 1 0) = d1 := sorry
theorem sb_0 {red cards : Int} {kd yv : Int → Int} {m d y d2 : Int} (hk : kd m = 0) (hd : 0 ≤ d ∧ d ≤ 1000000) (e : (0 < d ∧ d2 = d - 1) ∨ (¬ 0 < d ∧ d2 = d)) : (d2, y) = sbn_ red cards kd yv m (d, y) := sorry
theorem sb_1 {red cards : Int} {kd yv : Int → Int} {m d y d1 d2 : Int} (hk : kd m = 1) (hd : 0 ≤ d ∧ d ≤ 1000000) (hr : 0 ≤ red ∧ red ≤ 1000) (e : (0 < d ∧ d1 = d - 1) ∨ (¬ 0 < d ∧ d1 = d)) (e2 : d2 = d1 + red) : (d2, y) = sbn_ red cards kd yv m (d, y) := sorry
theorem sb_2 {red cards : Int} {kd yv : Int → Int} {m d y d1 d2 y2 : Int} (hk : kd m = 2) (hd : 0 ≤ d ∧ d ≤ 1000000) (e : (0 < d ∧ d1 = d - 1) ∨ (¬ 0 < d ∧ d1 = d)) (e2 : ((0 < cards ∧ dq_ y cards < dq_ (wr_ (y + yv m)) cards) ∧ d2 = d1 + 1) ∨ (¬ (0 < cards ∧ dq_ y cards < dq_ (wr_ (y + yv m)) cards) ∧ d2 = d1)) (ey : y2 = wr_ (y + yv m)) : (d2, y2) = sbn_ red cards kd yv m (d, y) := sorry
/-- the first of a list: nothing is done before it -/
theorem bf_L0 {day : Int → Int} {rel : Int → Prop} {st : Int → Dy_ → Dy_} {L : Int → Int} {f n kp x B : Int} (h : LHD_ day rel L f n kp x) (b0 : 0 ≤ B) (h1 : 0 < x → B = day (L 0) * 400 + L 0) (h2 : ¬ 0 < x → B = kp) : bf_ day rel st f n B.toNat = (0, 0) := sorry
theorem bf_Ls {day : Int → Int} {rel : Int → Prop} {st : Int → Dy_ → Dy_} {L : Int → Int} {f n kp x B k : Int} (h : LHD_ day rel L f n kp x) (f0 : 0 ≤ f) (f4 : f + n ≤ 400) (dp : ∀ m, f ≤ m → m < f + n → 0 ≤ day m) (k0 : 0 ≤ k) (k1 : k < x) (h1 : k + 1 < x → B = day (L (k + 1)) * 400 + L (k + 1)) (h2 : ¬ k + 1 < x → B = kp) : bf_ day rel st f n B.toNat = st (L k) (bf_ day rel st f n (day (L k) * 400 + L k).toNat) := sorry
-- where a person is on the sheets
def plN_ (T : Zt) (m q s : Int) : Nat → Int → Int
  | 0, _ => -1
  | n + 1, i => if T 448 m (s * 10 + i) = q then s * 10 + i else plN_ T m q s n (i + 1)
theorem plN_t {T : Zt} {m q s i : Int} {n : Nat} (h : T 448 m (s * 10 + i) = q) : plN_ T m q s (n + 1) i = s * 10 + i := sorry
theorem plN_f {T : Zt} {m q s i : Int} {n : Nat} (h : T 448 m (s * 10 + i) ≠ q) : plN_ T m q s (n + 1) i = plN_ T m q s n (i + 1) := sorry
noncomputable def plc_ (T : Zt) (m q : Int) : Int := cz_ (plN_ T m q 0 (T 449 m 0).toNat 0 ≠ -1) (plN_ T m q 0 (T 449 m 0).toNat 0) (plN_ T m q 1 (T 449 m 1).toNat 0)
theorem plN_b {T : Zt} {m q s : Int} : ∀ (n : Nat) (i : Int), plN_ T m q s n i = -1 ∨ (s * 10 + i ≤ plN_ T m q s n i ∧ plN_ T m q s n i < s * 10 + i + n ∧ T 448 m (plN_ T m q s n i) = q) := sorry
theorem plc_0 {T : Zt} {m q : Int} (h : plN_ T m q 0 (T 449 m 0).toNat 0 ≠ -1) : plc_ T m q = plN_ T m q 0 (T 449 m 0).toNat 0 := sorry
theorem plc_1 {T : Zt} {m q : Int} (h : plN_ T m q 0 (T 449 m 0).toNat 0 = -1) : plc_ T m q = plN_ T m q 1 (T 449 m 1).toNat 0 := sorry
theorem plc_b {T : Zt} {m q : Int} (h0 : T 449 m 0 ≤ 10) (h1 : T 449 m 1 ≤ 10) : plc_ T m q = -1 ∨ (0 ≤ plc_ T m q ∧ plc_ T m q < 20 ∧ T 448 m (plc_ T m q) = q) := sorry
/-- which matches count for a person's bans, as the house tells them -/
def rlH_ (T : Zt) (q m : Int) : Prop := (T 102 m 6 ≠ -1 ∨ (T 102 m 10 ≠ 0 ∧ T 103 m 3 ≠ 0)) ∧ (T 102 m 3 = co9_c T q (T 102 m 5) ∨ T 102 m 4 = co9_c T q (T 102 m 5))
noncomputable def kdH_ (T : Zt) (q m : Int) : Int := cz_ (T 102 m 10 = 0 ∨ plc_ T m q = -1) 0 (cz_ (T 472 m (plc_ T m q) = 3) 1 2)
noncomputable def yvH_ (T : Zt) (q m : Int) : Int := T 473 m (plc_ T m q)
theorem kdH_0 {T : Zt} {q m : Int} (h : T 102 m 10 = 0 ∨ plc_ T m q = -1) : kdH_ T q m = 0 := sorry
theorem kdH_1 {T : Zt} {q m : Int} (h : ¬ (T 102 m 10 = 0 ∨ plc_ T m q = -1)) (g : T 472 m (plc_ T m q) = 3) : kdH_ T q m = 1 := sorry
theorem kdH_2 {T : Zt} {q m : Int} (h : ¬ (T 102 m 10 = 0 ∨ plc_ T m q = -1)) (g : T 472 m (plc_ T m q) ≠ 3) : kdH_ T q m = 2 := sorry
/-- whether a person is banned, as the house tells it -/
noncomputable def bnH_ (T : Zt) (q p : Int) : Int := (bf_ (fun m => T 102 m 5) (rlH_ T q) (sbn_ (T 401 (T 102 p 0) 14) (T 401 (T 102 p 0) 13) (kdH_ T q) (yvH_ T q)) (T 100 (T 102 p 0) 7) (T 100 (T 102 p 0) 8) (T 102 p 5 * 400 + p).toNat).1
/-- as the reference tells it -/
def rlR_ (T : Zt) (q m : Int) : Prop := (T 235 0 m = 2 ∨ T 235 0 m = 3) ∧ co9_c T q (T 234 0 m) ≠ -1 ∧ (co9_c T q (T 234 0 m) = T 232 0 m ∨ co9_c T q (T 234 0 m) = T 233 0 m)
noncomputable def slc_ (T : Zt) (m q : Int) : Int := cz_ (ab9_ m (slR_ (rp9_ T m) 0 q) ≠ -1) (ab9_ m (slR_ (rp9_ T m) 0 q)) (ab9_ m (slR_ (rp9_ T m) 1 q))
noncomputable def kdR_ (T : Zt) (q m : Int) : Int := cz_ (T 235 0 m = 2 ∧ slc_ T m q ≠ -1) (cz_ (T 243 0 (slc_ T m q) = 1) 1 2) 0
noncomputable def yvR_ (T : Zt) (q m : Int) : Int := T 242 0 (slc_ T m q)
noncomputable def bnR_ (T : Zt) (q p : Int) : Int := (bf_ (fun m => T 234 0 m) (rlR_ T q) (sbn_ (T 205 0 (23 * T 230 0 p + 14)) (T 205 0 (23 * T 230 0 p + 13)) (kdR_ T q) (yvR_ T q)) (T 210 0 (T 230 0 p)) (T 211 0 (T 230 0 p)) (T 234 0 p * 400 + p).toNat).1
theorem kdR_0 {T : Zt} {q m : Int} (h : ¬ (T 235 0 m = 2 ∧ slc_ T m q ≠ -1)) : kdR_ T q m = 0 := sorry
theorem kdR_1 {T : Zt} {q m : Int} (h : T 235 0 m = 2 ∧ slc_ T m q ≠ -1) (g : T 243 0 (slc_ T m q) = 1) : kdR_ T q m = 1 := sorry
theorem kdR_2 {T : Zt} {q m : Int} (h : T 235 0 m = 2 ∧ slc_ T m q ≠ -1) (g : T 243 0 (slc_ T m q) ≠ 1) : kdR_ T q m = 2 := sorry
theorem slc_0 {T : Zt} {m q a : Int} (e : a = ab9_ m (slR_ (rp9_ T m) 0 q)) (h : a ≠ -1) : slc_ T m q = a := sorry
theorem slc_1 {T : Zt} {m q a b : Int} (e : a = ab9_ m (slR_ (rp9_ T m) 0 q)) (h : a = -1) (eb : b = ab9_ m (slR_ (rp9_ T m) 1 q)) : slc_ T m q = b := sorry
-- why a person may not come on a sheet
def elsH_ (T : Zt) (q p : Int) : Prop := ∃ k, 0 ≤ k ∧ k < T 106 0 4 ∧ k ≠ p ∧ T 102 k 5 = T 102 p 5 ∧ T 102 k 6 = -1 ∧ plc_ T k q ≠ -1
noncomputable def wyH_ (T : Zt) (q p d : Int) : Int := cz_ (co9_c T q (T 102 p 5) ≠ cz_ (d = 0) (T 102 p 3) (T 102 p 4)) 1 (cz_ (0 < bnH_ T q p) 2 (cz_ (plc_ T p q ≠ -1) 3 (cz_ (elsH_ T q p) 4 0)))
def elsR_ (T : Zt) (q p : Int) : Prop := ∃ k, 0 ≤ k ∧ k < T 111 0 29 ∧ k ≠ p ∧ T 234 0 k = T 234 0 p ∧ T 235 0 k ≠ 3 ∧ slc_ T k q ≠ -1
noncomputable def wyR_ (T : Zt) (q p d : Int) : Int := cz_ (co9_c T q (T 234 0 p) ≠ cz_ (d = 0) (T 232 0 p) (T 233 0 p)) 1 (cz_ (0 < bnR_ T q p) 2 (cz_ (slc_ T p q ≠ -1) 3 (cz_ (elsR_ T q p) 4 0)))
theorem wyH_1 {T : Zt} {q p d : Int} (h : co9_c T q (T 102 p 5) ≠ cz_ (d = 0) (T 102 p 3) (T 102 p 4)) : wyH_ T q p d = 1 := sorry
theorem wyH_2 {T : Zt} {q p d : Int} (h : ¬ co9_c T q (T 102 p 5) ≠ cz_ (d = 0) (T 102 p 3) (T 102 p 4)) (g : 0 < bnH_ T q p) : wyH_ T q p d = 2 := sorry
theorem wyH_3 {T : Zt} {q p d : Int} (h : ¬ co9_c T q (T 102 p 5) ≠ cz_ (d = 0) (T 102 p 3) (T 102 p 4)) (g : ¬ 0 < bnH_ T q p) (i : plc_ T p q ≠ -1) : wyH_ T q p d = 3 := sorry
theorem wyH_4 {T : Zt} {q p d : Int} (h : ¬ co9_c T q (T 102 p 5) ≠ cz_ (d = 0) (T 102 p 3) (T 102 p 4)) (g : ¬ 0 < bnH_ T q p) (i : ¬ plc_ T p q ≠ -1) (j : elsH_ T q p) : wyH_ T q p d = 4 := sorry
theorem wyH_0 {T : Zt} {q p d : Int} (h : ¬ co9_c T q (T 102 p 5) ≠ cz_ (d = 0) (T 102 p 3) (T 102 p 4)) (g : ¬ 0 < bnH_ T q p) (i : ¬ plc_ T p q ≠ -1) (j : ¬ elsH_ T q p) : wyH_ T q p d = 0 := sorry
theorem wyH_b {T : Zt} {q p d : Int} : 0 ≤ wyH_ T q p d ∧ wyH_ T q p d ≤ 4 := sorry
theorem wyR_1 {T : Zt} {q p d : Int} (h : co9_c T q (T 234 0 p) ≠ cz_ (d = 0) (T 232 0 p) (T 233 0 p)) : wyR_ T q p d = 1 := sorry
theorem wyR_2 {T : Zt} {q p d : Int} (h : ¬ co9_c T q (T 234 0 p) ≠ cz_ (d = 0) (T 232 0 p) (T 233 0 p)) (g : 0 < bnR_ T q p) : wyR_ T q p d = 2 := sorry
theorem wyR_3 {T : Zt} {q p d : Int} (h : ¬ co9_c T q (T 234 0 p) ≠ cz_ (d = 0) (T 232 0 p) (T 233 0 p)) (g : ¬ 0 < bnR_ T q p) (i : slc_ T p q ≠ -1) : wyR_ T q p d = 3 := sorry
theorem wyR_4 {T : Zt} {q p d : Int} (h : ¬ co9_c T q (T 234 0 p) ≠ cz_ (d = 0) (T 232 0 p) (T 233 0 p)) (g : ¬ 0 < bnR_ T q p) (i : ¬ slc_ T p q ≠ -1) (j : elsR_ T q p) : wyR_ T q p d = 4 := sorry
theorem wyR_0 {T : Zt} {q p d : Int} (h : ¬ co9_c T q (T 234 0 p) ≠ cz_ (d = 0) (T 232 0 p) (T 233 0 p)) (g : ¬ 0 < bnR_ T q p) (i : ¬ slc_ T p q ≠ -1) (j : ¬ elsR_ T q p) : wyR_ T q p d = 0 := sorry
theorem wyR_b {T : Zt} {q p d : Int} : 0 ≤ wyR_ T q p d ∧ wyR_ T q p d ≤ 4 := sorry
theorem sd_h {T : Zt} {q p d v w : Int} (e : v = co9_c T q (T 102 p 5)) (c : (d = 0 ∧ w = T 102 p 3) ∨ (d ≠ 0 ∧ w = T 102 p 4)) : (v = w) ↔ ¬ co9_c T q (T 102 p 5) ≠ cz_ (d = 0) (T 102 p 3) (T 102 p 4) := sorry
theorem sd_r {T : Zt} {q p d v w : Int} (e : v = co9_c T q (T 234 0 p)) (c : (d = 0 ∧ w = T 232 0 p) ∨ (d ≠ 0 ∧ w = T 233 0 p)) : (v = w) ↔ ¬ co9_c T q (T 234 0 p) ≠ cz_ (d = 0) (T 232 0 p) (T 233 0 p) := sorry
/-- a person comes on a sheet, as the house does it -/
def SHH_ (T T' : Zt) (b s q : Int) : Prop := T' 448 b (s * 10 + T 449 b s) = q ∧ T' 449 b s = T 449 b s + 1 ∧ (∀ i j, ¬ (i = b ∧ j = s * 10 + T 449 b s) → T' 448 i j = T 448 i j) ∧ ∀ i j, ¬ (i = b ∧ j = s) → T' 449 i j = T 449 i j
def SHN_ (T T' : Zt) : Prop := (∀ i j, T' 448 i j = T 448 i j) ∧ ∀ i j, T' 449 i j = T 449 i j
def SRR_ (T T' : Zt) (m s q : Int) : Prop := T' 240 0 (10 * (2 * m + s) + T 239 0 (2 * m + s)) = q ∧ T' 239 0 (2 * m + s) = T 239 0 (2 * m + s) + 1 ∧ (∀ j, j ≠ 10 * (2 * m + s) + T 239 0 (2 * m + s) → T' 240 0 j = T 240 0 j) ∧ ∀ j, j ≠ 2 * m + s → T' 239 0 j = T 239 0 j
abbrev po_X2_has_f (T : Zt) (p : Int) (c : Int) : Zt → Option Zv → Prop := fun T' r => T = T' ∧ ∃ x : Int, r = some (vI x) ∧ ((x = 1 ∧ (T 102 p 3 = c ∨ T 102 p 4 = c)) ∨ (x = 0 ∧ ¬ (T 102 p 3 = c ∨ T 102 p 4 = c)))
set_option maxHeartbeats 4000000 in
theorem ct_X2_has_f {T : Zt} {p : Int} {c : Int} : Ct_ yX2_has zX2_has T [vR 102 p, vI c] (po_X2_has_f T p c) := sorry
abbrev po_X2_placeOf_f (T : Zt) (p : Int) (q : Int) : Zt → Option Zv → Prop := fun T' r => T = T' ∧ ∃ x : Int, r = some (vI x) ∧ (x = plc_ T p q)
set_option maxHeartbeats 4000000 in
theorem ct_X2_placeOf_f {T : Zt} {p : Int} {q : Int} : Ct_ yX2_placeOf zX2_placeOf T [vR 102 p, vI q] (po_X2_placeOf_f T p q) := sorry
theorem spr_w {T T' : Zt} (h : SPR_ T) (f : fr_ [(533, [])] T T') : SPR_ T' := sorry
theorem cnn_k {T T' : Zt} {p d : Int} (e : ∀ k j, k = 217 ∨ k = 218 ∨ k = 219 ∨ k = 220 → T' k 0 j = T k 0 j) : ∀ n : Nat, cnn_ T' p d n = cnn_ T p d n := sorry
theorem co_k {T T' : Zt} (f : fr_ [(533, [])] T T') {p d : Int} : co9_c T' p d = co9_c T p d := sorry
abbrev po_X6_listAhead_f (T : Zt) (p : Int) (q : Int) : Zt → Option Zv → Prop := fun T' r => ∃ x : Int, r = some (vI x) ∧ fr_ [(533, [])] T T' ∧ ((0 ≤ x ∧ x ≤ 400) ∧ (∀ j : Int, 0 ≤ j → j < x → 0 ≤ T' 533 0 j ∧ T' 533 0 j < T 106 0 4) ∧ LHD_ (fun m => T 102 m 5) (rlH_ T q) (fun j => T' 533 0 j) (T 100 (T 102 p 0) 7) (T 100 (T 102 p 0) 8) (T 102 p 5 * 400 + p) x)
set_option maxHeartbeats 4000000 in
theorem ct_X6_listAhead_f {T : Zt} {p : Int} {q : Int} (hka : KA_ T) (hkm : KM_ T) (hkc : KC_ T) (hq : 0 ≤ q ∧ q < 200) (hp : 0 ≤ p ∧ p < T 106 0 4) (hq2 : q < T 108 0 3) (hsp : SPR_ T) : Ct_ yX6_listAhead zX6_listAhead T [vR 106 0, vI q, vR 102 p] (po_X6_listAhead_f T p q) := sorry
abbrev po_X3_isSentOff_f (T : Zt) (p : Int) (k : Int) : Zt → Option Zv → Prop := fun T' r => T = T' ∧ ∃ x : Int, r = some (vI x) ∧ ((x = 1 ∧ T 472 p k = 3) ∨ (x = 0 ∧ T 472 p k ≠ 3))
set_option maxHeartbeats 4000000 in
theorem ct_X3_isSentOff_f {T : Zt} {p : Int} {k : Int} (h1 : 0 ≤ k ∧ k < 20) : Ct_ yX3_isSentOff zX3_isSentOff T [vR 103 p, vI k] (po_X3_isSentOff_f T p k) := sorry
theorem plN_k {T T' : Zt} {m q s : Int} (e : ∀ j, T' 448 m j = T 448 m j) : ∀ (n : Nat) (i : Int), plN_ T' m q s n i = plN_ T m q s n i := sorry
theorem plc_k {T T' : Zt} (f : fr_ [(533, [])] T T') {m q : Int} : plc_ T' m q = plc_ T m q := sorry
abbrev po_X6_isBanned_f (T : Zt) (p : Int) (q : Int) : Zt → Option Zv → Prop := fun T' r => ∃ x : Int, r = some (vI x) ∧ fr_ [(533, [])] T T' ∧ ((x = 1 ∧ 0 < bnH_ T q p) ∨ (x = 0 ∧ ¬ 0 < bnH_ T q p))
set_option maxHeartbeats 4000000 in
theorem ct_X6_isBanned_f {T : Zt} {p : Int} {q : Int} (hka : KA_ T) (hkm : KM_ T) (hkc : KC_ T) (hq : 0 ≤ q ∧ q < 200) (hp : 0 ≤ p ∧ p < T 106 0 4) (hq2 : q < T 108 0 3) (hsp : SPR_ T) : Ct_ yX6_isBanned zX6_isBanned T [vR 106 0, vI q, vR 102 p] (po_X6_isBanned_f T p q) := sorry
abbrev po_X6_whyNot_f (T : Zt) (p : Int) (q d : Int) : Zt → Option Zv → Prop := fun T' r => ∃ x : Int, r = some (vI x) ∧ fr_ [(533, [])] T T' ∧ (x = wyH_ T q p d)
set_option maxHeartbeats 4000000 in
theorem ct_X6_whyNot_f {T : Zt} {p : Int} {q d : Int} (hka : KA_ T) (hkm : KM_ T) (hkc : KC_ T) (hq : 0 ≤ q ∧ q < 200) (hp : 0 ≤ p ∧ p < T 106 0 4) (hq2 : q < T 108 0 3) (hsp : SPR_ T) : Ct_ yX6_whyNot zX6_whyNot T [vR 106 0, vI q, vR 102 p, vI d] (po_X6_whyNot_f T p q d) := sorry
abbrev po_X10_eligible_f (T : Zt) (q m d : Int) : Zt → Option Zv → Prop := fun T' r => ∃ x : Int, r = some (vI x) ∧ fr_ [(533, [])] T T' ∧ ((x = -2 ∧ ¬ ((0 ≤ q ∧ q < T 108 0 3) ∧ 0 ≤ m ∧ m < T 106 0 4)) ∨ (((0 ≤ q ∧ q < T 108 0 3) ∧ 0 ≤ m ∧ m < T 106 0 4) ∧ ((x = -3 ∧ ¬ (0 ≤ d ∧ d ≤ 1)) ∨ ((0 ≤ d ∧ d ≤ 1) ∧ x = wyH_ T q m d))))
set_option maxHeartbeats 4000000 in
theorem ct_X10_eligible_f {T : Zt} {q m d : Int} (hka : KA_ T) (hkm : KM_ T) (hkc : KC_ T) (hsp : SPR_ T) : Ct_ yX10_eligible zX10_eligible T [vR 110 0, vI q, vI m, vI d] (po_X10_eligible_f T q m d) := sorry
abbrev po_X10_lineUp_f (T : Zt) (q b s : Int) : Zt → Option Zv → Prop := fun T' r => ∃ x : Int, r = some (vI x) ∧ fr_ [(448, []), (449, []), (533, [])] T T' ∧ ((x = -2 ∧ ¬ ((0 ≤ q ∧ q < T 108 0 3) ∧ 0 ≤ b ∧ b < T 106 0 4) ∧ SHN_ T T') ∨ (((0 ≤ q ∧ q < T 108 0 3) ∧ 0 ≤ b ∧ b < T 106 0 4) ∧ ((x = -3 ∧ ¬ (0 ≤ s ∧ s ≤ 1) ∧ SHN_ T T') ∨ ((0 ≤ s ∧ s ≤ 1) ∧ ((x = -4 ∧ ¬ (T 102 b 6 = -1 ∧ T 102 b 10 = 0) ∧ SHN_ T T') ∨ ((T 102 b 6 = -1 ∧ T 102 b 10 = 0) ∧ ((x = -5 ∧ T 401 (T 102 b 0) 9 + 4 ≤ T 449 b s ∧ SHN_ T T') ∨ (T 449 b s < T 401 (T 102 b 0) 9 + 4 ∧ ((wyH_ T q b s ≠ 0 ∧ x = -10 - wyH_ T q b s ∧ SHN_ T T') ∨ (wyH_ T q b s = 0 ∧ x = T 449 b s + 1 ∧ SHH_ T T' b s q))))))))))
set_option maxHeartbeats 4000000 in
theorem ct_X10_lineUp_f {T : Zt} {q b s : Int} (hka : KA_ T) (hkm : KM_ T) (hkc : KC_ T) (hkr : KR_ T) (hsp : SPR_ T) : Ct_ yX10_lineUp zX10_lineUp T [vR 110 0, vI q, vI b, vI s] (po_X10_lineUp_f T q b s) := sorry
abbrev po_X11_nextMatch_f (T : Zt) (c be ah : Int) : Zt → Option Zv → Prop := fun T' r => T = T' ∧ ∃ x : Int, r = some (vI x) ∧ ((x = -1 ∨ (0 ≤ x ∧ x < 400)) ∧ NXM_ (fun m => T 234 0 m) (T 210 0 c) (T 211 0 c) (cz_ (be = -1) (-1) (T 234 0 be * 400 + be)) (T 234 0 ah * 400 + ah) x)
set_option maxHeartbeats 4000000 in
theorem ct_X11_nextMatch_f {T : Zt} {c be ah : Int} (h1 : 0 ≤ c ∧ c < 4) (h2 : T 210 0 c + T 211 0 c ≤ 400) (h3 : -1 ≤ be ∧ be < 400) (h4 : 0 ≤ ah ∧ ah < 400) : Ct_ yX11_nextMatch zX11_nextMatch T [vR 111 0, vI c, vI be, vI ah] (po_X11_nextMatch_f T c be ah) := sorry
/-- between one match and the next there is none -/
theorem bn_0 {day : Int → Int} {f n lo hi x B m : Int} (h : NXM_ day f n lo hi x) (f0 : 0 ≤ f) (a : x ≠ -1 → B = day x * 400 + x) (b : x = -1 → B = hi) (m0 : f ≤ m) (m1 : m < f + n) (h0 : lo < day m * 400 + m) (h1 : day m * 400 + m < B) : False := sorry
abbrev po_X11_isBanned_f (T : Zt) (p mx : Int) : Zt → Option Zv → Prop := fun T' r => T = T' ∧ ∃ r9 : Int, r = some (vI r9) ∧ ((r9 = 1 ∧ 0 < bnR_ T p mx) ∨ (r9 = 0 ∧ ¬ 0 < bnR_ T p mx))
set_option maxHeartbeats 4000000 in
theorem ct_X11_isBanned_f {T : Zt} {p mx : Int} (h1 : 0 ≤ mx ∧ mx < T 111 0 29) (hml : ML_ T) (hmc : MC_ T) (hri : RI_ T) : Ct_ yX11_isBanned zX11_isBanned T [vR 111 0, vI p, vI mx] (po_X11_isBanned_f T p mx) := sorry
theorem els_n {T : Zt} {p m : Int} (h : ∀ j, 0 ≤ j → j < T 111 0 29 → ¬ (j ≠ m ∧ T 234 0 j = T 234 0 m ∧ T 235 0 j ≠ 3 ∧ slc_ T j p ≠ -1)) : ¬ elsR_ T p m := sorry
abbrev po_X11_isElsewhere_f (T : Zt) (p m : Int) : Zt → Option Zv → Prop := fun T' r => T = T' ∧ ∃ x : Int, r = some (vI x) ∧ ((x = 1 ∧ elsR_ T p m) ∨ (x = 0 ∧ ¬ elsR_ T p m))
set_option maxHeartbeats 4000000 in
theorem ct_X11_isElsewhere_f {T : Zt} {p m : Int} (h1 : 0 ≤ m ∧ m < 400) : Ct_ yX11_isElsewhere zX11_isElsewhere T [vR 111 0, vI p, vI m] (po_X11_isElsewhere_f T p m) := sorry
abbrev po_X11_whyNot_f (T : Zt) (p m sd : Int) : Zt → Option Zv → Prop := fun T' r => T = T' ∧ ∃ x : Int, r = some (vI x) ∧ (x = wyR_ T p m sd)
set_option maxHeartbeats 4000000 in
theorem ct_X11_whyNot_f {T : Zt} {p m sd : Int} (h1 : 0 ≤ m ∧ m < T 111 0 29) (hml : ML_ T) (hmc : MC_ T) (hri : RI_ T) : Ct_ yX11_whyNot zX11_whyNot T [vR 111 0, vI p, vI m, vI sd] (po_X11_whyNot_f T p m sd) := sorry
abbrev po_X11_eligible_f (T : Zt) (p m sd : Int) : Zt → Option Zv → Prop := fun T' r => T = T' ∧ ∃ x : Int, r = some (vI x) ∧ ((x = -2 ∧ ¬ ((0 ≤ p ∧ p < T 111 0 15) ∧ 0 ≤ m ∧ m < T 111 0 29)) ∨ (((0 ≤ p ∧ p < T 111 0 15) ∧ 0 ≤ m ∧ m < T 111 0 29) ∧ ((x = -3 ∧ ¬ (0 ≤ sd ∧ sd ≤ 1)) ∨ ((0 ≤ sd ∧ sd ≤ 1) ∧ x = wyR_ T p m sd))))
set_option maxHeartbeats 4000000 in
theorem ct_X11_eligible_f {T : Zt} {p m sd : Int} (hml : ML_ T) (hmc : MC_ T) (hri : RI_ T) : Ct_ yX11_eligible zX11_eligible T [vR 111 0, vI p, vI m, vI sd] (po_X11_eligible_f T p m sd) := sorry
abbrev po_X11_lineUp_f (T : Zt) (p m sd : Int) : Zt → Option Zv → Prop := fun T' r => ∃ x : Int, r = some (vI x) ∧ fr_ [(239, []), (240, [])] T T' ∧ ((SH_ T' ∧ ∀ z, T 239 0 z ≤ T' 239 0 z) ∧ ((x = -2 ∧ ¬ ((0 ≤ p ∧ p < T 111 0 15) ∧ 0 ≤ m ∧ m < T 111 0 29) ∧ T = T') ∨ (((0 ≤ p ∧ p < T 111 0 15) ∧ 0 ≤ m ∧ m < T 111 0 29) ∧ ((x = -3 ∧ ¬ (0 ≤ sd ∧ sd ≤ 1) ∧ T = T') ∨ ((0 ≤ sd ∧ sd ≤ 1) ∧ ((x = -4 ∧ T 235 0 m ≠ 0 ∧ T = T') ∨ (T 235 0 m = 0 ∧ ((x = -5 ∧ T 239 0 (2 * m + sd) = T 205 0 (23 * T 230 0 m + 9) + 4 ∧ T = T') ∨ (T 239 0 (2 * m + sd) ≠ T 205 0 (23 * T 230 0 m + 9) + 4 ∧ ((wyR_ T p m sd ≠ 0 ∧ x = -10 - wyR_ T p m sd ∧ T = T') ∨ (wyR_ T p m sd = 0 ∧ x = T 239 0 (2 * m + sd) + 1 ∧ SRR_ T T' m sd p)))))))))))
set_option maxHeartbeats 4000000 in
theorem ct_X11_lineUp_f {T : Zt} {p m sd : Int} (hml : ML_ T) (hmc : MC_ T) (hri : RI_ T) (hsh : SH_ T) : Ct_ yX11_lineUp zX11_lineUp T [vR 111 0, vI p, vI m, vI sd] (po_X11_lineUp_f T p m sd) := sorry
