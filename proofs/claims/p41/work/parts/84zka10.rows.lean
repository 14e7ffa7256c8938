-- rows of the plays as lists
abbrev Rw_ : Type := Int × Int × Int × Int
def ra9_ (T : Zt) (a i : Int) : Rw_ := (T 190 a (i * 4), T 190 a (i * 4 + 1), T 190 a (i * 4 + 2), T 190 a (i * 4 + 3))
/-- the first n rows of a log -/
def hr9_ (T : Zt) (a : Int) : Nat → List Rw_
  | 0 => []
  | n + 1 => hr9_ T a n ++ [ra9_ T a (n : Int)]
theorem hrw_l {T : Zt} {a : Int} : ∀ n : Nat, (hr9_ T a n).length = n := sorry
theorem hrw_g {T : Zt} {a : Int} {i : Nat} : ∀ n : Nat, i < n → (hr9_ T a n)[i]? = some (ra9_ T a (i : Int)) := sorry
theorem hrw_n {T : Zt} {a : Int} {i n : Nat} (h : n ≤ i) : (hr9_ T a n)[i]? = none := sorry
theorem ra_e {T T' : Zt} {a a' i i' : Int} (h : ∀ j, 0 ≤ j → j < 4 → T' 190 a' (i' * 4 + j) = T 190 a (i * 4 + j)) : ra9_ T' a' i' = ra9_ T a i := sorry
theorem hrw_u {T : Zt} {a : Int} {n : Nat} {l : List Rw_} (hl : l.length = n) (h : ∀ i : Nat, i < n → l[i]? = some (ra9_ T a (i : Int))) : hr9_ T a n = l := sorry
theorem hrw_e {T T' : Zt} {a a' : Int} {n : Nat} (h : ∀ j, 0 ≤ j → j < 4 * (n : Int) → T' 190 a' j = T 190 a j) : hr9_ T' a' n = hr9_ T a n := sorry
/-- a row is written over -/
theorem hrw_s {T T' : Zt} {a i n : Int} {q : Rw_} (h0 : 0 ≤ i) (hi : i < n) (h : ∀ j, ¬ (i * 4 ≤ j ∧ j < i * 4 + 4) → T' 190 a j = T 190 a j) (hq : ra9_ T' a i = q) : hr9_ T' a n.toNat = (hr9_ T a n.toNat).set i.toNat q := sorry
/-- a row is taken out -/
theorem hrw_d {T T' : Zt} {a i n : Int} (h0 : 0 ≤ i) (hi : i < n) (h1 : ∀ j, j < i * 4 → T' 190 a j = T 190 a j) (h2 : ∀ j, i * 4 ≤ j → j < n * 4 - 4 → T' 190 a j = T 190 a (j + 4)) : hr9_ T' a (n - 1).toNat = (hr9_ T a n.toNat).eraseIdx i.toNat := sorry
/-- a row comes behind -/
theorem hrw_k {T T' : Zt} {a a' i n : Int} {q : Rw_} (h0 : 0 ≤ i) (hn : n = i + 1) (h : ∀ j, 0 ≤ j → j < i * 4 → T' 190 a' j = T 190 a j) (hq : ra9_ T' a' i = q) : hr9_ T' a' n.toNat = hr9_ T a i.toNat ++ [q] := sorry
theorem hrw_t {T : Zt} {a i : Int} (h0 : 0 ≤ i) : hr9_ T a (i + 1).toNat = hr9_ T a i.toNat ++ [ra9_ T a i] := sorry
theorem hrw_0 {T : Zt} {a : Int} : hr9_ T a (0 : Int).toNat = [] := sorry
-- a run of rows
abbrev Rz_ : Type := Sg_ × List Rw_ × Int
noncomputable def stH_ (r : Int → Int) (x : Rz_) (q : Rw_) : Rz_ := cz_ (lw9_ r x.1 q.1 q.2.1 q.2.2.1 q.2.2.2 = 0) (ca9_ r x.1 q.1 q.2.1 q.2.2.1 q.2.2.2, x.2.1 ++ [q], x.2.2) (x.1, x.2.1, x.2.2 + 1)
noncomputable def stR_ (r : Int → Int) (m : Int) (x : Rz_) (q : Rw_) : Rz_ := cz_ (lwR_ r x.1 q.1 q.2.1 q.2.2.1 q.2.2.2 = 0) (plR_ r x.1 m q.1 q.2.1 q.2.2.1 q.2.2.2, x.2.1 ++ [q], x.2.2) (x.1, x.2.1, x.2.2 + 1)
noncomputable def rnH_ (r : Int → Int) (a : Sg_) (l : List Rw_) : Rz_ := l.foldl (stH_ r) (a, [], 0)
noncomputable def rnR_ (r : Int → Int) (m : Int) (b : Sg_) (l : List Rw_) : Rz_ := l.foldl (stR_ r m) (b, [], 0)
theorem rnH_0 {r : Int → Int} {a : Sg_} : rnH_ r a [] = (a, [], 0) := sorry
theorem rnR_0 {r : Int → Int} {m : Int} {b : Sg_} : rnR_ r m b [] = (b, [], 0) := sorry
theorem rnH_a {r : Int → Int} {a : Sg_} {l : List Rw_} {q : Rw_} : rnH_ r a (l ++ [q]) = stH_ r (rnH_ r a l) q := sorry
theorem rnR_a {r : Int → Int} {m : Int} {b : Sg_} {l : List Rw_} {q : Rw_} : rnR_ r m b (l ++ [q]) = stR_ r m (rnR_ r m b l) q := sorry
theorem stH_t {r : Int → Int} {x : Rz_} {k s q o : Int} (h : lw9_ r x.1 k s q o = 0) : stH_ r x (k, s, q, o) = (ca9_ r x.1 k s q o, x.2.1 ++ [(k, s, q, o)], x.2.2) := sorry
theorem stH_f {r : Int → Int} {x : Rz_} {k s q o : Int} (h : ¬ lw9_ r x.1 k s q o = 0) : stH_ r x (k, s, q, o) = (x.1, x.2.1, x.2.2 + 1) := sorry
theorem stR_t {r : Int → Int} {m : Int} {x : Rz_} {k s q o : Int} (h : lwR_ r x.1 k s q o = 0) : stR_ r m x (k, s, q, o) = (plR_ r x.1 m k s q o, x.2.1 ++ [(k, s, q, o)], x.2.2) := sorry
theorem stR_f {r : Int → Int} {m : Int} {x : Rz_} {k s q o : Int} (h : ¬ lwR_ r x.1 k s q o = 0) : stR_ r m x (k, s, q, o) = (x.1, x.2.1, x.2.2 + 1) := sorry
-- while a play goes on, someone stands on each field
def FN_ (a : Sg_) : Prop := a 103 3 = 0 → 1 ≤ a 470 0 ∧ 1 ≤ a 470 1
/-- the fields stay, and what has ended has ended -/
def NF_ (a a' : Sg_) : Prop := (∀ j, a' 470 j = a 470 j) ∧ (a' 103 3 = 0 → a 103 3 = 0)
theorem nf_r {a : Sg_} : NF_ a a := sorry
theorem nf_u {a b : Sg_} {k : Nat} {j v : Int} (h : NF_ a b) (c : k ≠ 470 ∧ k ≠ 103) : NF_ a (u2_ b k j v) := sorry
theorem nf_4 {a b : Sg_} {v : Int} (h : NF_ a b) : NF_ a (u2_ b 103 4 v) := sorry
theorem nf_5 {a b : Sg_} {v : Int} (h : NF_ a b) : NF_ a (u2_ b 103 5 v) := sorry
theorem nf_x {a b : Sg_} (h : NF_ a b) : NF_ a (u2_ b 103 3 1) := sorry
theorem nf_f {a b : Sg_} {k : Nat} {n v : Int} (h : NF_ a b) (c : k ≠ 470 ∧ k ≠ 103) : NF_ a (fy2_ b k n v) := sorry
theorem nf_g {a b : Sg_} {s : Int} (h : NF_ a b) : NF_ a (rt9_ b s) := sorry
theorem nf_t {a b c : Sg_} (h : NF_ a b) (g : NF_ b c) : NF_ a c := sorry
theorem cz_p {A : Type} {Q : A → Prop} {c : Prop} {x y : A} (h : c → Q x) (g : ¬ c → Q y) : Q (cz_ c x y) := sorry
theorem fn_n {a b : Sg_} (h : FN_ a) (g : NF_ a b) : FN_ b := sorry
theorem nf_pv {r : Int → Int} {a : Sg_} {s : Int} : NF_ a (pv9_ r a s) := sorry
theorem nf_pt {r : Int → Int} {a : Sg_} {k s : Int} : NF_ a (pt9_ r a k s) := sorry
theorem nf_eh {r : Int → Int} {a : Sg_} : NF_ a (eh9_ r a) := sorry
theorem nf_co {r : Int → Int} {a : Sg_} : NF_ a (co9_ r a) := sorry
theorem nf_gb {r : Int → Int} {a b : Sg_} {s v : Int} (h : NF_ a b) : NF_ a (gb9_ r b s v) := sorry
theorem nf_wk {r : Int → Int} {a : Sg_} {s : Int} : NF_ a (wk9_ r a s) := sorry
theorem nf_ht {r : Int → Int} {a : Sg_} {s v : Int} : NF_ a (ht9_ r a s v) := sorry
theorem nf_pb {r : Int → Int} {a : Sg_} {k s v : Int} : NF_ a (pbb9_ r a k s v) := sorry
theorem nf_su {r : Int → Int} {a : Sg_} {s q o : Int} : NF_ a (su9_ r a s q o) := sorry
theorem fn_so {r : Int → Int} {a : Sg_} {s k : Int} (w : 1 ≤ r 9) (h : FN_ a) : FN_ (so9_ r a s k) := sorry
theorem fn_yl {r : Int → Int} {a : Sg_} {s k : Int} (w : 1 ≤ r 9) (h : FN_ a) : FN_ (yl9_ r a s k) := sorry
theorem fn_pf {r : Int → Int} {a : Sg_} {k s q : Int} (w : 1 ≤ r 9) (h : FN_ a) (h3 : a 103 3 = 0) : FN_ (pf9_ r a k s q) := sorry
theorem fn_ca {r : Int → Int} {a : Sg_} {k s q o : Int} (w : RB9_ r) (h : FN_ a) (hl : lw9_ r a k s q o = 0) : FN_ (ca9_ r a k s q o) := sorry
/-- both runs are the same -/
theorem rn_f {m : Int} {r : Int → Int} (w : RB9_ r) : ∀ (l : List Rw_) (x y : Rz_) (n : Int), SI_ m n r y.1 x.1 → FN_ x.1 → y.2 = x.2 → n + 3 * (l.length : Int) ≤ 1000000 → SI_ m (n + 3 * (l.length : Int)) r (l.foldl (stR_ r m) y).1 (l.foldl (stH_ r) x).1 ∧ FN_ (l.foldl (stH_ r) x).1 ∧ (l.foldl (stR_ r m) y).2 = (l.foldl (stH_ r) x).2 := sorry
theorem rn_q {m : Int} {r : Int → Int} {b a : Sg_} (w : RB9_ r) (h : SI_ m 0 r b a) (f : FN_ a) {l : List Rw_} (g : 3 * (l.length : Int) ≤ 1000000) : SI_ m (3 * (l.length : Int)) r (rnR_ r m b l).1 (rnH_ r a l).1 ∧ FN_ (rnH_ r a l).1 ∧ (rnR_ r m b l).2 = (rnH_ r a l).2 := sorry
-- the reference's rows
def rwc_ (T : Zt) (x : Int) : Rw_ := (T 248 0 x, T 249 0 x, T 250 0 x, T 251 0 x)
def ch9_ (T : Zt) : Int → Nat → List Int
  | _, 0 => []
  | f, n + 1 => f :: ch9_ T (T 252 0 f) n
theorem ch_l {T : Zt} : ∀ {l : List Int} {f : Int}, lk_ T f l → ch9_ T f l.length = l := sorry
/-- the rows of a match, as they stand -/
def rw9_ (T : Zt) (m : Int) : List Rw_ := (ch9_ T (T 253 0 m) (T 254 0 m).toNat).map (rwc_ T)
theorem rb_c {T : Zt} {L : Int → Int → List Int} (h : RB_ T L) {m : Int} (h0 : 0 ≤ m) (h1 : m < T 111 0 29) : ch9_ T (T 253 0 m) (T 254 0 m).toNat = L m 0 := sorry
theorem rw_l {T : Zt} {L : Int → Int → List Int} (h : RB_ T L) {m : Int} (h0 : 0 ≤ m) (h1 : m < T 111 0 29) : rw9_ T m = (L m 0).map (rwc_ T) := sorry
theorem ch_n {T : Zt} : ∀ {n : Nat} {f : Int}, (ch9_ T f n).length = n := sorry
theorem rw_n {T : Zt} {m : Int} : (rw9_ T m).length = (T 254 0 m).toNat := sorry
theorem ch_k {T T' : Zt} (e : ∀ x, T' 252 0 x = T 252 0 x) : ∀ (n : Nat) (f : Int), ch9_ T' f n = ch9_ T f n := sorry
theorem cl_k {T T' : Zt} (e : ∀ k x, k = 248 ∨ k = 249 ∨ k = 250 ∨ k = 251 → T' k 0 x = T k 0 x) : rwc_ T' = rwc_ T := sorry
/-- what leaves the rows alone -/
theorem rw_k {T T' : Zt} {m : Int} (e : ∀ k x, k = 248 ∨ k = 249 ∨ k = 250 ∨ k = 251 → T' k 0 x = T k 0 x) (e2 : ∀ x, T' 252 0 x = T 252 0 x) (e3 : T' 253 0 m = T 253 0 m) (e4 : T' 254 0 m = T 254 0 m) : rw9_ T' m = rw9_ T m := sorry
/-- a row comes behind the rows of a match -/
theorem rw_p {T T' : Zt} {m x : Int} {L : Int → Int → List Int} (hB : RB_ T L) (hB' : RB_ T' (fun m' b' => if m' = m ∧ b' = 0 then L m 0 ++ [x] else L m' b')) (e29 : T' 111 0 29 = T 111 0 29) (ec : rwc_ T' = rwc_ T) (h0 : 0 ≤ m) (h1 : m < T 111 0 29) : rw9_ T' m = rw9_ T m ++ [rwc_ T x] ∧ ∀ j, j ≠ m → 0 ≤ j → j < T 111 0 29 → rw9_ T' j = rw9_ T j := sorry
theorem rw_a {T T' : Zt} {m x : Int} {L : Int → Int → List Int} (hB : RB_ T L) (hB' : RB_ T' (fun m' b' => if m' = m ∧ b' = 1 then L m 1 ++ [x] else L m' b')) (e29 : T' 111 0 29 = T 111 0 29) (ec : rwc_ T' = rwc_ T) : ∀ j, 0 ≤ j → j < T 111 0 29 → rw9_ T' j = rw9_ T j := sorry
theorem rw_t {T T' : Zt} {m : Int} {L : Int → Int → List Int} (hB : RB_ T L) (hB' : RB_ T' (fun m' b' => if m' = m ∧ b' = 0 then [] else L m' b')) (e29 : T' 111 0 29 = T 111 0 29) (ec : rwc_ T' = rwc_ T) (h0 : 0 ≤ m) (h1 : m < T 111 0 29) : rw9_ T' m = [] ∧ ∀ j, j ≠ m → 0 ≤ j → j < T 111 0 29 → rw9_ T' j = rw9_ T j := sorry
theorem ei_m {A B : Type} {f : A → B} : ∀ (l : List A) (i : Nat), (l.eraseIdx i).map f = (l.map f).eraseIdx i := sorry
theorem rw_d {T T' : Zt} {m : Int} {i : Nat} {L : Int → Int → List Int} (hB : RB_ T L) (hB' : RB_ T' (fun m' b' => if m' = m ∧ b' = 0 then (L m 0).eraseIdx i else L m' b')) (e29 : T' 111 0 29 = T 111 0 29) (ec : rwc_ T' = rwc_ T) (h0 : 0 ≤ m) (h1 : m < T 111 0 29) : rw9_ T' m = (rw9_ T m).eraseIdx i ∧ ∀ j, j ≠ m → 0 ≤ j → j < T 111 0 29 → rw9_ T' j = rw9_ T j := sorry
/-- a row that none has is told of -/
theorem rw_x {T T' : Zt} {x : Int} {L : Int → Int → List Int} (hB : RB_ T L) (hB' : RB_ T' L) (e29 : T' 111 0 29 = T 111 0 29) (e : ∀ k y, k = 248 ∨ k = 249 ∨ k = 250 ∨ k = 251 → y ≠ x → T' k 0 y = T k 0 y) (hx : ∀ m b, x ∉ L m b) : ∀ j, 0 ≤ j → j < T 111 0 29 → rw9_ T' j = rw9_ T j := sorry
/-- a row is told anew -/
theorem rw_c {T T' : Zt} {m x : Int} {i : Nat} {q : Rw_} {L : Int → Int → List Int} (hB : RB_ T L) (hB' : RB_ T' L) (e29 : T' 111 0 29 = T 111 0 29) (e : ∀ k y, k = 248 ∨ k = 249 ∨ k = 250 ∨ k = 251 → y ≠ x → T' k 0 y = T k 0 y) (hq : rwc_ T' x = q) (hi : (L m 0)[i]? = some x) (h0 : 0 ≤ m) (h1 : m < T 111 0 29) : rw9_ T' m = (rw9_ T m).set i q ∧ ∀ j, j ≠ m → 0 ≤ j → j < T 111 0 29 → rw9_ T' j = rw9_ T j := sorry
/-- how a match of the reference begins -/
def BGR_ (m : Int) (r : Int → Int) (a b : Sg_) : Prop :=
  (∀ t, 0 ≤ t → t ≤ 1 → b 449 t = a 449 t) ∧ (∀ t x, 0 ≤ t → t ≤ 1 → t * 10 ≤ x → x < t * 10 + a 449 t → b 448 x = a 448 x) ∧ (∀ t, 0 ≤ t → t ≤ 1 → b 470 t = r 9) ∧
  (∀ t x, 0 ≤ t → t ≤ 1 → t * 10 ≤ x → x < t * 10 + a 449 t → (x < t * 10 + r 9 → b 472 x = 1) ∧ (t * 10 + r 9 ≤ x → b 472 x = 0) ∧ b 473 x = 0 ∧ b 474 x = 0) ∧
  (∀ t x, 0 ≤ t → t ≤ 1 → t * 6 ≤ x → x < t * 6 + r 9 → b 471 x = 20 * m + t * 10 + (x - t * 6)) ∧
  (b 466 0 = 0 ∧ b 466 1 = 0 ∧ b 467 0 = 0 ∧ b 467 1 = 0 ∧ b 468 0 = 0 ∧ b 468 1 = 0 ∧ b 469 0 = 0 ∧ b 469 1 = 0) ∧ b 103 4 = 0 ∧ b 103 5 = cz_ (r 0 = 3) 1 0 ∧ b 103 3 = 1
theorem bg_l {T T' : Zt} {m : Int} {ru : Int → Int} (hru : RLR_ T m ru) (h9 : 1 ≤ ru 9 ∧ ru 9 ≤ 6) (g49 : ∀ t, 0 ≤ t → t ≤ 1 → 0 ≤ T 239 0 (2 * m + t) ∧ T 239 0 (2 * m + t) ≤ 10) (e39 : ∀ j, T' 239 0 j = T 239 0 j) (e40 : ∀ j, T' 240 0 j = T 240 0 j)
    (h1 : ∀ j, 2 * m ≤ j → j < 2 * m + 2 → T' 244 0 j = T 205 0 (23 * T 230 0 m + 9))
    (h2 : ∀ j, 20 * m ≤ j → j < 20 * m + 20 → j % 10 < T 239 0 (j / 10) → (j % 10 < T 205 0 (23 * T 230 0 m + 9) → T' 241 0 j = 1) ∧ (T 205 0 (23 * T 230 0 m + 9) ≤ j % 10 → T' 241 0 j = 0) ∧ T' 242 0 j = 0 ∧ T' 243 0 j = 0)
    (h3 : ∀ j, 12 * m ≤ j → j < 12 * m + 12 → j % 6 < T 205 0 (23 * T 230 0 m + 9) → T' 245 0 j = 10 * (j / 6) + j % 6)
    (h4 : ∀ j, 8 * m ≤ j → j < 8 * m + 8 → j ≠ 8 * m + 5 → T' 246 0 j = 0) (h5 : (T 205 0 (23 * T 230 0 m + 0) = 3 → T' 246 0 (8 * m + 5) = 1) ∧ (T 205 0 (23 * T 230 0 m + 0) ≠ 3 → T' 246 0 (8 * m + 5) = 0)) (h6 : T' 236 0 m = 0) (h7 : T' 237 0 m = 0) (h8 : T' 235 0 m = 1) : BGR_ m ru (rp9_ T m) (rp9_ T' m) := sorry
theorem si_bg {m : Int} {r : Int → Int} {a0 b a : Sg_} (w : RB9_ r) (g49 : ∀ t, 0 ≤ t → t ≤ 1 → r 9 ≤ a 449 t ∧ a 449 t ≤ 10) (w5 : ∀ s x y, 0 ≤ s → s ≤ 1 → s * 10 ≤ x → x < s * 10 + a 449 s → s * 10 ≤ y → y < s * 10 + a 449 s → a 448 x = a 448 y → x = y) (f49 : ∀ t, 0 ≤ t → t ≤ 1 → a0 449 t = a 449 t) (f48 : ∀ t x, 0 ≤ t → t ≤ 1 → t * 10 ≤ x → x < t * 10 + a 449 t → a0 448 x = a 448 x) (h : BGR_ m r a0 b) : SI_ m 0 r b (bb9_ r a) ∧ FN_ (bb9_ r a) := sorry
-- the rows of the reference, their lists told
theorem rb_put {T T' : Zt} {m b x : Int} {rest : List Int} {L : Int → Int → List Int} (hb : 0 ≤ b ∧ b ≤ 1) (hm : 0 ≤ m ∧ m < T 111 0 29) (h47 : T 111 0 47 ≤ 3000) (r : RB_ T L) (q : RR_ T L (x :: rest))
    (e29 : T' 111 0 29 = T 111 0 29) (e47 : T' 111 0 47 = T 111 0 47)
    (ef : ∀ m' b', 0 ≤ b' → b' ≤ 1 → ¬ (m' = m ∧ b' = b) → T' (kf_ b') 0 m' = T (kf_ b') 0 m' ∧ T' (km_ b') 0 m' = T (km_ b') 0 m')
    (e1 : T' (km_ b) 0 m = T (km_ b) 0 m + 1) (e3 : T' 252 0 x = -1)
    (e2 : (L m b = [] ∧ T' (kf_ b) 0 m = x ∧ ∀ z, z ≠ x → T' 252 0 z = T 252 0 z) ∨ (T' (kf_ b) 0 m = T (kf_ b) 0 m ∧ ∃ y, (L m b).getLast? = some y ∧ T' 252 0 y = x ∧ ∀ z, z ≠ x → z ≠ y → T' 252 0 z = T 252 0 z)) :
    RB_ T' (fun m' b' => if m' = m ∧ b' = b then L m b ++ [x] else L m' b') ∧ RR_ T' (fun m' b' => if m' = m ∧ b' = b then L m b ++ [x] else L m' b') rest ∧ ∀ z ∈ rest, T' 252 0 z = T 252 0 z := sorry
theorem rb_new {T T' : Zt} {L : Int → Int → List Int} (h : RB_ T L) (h0 : 0 ≤ T 111 0 47) (e29 : T' 111 0 29 = T 111 0 29) (e47 : T' 111 0 47 = T 111 0 47 + 1) (e : ∀ k j, k = 252 ∨ k = 253 ∨ k = 254 ∨ k = 255 ∨ k = 256 → T' k 0 j = T k 0 j) : RB_ T' L ∧ RR_ T' L [T 111 0 47] := sorry
theorem rb_take {T T' : Zt} {m : Int} {L : Int → Int → List Int} (h : RB_ T L) (hm : 0 ≤ m ∧ m < T 111 0 29) (e29 : T' 111 0 29 = T 111 0 29) (e47 : T' 111 0 47 = T 111 0 47) (en : ∀ z, T' 252 0 z = T 252 0 z) (e3 : ∀ j, j ≠ m → T' 253 0 j = T 253 0 j) (e4 : ∀ j, j ≠ m → T' 254 0 j = T 254 0 j) (e5 : ∀ j, T' 255 0 j = T 255 0 j) (e6 : ∀ j, T' 256 0 j = T 256 0 j) (e1 : T' 253 0 m = -1) (e2 : T' 254 0 m = 0) : RB_ T' (fun m' b' => if m' = m ∧ b' = 0 then [] else L m' b') ∧ RR_ T' (fun m' b' => if m' = m ∧ b' = 0 then [] else L m' b') (L m 0) ∧ lk_ T' (T 253 0 m) (L m 0) := sorry
theorem rb_del {T T' : Zt} {m x : Int} {i : Nat} {L : Int → Int → List Int} (r : RB_ T L) (hm : 0 ≤ m ∧ m < T 111 0 29) (hx : (L m 0)[i]? = some x) (e29 : T' 111 0 29 = T 111 0 29) (e47 : T' 111 0 47 = T 111 0 47)
    (e3 : ∀ j, j ≠ m → T' 253 0 j = T 253 0 j) (e4 : ∀ j, j ≠ m → T' 254 0 j = T 254 0 j) (e5 : ∀ j, T' 255 0 j = T 255 0 j) (e6 : ∀ j, T' 256 0 j = T 256 0 j)
    (e1 : T' 254 0 m = T 254 0 m - 1)
    (e2 : (i = 0 ∧ T' 253 0 m = T 252 0 x ∧ ∀ z, T' 252 0 z = T 252 0 z) ∨ (T' 253 0 m = T 253 0 m ∧ ∃ n p, i = n + 1 ∧ (L m 0)[n]? = some p ∧ T' 252 0 p = T 252 0 x ∧ ∀ z, z ≠ p → T' 252 0 z = T 252 0 z)) : RB_ T' (fun m' b' => if m' = m ∧ b' = 0 then (L m 0).eraseIdx i else L m' b') ∧ RR_ T' (fun m' b' => if m' = m ∧ b' = 0 then (L m 0).eraseIdx i else L m' b') [] := sorry
