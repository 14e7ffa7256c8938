-- putting off: what stands against a match, the first free day, one after the other
def SAG_ (sq hq : Int → Int → Prop) (rs : Int → Int) (ab : Int → Prop) (day : Int → Int) (a b d : Int) : Prop := a ≠ b ∧ ab a ∧ ab b ∧ ((d = day b ∧ sq a b) ∨ (((d - day b < rs a ∧ day b - d < rs a) ∨ (d - day b < rs b ∧ day b - d < rs b)) ∧ hq a b))
theorem sa_e {sq hq sq' hq' : Int → Int → Prop} {rs rs' : Int → Int} {ab ab' : Int → Prop} {day day' : Int → Int} {a b d : Int} (h1 : sq' a b ↔ sq a b) (h2 : hq' a b ↔ hq a b) (h3 : rs' a = rs a ∧ rs' b = rs b) (h4 : ab' a ↔ ab a) (h5 : ab' b ↔ ab b) (h6 : day' b = day b) : SAG_ sq' hq' rs' ab' day' a b d ↔ SAG_ sq hq rs ab day a b d := sorry
/-- from d on, n days: the first that is not P, or -1 -/
noncomputable def ffd_ (P : Int → Prop) : Nat → Int → Int
  | 0, _ => -1
  | n + 1, d => cz_ (P d) (ffd_ P n (d + 1)) d
theorem ffd_t {P : Int → Prop} {n : Nat} {d : Int} (h : P d) : ffd_ P (n + 1) d = ffd_ P n (d + 1) := sorry
theorem ffd_f {P : Int → Prop} {n : Nat} {d : Int} (h : ¬ P d) : ffd_ P (n + 1) d = d := sorry
theorem ffd_b {P : Int → Prop} : ∀ (n : Nat) (d : Int), ffd_ P n d = -1 ∨ (d ≤ ffd_ P n d ∧ ffd_ P n d < d + (n : Int)) := sorry
theorem ffd_p {P : Int → Prop} : ∀ (n : Nat) (d : Int), ffd_ P n d ≠ -1 → ¬ P (ffd_ P n d) := sorry
theorem ffd_e {P Q : Int → Prop} : ∀ (n : Nat) (d : Int), (∀ x, d ≤ x → x < d + (n : Int) → (P x ↔ Q x)) → ffd_ P n d = ffd_ Q n d := sorry
/-- a day that is blocked for match k -/
def BK_ (sq hq : Int → Int → Prop) (rs : Int → Int) (ab : Int → Prop) (n : Int) (day : Int → Int) (k d : Int) : Prop := ∃ b, 0 ≤ b ∧ b < n ∧ SAG_ sq hq rs ab day k b d
def u1_ (f : Int → Int) (i v : Int) : Int → Int := fun j => if j = i then v else f j
theorem u1_s {f : Int → Int} {i v : Int} : u1_ f i v i = v := sorry
theorem u1_n {f : Int → Int} {i v j : Int} (h : j ≠ i) : u1_ f i v j = f j := sorry
/-- the moves, one match after the other -/
noncomputable def mv_ (bk : (Int → Int) → Int → Int → Prop) (ag : Int → Prop) (d : Int) (day : Int → Int) : Nat → (Int → Int) × Int
  | 0 => (day, 1)
  | k + 1 => cz_ ((mv_ bk ag d day k).2 = 1 ∧ ag (k : Int)) (cz_ (ffd_ (bk (mv_ bk ag d day k).1 (k : Int)) (999 - d).toNat (d + 1) = -1) ((mv_ bk ag d day k).1, 0) (u1_ (mv_ bk ag d day k).1 (k : Int) (ffd_ (bk (mv_ bk ag d day k).1 (k : Int)) (999 - d).toNat (d + 1)), 1)) (mv_ bk ag d day k)
theorem mv_n {bk : (Int → Int) → Int → Int → Prop} {ag : Int → Prop} {d : Int} {day : Int → Int} {k : Nat} (h : ¬ ((mv_ bk ag d day k).2 = 1 ∧ ag (k : Int))) : mv_ bk ag d day (k + 1) = mv_ bk ag d day k := sorry
theorem mv_x {bk : (Int → Int) → Int → Int → Prop} {ag : Int → Prop} {d : Int} {day : Int → Int} {k : Nat} (h : (mv_ bk ag d day k).2 = 1 ∧ ag (k : Int)) (g : ffd_ (bk (mv_ bk ag d day k).1 (k : Int)) (999 - d).toNat (d + 1) = -1) : mv_ bk ag d day (k + 1) = ((mv_ bk ag d day k).1, 0) := sorry
theorem mv_y {bk : (Int → Int) → Int → Int → Prop} {ag : Int → Prop} {d : Int} {day : Int → Int} {k : Nat} (h : (mv_ bk ag d day k).2 = 1 ∧ ag (k : Int)) (g : ffd_ (bk (mv_ bk ag d day k).1 (k : Int)) (999 - d).toNat (d + 1) ≠ -1) : mv_ bk ag d day (k + 1) = (u1_ (mv_ bk ag d day k).1 (k : Int) (ffd_ (bk (mv_ bk ag d day k).1 (k : Int)) (999 - d).toNat (d + 1)), 1) := sorry
theorem mv_g {bk : (Int → Int) → Int → Int → Prop} {ag : Int → Prop} {d : Int} {day : Int → Int} (A : Nat) : ∀ t : Nat, (∀ k, (A : Int) ≤ k → k < (A : Int) + (t : Int) → ¬ ag k) → mv_ bk ag d day (A + t) = mv_ bk ag d day A := sorry
theorem mv_i {bk : (Int → Int) → Int → Int → Prop} {ag : Int → Prop} {d : Int} {day : Int → Int} {A B : Int} (h0 : 0 ≤ A) (h1 : A ≤ B) (h : ∀ k, A ≤ k → k < B → ¬ ag k) : mv_ bk ag d day B.toNat = mv_ bk ag d day A.toNat := sorry
/-- once it has failed it stays so -/
theorem mv_z {bk : (Int → Int) → Int → Int → Prop} {ag : Int → Prop} {d : Int} {day : Int → Int} (A : Nat) (h : (mv_ bk ag d day A).2 ≠ 1) : ∀ t : Nat, mv_ bk ag d day (A + t) = mv_ bk ag d day A := sorry
/-- those that were not moved keep their days -/
theorem mv_k {bk : (Int → Int) → Int → Int → Prop} {ag : Int → Prop} {d : Int} {day : Int → Int} {j : Int} : ∀ k : Nat, (¬ ag j ∨ (k : Int) ≤ j ∨ j < 0) → (mv_ bk ag d day k).1 j = day j := sorry
theorem mv_b {bk : (Int → Int) → Int → Int → Prop} {ag : Int → Prop} {d : Int} {day : Int → Int} (hd : 0 ≤ d ∧ d ≤ 999) (h : ∀ j, 0 ≤ day j ∧ day j ≤ 999) : ∀ (k : Nat) (j : Int), 0 ≤ (mv_ bk ag d day k).1 j ∧ (mv_ bk ag d day k).1 j ≤ 999 := sorry
/-- both sides move alike -/
theorem mv_e {bk bk' : (Int → Int) → Int → Int → Prop} {ag ag' : Int → Prop} {d : Int} {day day' : Int → Int} {n : Int} (he : ∀ j, 0 ≤ j → j < n → day' j = day j) (ha : ∀ k, 0 ≤ k → k < n → (ag' k ↔ ag k)) (hb : ∀ (f f' : Int → Int) (k x : Int), (∀ j, 0 ≤ j → j < n → f' j = f j) → 0 ≤ k → k < n → (bk' f' k x ↔ bk f k x)) : ∀ k : Nat, (k : Int) ≤ n → (mv_ bk' ag' d day' k).2 = (mv_ bk ag d day k).2 ∧ ∀ j, 0 ≤ j → j < n → (mv_ bk' ag' d day' k).1 j = (mv_ bk ag d day k).1 j := sorry
/-- two lists of the same in the same order are the same -/
theorem lhd_u {day : Int → Int} {rel rel' : Int → Prop} {L L' : Int → Int} {f k kp x x' : Int} (h : LHD_ day rel L f k kp x) (h' : LHD_ day rel' L' f k kp x') (e : ∀ m, f ≤ m → m < f + k → (rel m ↔ rel' m)) : ∀ n : Nat, (n : Int) < x → (n : Int) < x' ∧ L (n : Int) = L' (n : Int) := sorry
theorem lhd_q {day : Int → Int} {rel rel' : Int → Prop} {L L' : Int → Int} {f k kp x x' : Int} (h : LHD_ day rel L f k kp x) (h' : LHD_ day rel' L' f k kp x') (e : ∀ m, f ≤ m → m < f + k → (rel m ↔ rel' m)) (x0 : 0 ≤ x) (x1 : 0 ≤ x') : x = x' ∧ ∀ j, 0 ≤ j → j < x → L j = L' j := sorry
/-- those of one stadium are on different days afterwards -/
theorem mv_dd {sq hq R : Int → Int → Prop} {rs : Int → Int} {ab : Int → Prop} {n p d : Int} {ag : Int → Prop} {day : Int → Int} (hR : ∀ a b, R a b → sq a b) (sy : ∀ a b, R a b → R b a)
    (h0 : ∀ a b, 0 ≤ a → a < n → 0 ≤ b → b < n → a ≠ b → ab a → ab b → R a b → day a = day b → (a = p ∧ ag b) ∨ (b = p ∧ ag a)) : ∀ k : Nat, (k : Int) ≤ n → (mv_ (BK_ sq hq rs ab n) ag d day k).2 = 1 → ∀ a b, 0 ≤ a → a < n → 0 ≤ b → b < n → a ≠ b → ab a → ab b → R a b → (mv_ (BK_ sq hq rs ab n) ag d day k).1 a = (mv_ (BK_ sq hq rs ab n) ag d day k).1 b → (a = p ∧ ag b ∧ (k : Int) ≤ b) ∨ (b = p ∧ ag a ∧ (k : Int) ≤ a) := sorry
-- the house
def sqH_ (T : Zt) (a b : Int) : Prop := T 560 0 (T 102 a 3) = T 560 0 (T 102 b 3)
def hqH_ (T : Zt) (a b : Int) : Prop := T 102 a 3 = T 102 b 3 ∨ T 102 a 4 = T 102 b 3 ∨ T 102 a 3 = T 102 b 4 ∨ T 102 a 4 = T 102 b 4
def rsH_ (T : Zt) (a : Int) : Int := T 401 (T 102 a 0) 8
def abH_ (T : Zt) (a : Int) : Prop := T 102 a 6 = -1
def SAH_ (T : Zt) (day : Int → Int) (a b d : Int) : Prop := SAG_ (sqH_ T) (hqH_ T) (rsH_ T) (abH_ T) day a b d
def BKH_ (T : Zt) (day : Int → Int) (k d : Int) : Prop := BK_ (sqH_ T) (hqH_ T) (rsH_ T) (abH_ T) (T 106 0 4) day k d
/-- what changes no rule of putting off -/
def kpo_ (T T' : Zt) : Prop := (∀ a j, j ≠ 5 → T' 102 a j = T 102 a j) ∧ (∀ c, T' 401 c 8 = T 401 c 8) ∧ (∀ j, T' 560 0 j = T 560 0 j) ∧ T' 106 0 4 = T 106 0 4
theorem sah_k {T T' : Zt} (k : kpo_ T T') : SAH_ T' = SAH_ T := sorry
theorem bkh_k {T T' : Zt} (k : kpo_ T T') : BKH_ T' = BKH_ T := sorry
theorem kpo_r {T : Zt} : kpo_ T T := sorry
theorem kpo_t {T T1 T2 : Zt} (a : kpo_ T T1) (b : kpo_ T1 T2) : kpo_ T T2 := sorry
/-- blocked by the matches below k -/
def BKn_ (T : Zt) (p k d : Int) : Prop := ∃ b, 0 ≤ b ∧ b < k ∧ SAH_ T (fun m => T 102 m 5) p b d
theorem bkn_0 {T : Zt} {p d : Int} : ¬ BKn_ T p 0 d := sorry
theorem bkn_s {T : Zt} {p k d : Int} (k0 : 0 ≤ k) : BKn_ T p (k + 1) d ↔ (BKn_ T p k d ∨ SAH_ T (fun m => T 102 m 5) p k d) := sorry
/-- a row of days tells which are blocked -/
def BR_ (B : Int → Int) (Q : Int → Prop) : Prop := ∀ d, 0 ≤ d → d ≤ 999 → (B d = 1 ∧ Q d) ∨ (B d = 0 ∧ ¬ Q d)
theorem br_e {B : Int → Int} {Q R : Int → Prop} (h : BR_ B Q) (e : ∀ d, 0 ≤ d → d ≤ 999 → (Q d ↔ R d)) : BR_ B R := sorry
theorem br_u {B B' : Int → Int} {Q : Int → Prop} {i : Int} (h : BR_ B Q) (e1 : B' i = 1) (e2 : ∀ j, j ≠ i → B' j = B j) : BR_ B' (fun d => Q d ∨ d = i) := sorry
/-- a match goes behind -/
def GOB_ (T T' : Zt) (p d k x : Int) : Prop := (x = 0 ∧ ffd_ (BKH_ T (fun m => T 102 m 5) p) (999 - d).toNat (d + 1) = -1 ∧ (∀ i j, T' 102 i j = T 102 i j) ∧ ∀ j, T' 534 0 j = T 534 0 j) ∨ (x = 1 ∧ ffd_ (BKH_ T (fun m => T 102 m 5) p) (999 - d).toNat (d + 1) ≠ -1 ∧ T' 102 p 5 = ffd_ (BKH_ T (fun m => T 102 m 5) p) (999 - d).toNat (d + 1) ∧ T' 534 0 k = T 102 p 5 ∧ (∀ i j, ¬ (i = p ∧ j = 5) → T' 102 i j = T 102 i j) ∧ ∀ j, j ≠ k → T' 534 0 j = T 534 0 j)
def AGH_ (T : Zt) (p d k : Int) : Prop := SAH_ T (fun m => T 102 m 5) p k d
/-- the moves, as the house makes them -/
noncomputable def mvH_ (T : Zt) (p d : Int) (K : Int) : (Int → Int) × Int := mv_ (BKH_ T) (AGH_ T p d) d (u1_ (fun m => T 102 m 5) p d) K.toNat
def TLD_ (T : Zt) (k : Int) : Prop := T 102 k 6 = -1 ∧ T 102 k 10 = 0
/-- one of these is not told -/
def NTL_ (T : Zt) (p d : Int) : Prop := ∃ k, 0 ≤ k ∧ k < T 106 0 4 ∧ AGH_ T p d k ∧ ¬ TLD_ T k
theorem ntl_i {T : Zt} {p d k : Int} (k0 : 0 ≤ k) (k1 : k < T 106 0 4) (k2 : AGH_ T p d k) (k3 : ¬ TLD_ T k) : NTL_ T p d := sorry
/-- where the g-th of the list stands -/
def KKG_ (L : Int → Int) (g n M K : Int) : Prop := (g < n ∧ K = L g) ∨ (¬ g < n ∧ K = M)
theorem sah_d {T : Zt} {f g : Int → Int} {a b d : Int} (h : f b = g b) : SAH_ T f a b d ↔ SAH_ T g a b d := sorry
theorem lhd_z {rel : Int → Prop} {L : Int → Int} {f n kp x i j : Int} (h : LHD_ (fun _ => 0) rel L f n kp x) (a : 0 ≤ i) (b : i < j) (c : j < x) : L i < L j := sorry
/-- between one of the list and the next none is to be moved -/
theorem kk_0 {rel : Int → Prop} {L : Int → Int} {M x K : Int} (h : LHD_ (fun _ => 0) rel L 0 M 400 x) (hk : KKG_ L 0 x M K) (x0 : 0 ≤ x) (m4 : M ≤ 400) : ∀ k, 0 ≤ k → k < K → k < M → ¬ rel k := sorry
theorem kk_s {rel : Int → Prop} {L : Int → Int} {M x K g : Int} (h : LHD_ (fun _ => 0) rel L 0 M 400 x) (g0 : 0 ≤ g) (g1 : g < x) (hk : KKG_ L (g + 1) x M K) (m4 : M ≤ 400) : ∀ k, L g + 1 ≤ k → k < K → k < M → ¬ rel k := sorry
theorem kk_b {rel : Int → Prop} {L : Int → Int} {M x K g : Int} (h : LHD_ (fun _ => 0) rel L 0 M 400 x) (g0 : 0 ≤ g) (m0 : 0 ≤ M) (hk : KKG_ L g x M K) : 0 ≤ K ∧ K ≤ M := sorry
theorem kk_l {rel : Int → Prop} {L : Int → Int} {M x K g : Int} (h : LHD_ (fun _ => 0) rel L 0 M 400 x) (g0 : 0 ≤ g) (g1 : g < x) (hk : KKG_ L (g + 1) x M K) : L g + 1 ≤ K := sorry
/-- putting off, as the house ends it -/
def PTO_ (T T' : Zt) (p d x : Int) : Prop := (x = -4 ∧ ¬ ((∀ k, 0 ≤ k → k < T 106 0 4 → AGH_ T p d k → TLD_ T k) ∧ (mvH_ T p d (T 106 0 4)).2 = 1) ∧ (∀ i j, T' 102 i j = T 102 i j) ∧ (∀ j, T' 531 0 j = T 531 0 j) ∧ T' 106 0 12 = T 106 0 12) ∨ (0 ≤ x ∧ (∀ k, 0 ≤ k → k < T 106 0 4 → AGH_ T p d k → TLD_ T k) ∧ (mvH_ T p d (T 106 0 4)).2 = 1 ∧ (∀ i, T' 102 i 5 = (mvH_ T p d (T 106 0 4)).1 i) ∧ (∀ i j, j ≠ 5 → T' 102 i j = T 102 i j) ∧ LHD_ (fun _ => 0) (AGH_ T p d) (fun j => T' 531 0 j) 0 (T 106 0 4) 400 x ∧ T' 106 0 12 = x)
theorem mvH_y {T U : Zt} {p d k : Int} (k0 : 0 ≤ k) (h : (mvH_ T p d k).2 = 1) (ha : AGH_ T p d k) (kp : kpo_ T U) (hd : ∀ i, U 102 i 5 = (mvH_ T p d k).1 i) (g : ffd_ (BKH_ U (fun m => U 102 m 5) k) (999 - d).toNat (d + 1) ≠ -1) : mvH_ T p d (k + 1) = (u1_ (mvH_ T p d k).1 k (ffd_ (BKH_ U (fun m => U 102 m 5) k) (999 - d).toNat (d + 1)), 1) := sorry
theorem mvH_x {T U : Zt} {p d k : Int} (k0 : 0 ≤ k) (h : (mvH_ T p d k).2 = 1) (ha : AGH_ T p d k) (kp : kpo_ T U) (hd : ∀ i, U 102 i 5 = (mvH_ T p d k).1 i) (g : ffd_ (BKH_ U (fun m => U 102 m 5) k) (999 - d).toNat (d + 1) = -1) {M : Int} (hm : k < M) : (mvH_ T p d M).2 ≠ 1 := sorry
theorem mvH_i {T : Zt} {p d A B : Int} (h0 : 0 ≤ A) (h1 : A ≤ B) (h : ∀ k, A ≤ k → k < B → ¬ AGH_ T p d k) : mvH_ T p d B = mvH_ T p d A := sorry
/-- the days go back -/
def RVF_ (T U : Zt) (L : Int → Int) (p g i : Int) : Prop := ∀ x, x ≠ p → (∀ j, i ≤ j → j < g → L j ≠ x) → U 102 x 5 = T 102 x 5
theorem rvf_s {T U V : Zt} {L : Int → Int} {p g i v : Int} (h : RVF_ T U L p g i) (hv : v = T 102 (L i) 5) (hV : V = up_ U 102 (L i) 5 v) : RVF_ T V L p g (i + 1) := sorry
-- the reference
def sqR_ (T : Zt) (a b : Int) : Prop := T 213 0 (T 232 0 a) = T 213 0 (T 232 0 b)
def hqR_ (T : Zt) (a b : Int) : Prop := T 232 0 a = T 232 0 b ∨ T 232 0 a = T 233 0 b ∨ T 233 0 a = T 232 0 b ∨ T 233 0 a = T 233 0 b
def rsR_ (T : Zt) (a : Int) : Int := T 205 0 (23 * T 230 0 a + 8)
def abR_ (T : Zt) (a : Int) : Prop := T 235 0 a ≠ 3
def SAR_ (T : Zt) (day : Int → Int) (a b d : Int) : Prop := SAG_ (sqR_ T) (hqR_ T) (rsR_ T) (abR_ T) day a b d
def BKR_ (T : Zt) (day : Int → Int) (k d : Int) : Prop := BK_ (sqR_ T) (hqR_ T) (rsR_ T) (abR_ T) (T 111 0 29) day k d
def kpr_ (T T' : Zt) : Prop := (∀ k j, k = 213 ∨ k = 232 ∨ k = 233 ∨ k = 205 ∨ k = 230 ∨ k = 235 → T' k 0 j = T k 0 j) ∧ T' 111 0 29 = T 111 0 29
theorem sar_k {T T' : Zt} (k : kpr_ T T') : SAR_ T' = SAR_ T := sorry
theorem bkr_k {T T' : Zt} (k : kpr_ T T') : BKR_ T' = BKR_ T := sorry
theorem kpr_r {T : Zt} : kpr_ T T := sorry
theorem kpr_t {T T1 T2 : Zt} (a : kpr_ T T1) (b : kpr_ T1 T2) : kpr_ T T2 := sorry
theorem kpr_f {ws : List (Nat × List Int)} {T T1 : Zt} (f : fr_ ws T T1) (w : (∀ j, fw_ ws 213 j = false) ∧ (∀ j, fw_ ws 232 j = false) ∧ (∀ j, fw_ ws 233 j = false) ∧ (∀ j, fw_ ws 205 j = false) ∧ (∀ j, fw_ ws 230 j = false) ∧ (∀ j, fw_ ws 235 j = false) ∧ fw_ ws 111 29 = false) : kpr_ T T1 := sorry
theorem sar_d {T : Zt} {f g : Int → Int} {a b d : Int} (h : b ≠ a → f b = g b) : SAR_ T f a b d ↔ SAR_ T g a b d := sorry
theorem bkr_d {T : Zt} {f g : Int → Int} {a d : Int} (h : ∀ b, b ≠ a → f b = g b) : BKR_ T f a d ↔ BKR_ T g a d := sorry
def AGR_ (T : Zt) (p d k : Int) : Prop := SAR_ T (fun m => T 234 0 m) p k d
noncomputable def mvR_ (T : Zt) (p d : Int) (K : Int) : (Int → Int) × Int := mv_ (BKR_ T) (AGR_ T p d) d (u1_ (fun m => T 234 0 m) p d) K.toNat
theorem mvR_i {T : Zt} {p d A B : Int} (h0 : 0 ≤ A) (h1 : A ≤ B) (h : ∀ k, A ≤ k → k < B → ¬ AGR_ T p d k) : mvR_ T p d B = mvR_ T p d A := sorry
theorem mvR_y {T : Zt} {p d k : Int} (k0 : 0 ≤ k) (h : (mvR_ T p d k).2 = 1) (ha : AGR_ T p d k) (g : ffd_ (BKR_ T (mvR_ T p d k).1 k) (999 - d).toNat (d + 1) ≠ -1) : mvR_ T p d (k + 1) = (u1_ (mvR_ T p d k).1 k (ffd_ (BKR_ T (mvR_ T p d k).1 k) (999 - d).toNat (d + 1)), 1) := sorry
theorem mvR_x {T : Zt} {p d k : Int} (k0 : 0 ≤ k) (h : (mvR_ T p d k).2 = 1) (ha : AGR_ T p d k) (g : ffd_ (BKR_ T (mvR_ T p d k).1 k) (999 - d).toNat (d + 1) = -1) {M : Int} (hm : k < M) : (mvR_ T p d M).2 ≠ 1 := sorry
def TLR_ (T : Zt) (k : Int) : Prop := T 235 0 k = 0
/-- putting off, as the reference ends it -/
def PTQ_ (T T' : Zt) (p d x : Int) : Prop := (x = -4 ∧ ¬ ((∀ k, 0 ≤ k → k < T 111 0 29 → AGR_ T p d k → TLR_ T k) ∧ (mvR_ T p d (T 111 0 29)).2 = 1) ∧ (∀ j, T' 234 0 j = T 234 0 j) ∧ (∀ j, T' 274 0 j = T 274 0 j) ∧ T' 111 0 75 = T 111 0 75) ∨ (0 ≤ x ∧ (∀ k, 0 ≤ k → k < T 111 0 29 → AGR_ T p d k → TLR_ T k) ∧ (mvR_ T p d (T 111 0 29)).2 = 1 ∧ (∀ i, T' 234 0 i = (mvR_ T p d (T 111 0 29)).1 i) ∧ LHD_ (fun _ => 0) (AGR_ T p d) (fun j => T' 274 0 j) 0 (T 111 0 29) 400 x ∧ T' 111 0 75 = x)
def RVR_ (T U : Zt) (L : Int → Int) (p g i : Int) : Prop := ∀ x, x ≠ p → (∀ j, i ≤ j → j < g → L j ≠ x) → U 234 0 x = T 234 0 x
abbrev po_X2_rest_f (T : Zt) (p : Int) : Zt → Option Zv → Prop := fun T' r => T = T' ∧ ∃ x : Int, r = some (vI x) ∧ (0 ≤ x ∧ x ≤ 999 ∧ x = T 401 (T 102 p 0) 8)
set_option maxHeartbeats 4000000 in
theorem ct_X2_rest_f {T : Zt} {p : Int} : Ct_ yX2_rest zX2_rest T [vR 102 p] (po_X2_rest_f T p) := sorry
abbrev po_X6_shareClub_f (T : Zt) (p : Int) (u : Int) : Zt → Option Zv → Prop := fun T' r => T = T' ∧ ∃ x : Int, r = some (vI x) ∧ ((x = 1 ∧ (T 102 p 3 = T 102 u 3 ∨ T 102 p 4 = T 102 u 3 ∨ T 102 p 3 = T 102 u 4 ∨ T 102 p 4 = T 102 u 4)) ∨ (x = 0 ∧ ¬ (T 102 p 3 = T 102 u 3 ∨ T 102 p 4 = T 102 u 3 ∨ T 102 p 3 = T 102 u 4 ∨ T 102 p 4 = T 102 u 4)))
set_option maxHeartbeats 4000000 in
theorem ct_X6_shareClub_f {T : Zt} {p : Int} {u : Int} : Ct_ yX6_shareClub zX6_shareClub T [vR 102 p, vR 102 u] (po_X6_shareClub_f T p u) := sorry
abbrev po_X6_standAgainst_f (T : Zt) (p : Int) (u : Int) : Zt → Option Zv → Prop := fun T' r => T = T' ∧ ∃ x : Int, r = some (vI x) ∧ ((x = 1 ∧ (T 102 p 6 = -1 ∧ T 102 u 6 = -1 ∧ ((T 102 p 5 = T 102 u 5 ∧ T 560 0 (T 102 p 3) = T 560 0 (T 102 u 3)) ∨ (((T 102 p 5 - T 102 u 5 < T 401 (T 102 p 0) 8 ∧ T 102 u 5 - T 102 p 5 < T 401 (T 102 p 0) 8) ∨ (T 102 p 5 - T 102 u 5 < T 401 (T 102 u 0) 8 ∧ T 102 u 5 - T 102 p 5 < T 401 (T 102 u 0) 8)) ∧ (T 102 p 3 = T 102 u 3 ∨ T 102 p 4 = T 102 u 3 ∨ T 102 p 3 = T 102 u 4 ∨ T 102 p 4 = T 102 u 4))))) ∨ (x = 0 ∧ ¬ (T 102 p 6 = -1 ∧ T 102 u 6 = -1 ∧ ((T 102 p 5 = T 102 u 5 ∧ T 560 0 (T 102 p 3) = T 560 0 (T 102 u 3)) ∨ (((T 102 p 5 - T 102 u 5 < T 401 (T 102 p 0) 8 ∧ T 102 u 5 - T 102 p 5 < T 401 (T 102 p 0) 8) ∨ (T 102 p 5 - T 102 u 5 < T 401 (T 102 u 0) 8 ∧ T 102 u 5 - T 102 p 5 < T 401 (T 102 u 0) 8)) ∧ (T 102 p 3 = T 102 u 3 ∨ T 102 p 4 = T 102 u 3 ∨ T 102 p 3 = T 102 u 4 ∨ T 102 p 4 = T 102 u 4))))))
set_option maxHeartbeats 4000000 in
theorem ct_X6_standAgainst_f {T : Zt} {p : Int} {u : Int} : Ct_ yX6_standAgainst zX6_standAgainst T [vR 106 0, vR 102 p, vR 102 u] (po_X6_standAgainst_f T p u) := sorry
