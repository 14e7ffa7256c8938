-- putting off: what stands against a match, the first free day, one after the other
def SAG_ (sq hq : Int → Int → Prop) (rs : Int → Int) (ab : Int → Prop) (day : Int → Int) (a b d : Int) : Prop := a ≠ b ∧ ab a ∧ ab b ∧ ((d = day b ∧ sq a b) ∨ (((d - day b < rs a ∧ day b - d < rs a) ∨ (d - day b < rs b ∧ day b - d < rs b)) ∧ hq a b))
theorem sa_e {sq hq sq' hq' : Int → Int → Prop} {rs rs' : Int → Int} {ab ab' : Int → Prop} {day day' : Int → Int} {a b d : Int} (h1 : sq' a b ↔ sq a b) (h2 : hq' a b ↔ hq a b) (h3 : rs' a = rs a ∧ rs' b = rs b) (h4 : ab' a ↔ ab a) (h5 : ab' b ↔ ab b) (h6 : day' b = day b) : SAG_ sq' hq' rs' ab' day' a b d ↔ SAG_ sq hq rs ab day a b d := by
  unfold SAG_
  rw [h1, h2, h3.1, h3.2, h4, h5, h6]
/-- from d on, n days: the first that is not P, or -1 -/
noncomputable def ffd_ (P : Int → Prop) : Nat → Int → Int
  | 0, _ => -1
  | n + 1, d => cz_ (P d) (ffd_ P n (d + 1)) d
theorem ffd_t {P : Int → Prop} {n : Nat} {d : Int} (h : P d) : ffd_ P (n + 1) d = ffd_ P n (d + 1) := cz_t h
theorem ffd_f {P : Int → Prop} {n : Nat} {d : Int} (h : ¬ P d) : ffd_ P (n + 1) d = d := cz_f h
theorem ffd_p {P : Int → Prop} : ∀ (n : Nat) (d : Int), ffd_ P n d ≠ -1 → ¬ P (ffd_ P n d)
  | 0, _, h => absurd rfl h
  | n + 1, d, h => by
    by_cases z : P d
    · rw [ffd_t z] at h ⊢
      exact ffd_p n (d + 1) h
    · rw [ffd_f z]; exact z
theorem ffd_e {P Q : Int → Prop} : ∀ (n : Nat) (d : Int), (∀ x, d ≤ x → x < d + (n : Int) → (P x ↔ Q x)) → ffd_ P n d = ffd_ Q n d
  | 0, _, _ => rfl
  | n + 1, d, h => by
    have y := h d (Int.le_refl _) (by omega)
    by_cases z : P d
    · rw [ffd_t z, ffd_t (y.mp z)]
      exact ffd_e n (d + 1) (fun x a b => h x (by omega) (by omega))
    · rw [ffd_f z, ffd_f (fun q => z (y.mpr q))]
/-- a day that is blocked for match k -/
def BK_ (sq hq : Int → Int → Prop) (rs : Int → Int) (ab : Int → Prop) (n : Int) (day : Int → Int) (k d : Int) : Prop := ∃ b, 0 ≤ b ∧ b < n ∧ SAG_ sq hq rs ab day k b d
def u1_ (f : Int → Int) (i v : Int) : Int → Int := fun j => if j = i then v else f j
theorem u1_s {f : Int → Int} {i v : Int} : u1_ f i v i = v := if_pos rfl
theorem u1_n {f : Int → Int} {i v j : Int} (h : j ≠ i) : u1_ f i v j = f j := if_neg h
/-- the moves, one match after the other -/
noncomputable def mv_ (bk : (Int → Int) → Int → Int → Prop) (ag : Int → Prop) (d : Int) (day : Int → Int) : Nat → (Int → Int) × Int
  | 0 => (day, 1)
  | k + 1 => cz_ ((mv_ bk ag d day k).2 = 1 ∧ ag (k : Int)) (cz_ (ffd_ (bk (mv_ bk ag d day k).1 (k : Int)) (999 - d).toNat (d + 1) = -1) ((mv_ bk ag d day k).1, 0) (u1_ (mv_ bk ag d day k).1 (k : Int) (ffd_ (bk (mv_ bk ag d day k).1 (k : Int)) (999 - d).toNat (d + 1)), 1)) (mv_ bk ag d day k)
theorem mv_n {bk : (Int → Int) → Int → Int → Prop} {ag : Int → Prop} {d : Int} {day : Int → Int} {k : Nat} (h : ¬ ((mv_ bk ag d day k).2 = 1 ∧ ag (k : Int))) : mv_ bk ag d day (k + 1) = mv_ bk ag d day k := cz_f h
theorem mv_x {bk : (Int → Int) → Int → Int → Prop} {ag : Int → Prop} {d : Int} {day : Int → Int} {k : Nat} (h : (mv_ bk ag d day k).2 = 1 ∧ ag (k : Int)) (g : ffd_ (bk (mv_ bk ag d day k).1 (k : Int)) (999 - d).toNat (d + 1) = -1) : mv_ bk ag d day (k + 1) = ((mv_ bk ag d day k).1, 0) := by
  show cz_ _ _ _ = _
  rw [cz_t h, cz_t g]
theorem mv_y {bk : (Int → Int) → Int → Int → Prop} {ag : Int → Prop} {d : Int} {day : Int → Int} {k : Nat} (h : (mv_ bk ag d day k).2 = 1 ∧ ag (k : Int)) (g : ffd_ (bk (mv_ bk ag d day k).1 (k : Int)) (999 - d).toNat (d + 1) ≠ -1) : mv_ bk ag d day (k + 1) = (u1_ (mv_ bk ag d day k).1 (k : Int) (ffd_ (bk (mv_ bk ag d day k).1 (k : Int)) (999 - d).toNat (d + 1)), 1) := by
  show cz_ _ _ _ = _
  rw [cz_t h, cz_f g]
theorem mv_g {bk : (Int → Int) → Int → Int → Prop} {ag : Int → Prop} {d : Int} {day : Int → Int} (A : Nat) : ∀ t : Nat, (∀ k, (A : Int) ≤ k → k < (A : Int) + (t : Int) → ¬ ag k) → mv_ bk ag d day (A + t) = mv_ bk ag d day A
  | 0, _ => rfl
  | t + 1, h => by
    show mv_ bk ag d day (A + t + 1) = _
    rw [mv_n (fun c => h ((A + t : Nat) : Int) (by omega) (by omega) c.2)]
    exact mv_g A t (fun k a b => h k a (by omega))
theorem mv_i {bk : (Int → Int) → Int → Int → Prop} {ag : Int → Prop} {d : Int} {day : Int → Int} {A B : Int} (h0 : 0 ≤ A) (h1 : A ≤ B) (h : ∀ k, A ≤ k → k < B → ¬ ag k) : mv_ bk ag d day B.toNat = mv_ bk ag d day A.toNat := by
  rw [show B.toNat = A.toNat + (B - A).toNat by omega]
  exact mv_g A.toNat (B - A).toNat (fun k a b => h k (by omega) (by omega))
/-- once it has failed it stays so -/
theorem mv_z {bk : (Int → Int) → Int → Int → Prop} {ag : Int → Prop} {d : Int} {day : Int → Int} (A : Nat) (h : (mv_ bk ag d day A).2 ≠ 1) : ∀ t : Nat, mv_ bk ag d day (A + t) = mv_ bk ag d day A
  | 0 => rfl
  | t + 1 => by
    show mv_ bk ag d day (A + t + 1) = _
    rw [mv_n (fun c => h (by rw [mv_z A h t] at c; exact c.1))]
    exact mv_z A h t
/-- those that were not moved keep their days -/
theorem mv_k {bk : (Int → Int) → Int → Int → Prop} {ag : Int → Prop} {d : Int} {day : Int → Int} {j : Int} : ∀ k : Nat, (¬ ag j ∨ (k : Int) ≤ j ∨ j < 0) → (mv_ bk ag d day k).1 j = day j
  | 0, _ => rfl
  | k + 1, h => by
    have ih := mv_k (bk := bk) (ag := ag) (d := d) (day := day) (j := j) k (h.elim Or.inl (fun y => Or.inr (by omega)))
    by_cases z : (mv_ bk ag d day k).2 = 1 ∧ ag (k : Int)
    · by_cases g : ffd_ (bk (mv_ bk ag d day k).1 (k : Int)) (999 - d).toNat (d + 1) = -1
      · rw [mv_x z g]; exact ih
      · rw [mv_y z g]
        show u1_ _ (k : Int) _ j = _
        by_cases w : j = (k : Int)
        · rcases h with h | h | h
          · exact absurd (w ▸ z.2) h
          · omega
          · omega
        · rw [u1_n w]; exact ih
    · rw [mv_n z]; exact ih
/-- both sides move alike -/
theorem mv_e {bk bk' : (Int → Int) → Int → Int → Prop} {ag ag' : Int → Prop} {d : Int} {day day' : Int → Int} {n : Int} (he : ∀ j, 0 ≤ j → j < n → day' j = day j) (ha : ∀ k, 0 ≤ k → k < n → (ag' k ↔ ag k)) (hb : ∀ (f f' : Int → Int) (k x : Int), (∀ j, 0 ≤ j → j < n → f' j = f j) → 0 ≤ k → k < n → (bk' f' k x ↔ bk f k x)) : ∀ k : Nat, (k : Int) ≤ n → (mv_ bk' ag' d day' k).2 = (mv_ bk ag d day k).2 ∧ ∀ j, 0 ≤ j → j < n → (mv_ bk' ag' d day' k).1 j = (mv_ bk ag d day k).1 j
  | 0, _ => ⟨rfl, he⟩
  | k + 1, hk => by
    have ih := mv_e (d := d) he ha hb k (by omega)
    have ff : ffd_ (bk' (mv_ bk' ag' d day' k).1 (k : Int)) (999 - d).toNat (d + 1) = ffd_ (bk (mv_ bk ag d day k).1 (k : Int)) (999 - d).toNat (d + 1) := ffd_e _ _ (fun x _ _ => hb _ _ (k : Int) x ih.2 (by omega) (by omega))
    by_cases z : (mv_ bk ag d day k).2 = 1 ∧ ag (k : Int)
    · have z' : (mv_ bk' ag' d day' k).2 = 1 ∧ ag' (k : Int) := ⟨ih.1.trans z.1, (ha _ (by omega) (by omega)).mpr z.2⟩
      by_cases g : ffd_ (bk (mv_ bk ag d day k).1 (k : Int)) (999 - d).toNat (d + 1) = -1
      · rw [mv_x z g, mv_x z' (ff.trans g)]
        exact ⟨rfl, ih.2⟩
      · rw [mv_y z g, mv_y z' (fun y => g (ff.symm.trans y)), ff]
        refine ⟨rfl, fun j a b => ?_⟩
        show u1_ _ (k : Int) _ j = u1_ _ (k : Int) _ j
        by_cases w : j = (k : Int)
        · rw [w, u1_s, u1_s]
        · rw [u1_n w, u1_n w]; exact ih.2 j a b
    · have z' : ¬ ((mv_ bk' ag' d day' k).2 = 1 ∧ ag' (k : Int)) := fun c => z ⟨ih.1.symm.trans c.1, (ha _ (by omega) (by omega)).mp c.2⟩
      rw [mv_n z, mv_n z']
      exact ih
/-- two lists of the same in the same order are the same -/
theorem lhd_u {day : Int → Int} {rel rel' : Int → Prop} {L L' : Int → Int} {f k kp x x' : Int} (h : LHD_ day rel L f k kp x) (h' : LHD_ day rel' L' f k kp x') (e : ∀ m, f ≤ m → m < f + k → (rel m ↔ rel' m)) : ∀ n : Nat, (n : Int) < x → (n : Int) < x' ∧ L (n : Int) = L' (n : Int) := by
  intro n
  induction n using Nat.strongRecOn with
  | _ n ih =>
    intro hn
    have y := h.1 (n : Int) (by omega) hn
    obtain ⟨j, j0, j1, j2⟩ := h'.2.2 (L (n : Int)) y.1 y.2.1 ((e _ y.1 y.2.1).mp y.2.2.1) y.2.2.2
    have hj : (n : Int) ≤ j := by
      rcases Int.lt_or_le j (n : Int) with c | c
      · have q := ih j.toNat (by omega) (by omega)
        rw [show ((j.toNat : Nat) : Int) = j by omega] at q
        have w := h.2.1 j (n : Int) j0 c hn
        rw [q.2, j2] at w
        omega
      · exact c
    have hx : (n : Int) < x' := by omega
    refine ⟨hx, ?_⟩
    have y' := h'.1 (n : Int) (by omega) hx
    obtain ⟨i, i0, i1, i2⟩ := h.2.2 (L' (n : Int)) y'.1 y'.2.1 ((e _ y'.1 y'.2.1).mpr y'.2.2.1) y'.2.2.2
    have hi : (n : Int) ≤ i := by
      rcases Int.lt_or_le i (n : Int) with c | c
      · have q := ih i.toNat (by omega) (by omega)
        rw [show ((i.toNat : Nat) : Int) = i by omega] at q
        have w := h'.2.1 i (n : Int) i0 c hx
        rw [← q.2, i2] at w
        omega
      · exact c
    have a1 : day (L' (n : Int)) * 400 + L' (n : Int) ≤ day (L (n : Int)) * 400 + L (n : Int) := by
      by_cases c : (n : Int) = j
      · rw [show L' (n : Int) = L (n : Int) from (congrArg L' c).trans j2]; exact Int.le_refl _
      · have w := h'.2.1 (n : Int) j (by omega) (by omega) j1
        rw [j2] at w; omega
    have a2 : day (L (n : Int)) * 400 + L (n : Int) ≤ day (L' (n : Int)) * 400 + L' (n : Int) := by
      by_cases c : (n : Int) = i
      · rw [show L (n : Int) = L' (n : Int) from (congrArg L c).trans i2]; exact Int.le_refl _
      · have w := h.2.1 (n : Int) i (by omega) (by omega) i1
        rw [i2] at w; omega
    by_cases c : (n : Int) = j
    · exact ((congrArg L' c).trans j2).symm
    · have w := h'.2.1 (n : Int) j (by omega) (by omega) j1
      rw [j2] at w
      omega
theorem lhd_q {day : Int → Int} {rel rel' : Int → Prop} {L L' : Int → Int} {f k kp x x' : Int} (h : LHD_ day rel L f k kp x) (h' : LHD_ day rel' L' f k kp x') (e : ∀ m, f ≤ m → m < f + k → (rel m ↔ rel' m)) (x0 : 0 ≤ x) (x1 : 0 ≤ x') : x = x' ∧ ∀ j, 0 ≤ j → j < x → L j = L' j := by
  have a : ∀ j, 0 ≤ j → j < x → j < x' ∧ L j = L' j := fun j j0 j1 => by
    have q := lhd_u h h' e j.toNat (by omega)
    rw [show ((j.toNat : Nat) : Int) = j by omega] at q
    exact q
  have b : ∀ j, 0 ≤ j → j < x' → j < x := fun j j0 j1 => by
    have q := lhd_u h' h (fun m m0 m1 => (e m m0 m1).symm) j.toNat (by omega)
    rw [show ((j.toNat : Nat) : Int) = j by omega] at q
    exact q.1
  refine ⟨?_, fun j j0 j1 => (a j j0 j1).2⟩
  rcases Int.lt_trichotomy x x' with c | c | c
  · have := b x x0 c; omega
  · exact c
  · have := (a x' x1 c).1; omega
/-- those of one stadium are on different days afterwards -/
theorem mv_dd {sq hq R : Int → Int → Prop} {rs : Int → Int} {ab : Int → Prop} {n p d : Int} {ag : Int → Prop} {day : Int → Int} (hR : ∀ a b, R a b → sq a b) (sy : ∀ a b, R a b → R b a)
    (h0 : ∀ a b, 0 ≤ a → a < n → 0 ≤ b → b < n → a ≠ b → ab a → ab b → R a b → day a = day b → (a = p ∧ ag b) ∨ (b = p ∧ ag a)) : ∀ k : Nat, (k : Int) ≤ n → (mv_ (BK_ sq hq rs ab n) ag d day k).2 = 1 → ∀ a b, 0 ≤ a → a < n → 0 ≤ b → b < n → a ≠ b → ab a → ab b → R a b → (mv_ (BK_ sq hq rs ab n) ag d day k).1 a = (mv_ (BK_ sq hq rs ab n) ag d day k).1 b → (a = p ∧ ag b ∧ (k : Int) ≤ b) ∨ (b = p ∧ ag a ∧ (k : Int) ≤ a)
  | 0, _, _ => fun a b a0 a1 b0 b1 ne ha hb hs he => by
    rcases h0 a b a0 a1 b0 b1 ne ha hb hs he with z | z
    · exact Or.inl ⟨z.1, z.2, by omega⟩
    · exact Or.inr ⟨z.1, z.2, by omega⟩
  | k + 1, hk, h2 => fun a b a0 a1 b0 b1 ne ha hb hs he => by
    by_cases z : (mv_ (BK_ sq hq rs ab n) ag d day k).2 = 1 ∧ ag (k : Int)
    · have ih := mv_dd (hq := hq) (rs := rs) (d := d) hR sy h0 k (by omega) z.1
      by_cases g : ffd_ (BK_ sq hq rs ab n (mv_ (BK_ sq hq rs ab n) ag d day k).1 (k : Int)) (999 - d).toNat (d + 1) = -1
      · rw [mv_x z g] at h2; have h3 : (0 : Int) = 1 := h2; exact absurd h3 (by decide)
      · rw [mv_y z g] at he
        have nb : ¬ BK_ sq hq rs ab n (mv_ (BK_ sq hq rs ab n) ag d day k).1 (k : Int) (ffd_ (BK_ sq hq rs ab n (mv_ (BK_ sq hq rs ab n) ag d day k).1 (k : Int)) (999 - d).toNat (d + 1)) := ffd_p _ _ g
        generalize ffd_ (BK_ sq hq rs ab n (mv_ (BK_ sq hq rs ab n) ag d day k).1 (k : Int)) (999 - d).toNat (d + 1) = D at he nb
        have he2 : u1_ (mv_ (BK_ sq hq rs ab n) ag d day k).1 (k : Int) D a = u1_ (mv_ (BK_ sq hq rs ab n) ag d day k).1 (k : Int) D b := he
        by_cases wa : a = (k : Int)
        · rw [wa, u1_s, u1_n (fun y => ne (wa.trans y.symm))] at he2
          exact absurd ⟨b, b0, b1, fun y => ne (wa.trans y), wa ▸ ha, hb, Or.inl ⟨he2, hR _ _ (wa ▸ hs)⟩⟩ nb
        · by_cases wb : b = (k : Int)
          · rw [wb, u1_s, u1_n wa] at he2
            exact absurd ⟨a, a0, a1, fun y => wa y.symm, wb ▸ hb, ha, Or.inl ⟨he2.symm, hR _ _ (wb ▸ sy a b hs)⟩⟩ nb
          · rw [u1_n wa, u1_n wb] at he2
            rcases ih a b a0 a1 b0 b1 ne ha hb hs he2 with y | y
            · exact Or.inl ⟨y.1, y.2.1, by omega⟩
            · exact Or.inr ⟨y.1, y.2.1, by omega⟩
    · rw [mv_n z] at h2 he
      have nz : ¬ ag (k : Int) := fun c => z ⟨h2, c⟩
      rcases mv_dd (hq := hq) (rs := rs) (d := d) hR sy h0 k (by omega) h2 a b a0 a1 b0 b1 ne ha hb hs he with y | y
      · refine Or.inl ⟨y.1, y.2.1, ?_⟩
        by_cases w : b = (k : Int)
        · exact absurd (w ▸ y.2.1) nz
        · omega
      · refine Or.inr ⟨y.1, y.2.1, ?_⟩
        by_cases w : a = (k : Int)
        · exact absurd (w ▸ y.2.1) nz
        · omega
-- the house
def sqH_ (T : Zt) (a b : Int) : Prop := T 560 0 (T 102 a 3) = T 560 0 (T 102 b 3)
def hqH_ (T : Zt) (a b : Int) : Prop := T 102 a 3 = T 102 b 3 ∨ T 102 a 4 = T 102 b 3 ∨ T 102 a 3 = T 102 b 4 ∨ T 102 a 4 = T 102 b 4
def rsH_ (T : Zt) (a : Int) : Int := T 401 (T 102 a 0) 8
def abH_ (T : Zt) (a : Int) : Prop := T 102 a 6 = -1
def SAH_ (T : Zt) (day : Int → Int) (a b d : Int) : Prop := SAG_ (sqH_ T) (hqH_ T) (rsH_ T) (abH_ T) day a b d
def BKH_ (T : Zt) (day : Int → Int) (k d : Int) : Prop := BK_ (sqH_ T) (hqH_ T) (rsH_ T) (abH_ T) (T 106 0 4) day k d
/-- what changes no rule of putting off -/
def kpo_ (T T' : Zt) : Prop := (∀ a j, j ≠ 5 → T' 102 a j = T 102 a j) ∧ (∀ c, T' 401 c 8 = T 401 c 8) ∧ (∀ j, T' 560 0 j = T 560 0 j) ∧ T' 106 0 4 = T 106 0 4
theorem sah_k {T T' : Zt} (k : kpo_ T T') : SAH_ T' = SAH_ T := by
  obtain ⟨e, e8, es, en⟩ := k
  funext day a b d
  have h3 : ∀ a, T' 102 a 3 = T 102 a 3 := fun a => e a 3 (by decide)
  have h4 : ∀ a, T' 102 a 4 = T 102 a 4 := fun a => e a 4 (by decide)
  have h6 : ∀ a, T' 102 a 6 = T 102 a 6 := fun a => e a 6 (by decide)
  have h0 : ∀ a, T' 102 a 0 = T 102 a 0 := fun a => e a 0 (by decide)
  have s1 : sqH_ T' = sqH_ T := by funext a b; unfold sqH_; rw [h3, h3, es, es]
  have s2 : hqH_ T' = hqH_ T := by funext a b; unfold hqH_; rw [h3, h3, h4, h4]
  have s3 : rsH_ T' = rsH_ T := by funext a; unfold rsH_; rw [h0, e8]
  have s4 : abH_ T' = abH_ T := by funext a; unfold abH_; rw [h6]
  unfold SAH_
  rw [s1, s2, s3, s4]
theorem bkh_k {T T' : Zt} (k : kpo_ T T') : BKH_ T' = BKH_ T := by
  have s := sah_k k
  funext day a d
  have e : ∀ (X : Zt), BKH_ X day a d = ∃ b, 0 ≤ b ∧ b < X 106 0 4 ∧ SAH_ X day a b d := fun _ => rfl
  rw [e, e, s, k.2.2.2]
theorem kpo_t {T T1 T2 : Zt} (a : kpo_ T T1) (b : kpo_ T1 T2) : kpo_ T T2 := ⟨fun i j h => (b.1 i j h).trans (a.1 i j h), fun c => (b.2.1 c).trans (a.2.1 c), fun j => (b.2.2.1 j).trans (a.2.2.1 j), b.2.2.2.trans a.2.2.2⟩
/-- blocked by the matches below k -/
def BKn_ (T : Zt) (p k d : Int) : Prop := ∃ b, 0 ≤ b ∧ b < k ∧ SAH_ T (fun m => T 102 m 5) p b d
theorem bkn_0 {T : Zt} {p d : Int} : ¬ BKn_ T p 0 d := fun ⟨b, h0, h1, _⟩ => by omega
theorem bkn_s {T : Zt} {p k d : Int} (k0 : 0 ≤ k) : BKn_ T p (k + 1) d ↔ (BKn_ T p k d ∨ SAH_ T (fun m => T 102 m 5) p k d) := by
  constructor
  · rintro ⟨b, h0, h1, h2⟩
    by_cases z : b = k
    · exact Or.inr (z ▸ h2)
    · exact Or.inl ⟨b, h0, by omega, h2⟩
  · rintro (⟨b, h0, h1, h2⟩ | h)
    · exact ⟨b, h0, by omega, h2⟩
    · exact ⟨k, k0, by omega, h⟩
/-- a row of days tells which are blocked -/
def BR_ (B : Int → Int) (Q : Int → Prop) : Prop := ∀ d, 0 ≤ d → d ≤ 999 → (B d = 1 ∧ Q d) ∨ (B d = 0 ∧ ¬ Q d)
theorem br_e {B : Int → Int} {Q R : Int → Prop} (h : BR_ B Q) (e : ∀ d, 0 ≤ d → d ≤ 999 → (Q d ↔ R d)) : BR_ B R := fun d a b => by
  rcases h d a b with z | z
  · exact Or.inl ⟨z.1, (e d a b).mp z.2⟩
  · exact Or.inr ⟨z.1, fun c => z.2 ((e d a b).mpr c)⟩
theorem br_u {B B' : Int → Int} {Q : Int → Prop} {i : Int} (h : BR_ B Q) (e1 : B' i = 1) (e2 : ∀ j, j ≠ i → B' j = B j) : BR_ B' (fun d => Q d ∨ d = i) := fun d a b => by
  by_cases z : d = i
  · exact Or.inl ⟨z ▸ e1, Or.inr z⟩
  · rw [e2 d z]
    rcases h d a b with y | y
    · exact Or.inl ⟨y.1, Or.inl y.2⟩
    · exact Or.inr ⟨y.1, fun c => c.elim y.2 z⟩
/-- a match goes behind -/
def GOB_ (T T' : Zt) (p d k x : Int) : Prop := (x = 0 ∧ ffd_ (BKH_ T (fun m => T 102 m 5) p) (999 - d).toNat (d + 1) = -1 ∧ (∀ i j, T' 102 i j = T 102 i j) ∧ ∀ j, T' 534 0 j = T 534 0 j) ∨ (x = 1 ∧ ffd_ (BKH_ T (fun m => T 102 m 5) p) (999 - d).toNat (d + 1) ≠ -1 ∧ T' 102 p 5 = ffd_ (BKH_ T (fun m => T 102 m 5) p) (999 - d).toNat (d + 1) ∧ T' 534 0 k = T 102 p 5 ∧ (∀ i j, ¬ (i = p ∧ j = 5) → T' 102 i j = T 102 i j) ∧ ∀ j, j ≠ k → T' 534 0 j = T 534 0 j)
def AGH_ (T : Zt) (p d k : Int) : Prop := SAH_ T (fun m => T 102 m 5) p k d
/-- the moves, as the house makes them -/
noncomputable def mvH_ (T : Zt) (p d : Int) (K : Int) : (Int → Int) × Int := mv_ (BKH_ T) (AGH_ T p d) d (u1_ (fun m => T 102 m 5) p d) K.toNat
def TLD_ (T : Zt) (k : Int) : Prop := T 102 k 6 = -1 ∧ T 102 k 10 = 0
/-- one of these is not told -/
def NTL_ (T : Zt) (p d : Int) : Prop := ∃ k, 0 ≤ k ∧ k < T 106 0 4 ∧ AGH_ T p d k ∧ ¬ TLD_ T k
theorem ntl_i {T : Zt} {p d k : Int} (k0 : 0 ≤ k) (k1 : k < T 106 0 4) (k2 : AGH_ T p d k) (k3 : ¬ TLD_ T k) : NTL_ T p d := by
  unfold NTL_
  exact ⟨k, k0, k1, k2, k3⟩
/-- where the g-th of the list stands -/
def KKG_ (L : Int → Int) (g n M K : Int) : Prop := (g < n ∧ K = L g) ∨ (¬ g < n ∧ K = M)
theorem sah_d {T : Zt} {f g : Int → Int} {a b d : Int} (h : f b = g b) : SAH_ T f a b d ↔ SAH_ T g a b d := by
  unfold SAH_
  exact sa_e Iff.rfl Iff.rfl ⟨rfl, rfl⟩ Iff.rfl Iff.rfl h
theorem lhd_z {rel : Int → Prop} {L : Int → Int} {f n kp x i j : Int} (h : LHD_ (fun _ => 0) rel L f n kp x) (a : 0 ≤ i) (b : i < j) (c : j < x) : L i < L j := by
  have q : (0 : Int) * 400 + L i < (0 : Int) * 400 + L j := h.2.1 i j a b c
  omega
/-- between one of the list and the next none is to be moved -/
theorem kk_0 {rel : Int → Prop} {L : Int → Int} {M x K : Int} (h : LHD_ (fun _ => 0) rel L 0 M 400 x) (hk : KKG_ L 0 x M K) (x0 : 0 ≤ x) (m4 : M ≤ 400) : ∀ k, 0 ≤ k → k < K → k < M → ¬ rel k := fun k k0 k1 k2 hr => by
  obtain ⟨j, j0, j1, j2⟩ := h.2.2 k k0 (by omega) hr (by show (0 : Int) * 400 + k < 400; omega)
  rcases hk with ⟨z, e⟩ | ⟨z, e⟩
  · by_cases w : j = 0
    · rw [w] at j2; omega
    · have q := lhd_z h (i := 0) (j := j) (by omega) (by omega) j1
      omega
  · omega
theorem kk_s {rel : Int → Prop} {L : Int → Int} {M x K g : Int} (h : LHD_ (fun _ => 0) rel L 0 M 400 x) (g0 : 0 ≤ g) (g1 : g < x) (hk : KKG_ L (g + 1) x M K) (m4 : M ≤ 400) : ∀ k, L g + 1 ≤ k → k < K → k < M → ¬ rel k := fun k k0 k1 k2 hr => by
  have y := h.1 g g0 g1
  obtain ⟨j, j0, j1, j2⟩ := h.2.2 k (by omega) (by omega) hr (by show (0 : Int) * 400 + k < 400; omega)
  have w : g < j := by
    rcases Int.lt_trichotomy j g with c | c | c
    · have q := lhd_z h j0 c g1; omega
    · rw [c] at j2; omega
    · exact c
  rcases hk with ⟨z, e⟩ | ⟨z, e⟩
  · by_cases u : j = g + 1
    · rw [u] at j2; omega
    · have q := lhd_z h (i := g + 1) (j := j) (by omega) (by omega) j1
      omega
  · omega
theorem kk_b {rel : Int → Prop} {L : Int → Int} {M x K g : Int} (h : LHD_ (fun _ => 0) rel L 0 M 400 x) (g0 : 0 ≤ g) (m0 : 0 ≤ M) (hk : KKG_ L g x M K) : 0 ≤ K ∧ K ≤ M := by
  rcases hk with ⟨z, e⟩ | ⟨z, e⟩
  · have y := h.1 g g0 z
    omega
  · omega
theorem kk_l {rel : Int → Prop} {L : Int → Int} {M x K g : Int} (h : LHD_ (fun _ => 0) rel L 0 M 400 x) (g0 : 0 ≤ g) (g1 : g < x) (hk : KKG_ L (g + 1) x M K) : L g + 1 ≤ K := by
  have y := h.1 g g0 g1
  rcases hk with ⟨z, e⟩ | ⟨z, e⟩
  · have q := lhd_z h (i := g) (j := g + 1) g0 (by omega) z
    omega
  · omega
/-- putting off, as the house ends it -/
def PTO_ (T T' : Zt) (p d x : Int) : Prop := (x = -4 ∧ ¬ ((∀ k, 0 ≤ k → k < T 106 0 4 → AGH_ T p d k → TLD_ T k) ∧ (mvH_ T p d (T 106 0 4)).2 = 1) ∧ (∀ i j, T' 102 i j = T 102 i j) ∧ (∀ j, T' 531 0 j = T 531 0 j) ∧ T' 106 0 12 = T 106 0 12) ∨ (0 ≤ x ∧ (∀ k, 0 ≤ k → k < T 106 0 4 → AGH_ T p d k → TLD_ T k) ∧ (mvH_ T p d (T 106 0 4)).2 = 1 ∧ (∀ i, T' 102 i 5 = (mvH_ T p d (T 106 0 4)).1 i) ∧ (∀ i j, j ≠ 5 → T' 102 i j = T 102 i j) ∧ LHD_ (fun _ => 0) (AGH_ T p d) (fun j => T' 531 0 j) 0 (T 106 0 4) 400 x ∧ T' 106 0 12 = x)
theorem mvH_y {T U : Zt} {p d k : Int} (k0 : 0 ≤ k) (h : (mvH_ T p d k).2 = 1) (ha : AGH_ T p d k) (kp : kpo_ T U) (hd : ∀ i, U 102 i 5 = (mvH_ T p d k).1 i) (g : ffd_ (BKH_ U (fun m => U 102 m 5) k) (999 - d).toNat (d + 1) ≠ -1) : mvH_ T p d (k + 1) = (u1_ (mvH_ T p d k).1 k (ffd_ (BKH_ U (fun m => U 102 m 5) k) (999 - d).toNat (d + 1)), 1) := by
  have e : (fun m => U 102 m 5) = (mvH_ T p d k).1 := funext hd
  rw [bkh_k kp, e] at g ⊢
  have ek : ((k.toNat : Nat) : Int) = k := by omega
  unfold mvH_ at h g ⊢
  rw [show (k + 1).toNat = k.toNat + 1 by omega, mv_y ⟨h, by rw [ek]; exact ha⟩ (by rw [ek]; exact g), ek]
theorem mvH_x {T U : Zt} {p d k : Int} (k0 : 0 ≤ k) (h : (mvH_ T p d k).2 = 1) (ha : AGH_ T p d k) (kp : kpo_ T U) (hd : ∀ i, U 102 i 5 = (mvH_ T p d k).1 i) (g : ffd_ (BKH_ U (fun m => U 102 m 5) k) (999 - d).toNat (d + 1) = -1) {M : Int} (hm : k < M) : (mvH_ T p d M).2 ≠ 1 := by
  have e : (fun m => U 102 m 5) = (mvH_ T p d k).1 := funext hd
  rw [bkh_k kp, e] at g
  have ek : ((k.toNat : Nat) : Int) = k := by omega
  unfold mvH_ at h g ⊢
  have q : (mv_ (BKH_ T) (AGH_ T p d) d (u1_ (fun m => T 102 m 5) p d) (k.toNat + 1)).2 = 0 := by rw [mv_x ⟨h, by rw [ek]; exact ha⟩ (by rw [ek]; exact g)]
  rw [show M.toNat = (k.toNat + 1) + (M.toNat - (k.toNat + 1)) by omega, mv_z (k.toNat + 1) (by rw [q]; decide), q]
  decide
theorem mvH_i {T : Zt} {p d A B : Int} (h0 : 0 ≤ A) (h1 : A ≤ B) (h : ∀ k, A ≤ k → k < B → ¬ AGH_ T p d k) : mvH_ T p d B = mvH_ T p d A := mv_i h0 h1 h
/-- the days go back -/
def RVF_ (T U : Zt) (L : Int → Int) (p g i : Int) : Prop := ∀ x, x ≠ p → (∀ j, i ≤ j → j < g → L j ≠ x) → U 102 x 5 = T 102 x 5
theorem rvf_s {T U V : Zt} {L : Int → Int} {p g i v : Int} (h : RVF_ T U L p g i) (hv : v = T 102 (L i) 5) (hV : V = up_ U 102 (L i) 5 v) : RVF_ T V L p g (i + 1) := fun x a b => by
  by_cases z : x = L i
  · rw [z, up_f hV, hv]
  · rw [up_g hV (fun q => z q.2.1)]
    refine h x a (fun j c e => ?_)
    by_cases y : j = i
    · rw [y]; exact fun w => z w.symm
    · exact b j (by omega) e
-- the reference
def sqR_ (T : Zt) (a b : Int) : Prop := T 213 0 (T 232 0 a) = T 213 0 (T 232 0 b)
def hqR_ (T : Zt) (a b : Int) : Prop := T 232 0 a = T 232 0 b ∨ T 232 0 a = T 233 0 b ∨ T 233 0 a = T 232 0 b ∨ T 233 0 a = T 233 0 b
def rsR_ (T : Zt) (a : Int) : Int := T 205 0 (23 * T 230 0 a + 8)
def abR_ (T : Zt) (a : Int) : Prop := T 235 0 a ≠ 3
def SAR_ (T : Zt) (day : Int → Int) (a b d : Int) : Prop := SAG_ (sqR_ T) (hqR_ T) (rsR_ T) (abR_ T) day a b d
def BKR_ (T : Zt) (day : Int → Int) (k d : Int) : Prop := BK_ (sqR_ T) (hqR_ T) (rsR_ T) (abR_ T) (T 111 0 29) day k d
def kpr_ (T T' : Zt) : Prop := (∀ k j, k = 213 ∨ k = 232 ∨ k = 233 ∨ k = 205 ∨ k = 230 ∨ k = 235 → T' k 0 j = T k 0 j) ∧ T' 111 0 29 = T 111 0 29
theorem sar_k {T T' : Zt} (k : kpr_ T T') : SAR_ T' = SAR_ T := by
  obtain ⟨e, en⟩ := k
  funext day a b d
  have s1 : sqR_ T' = sqR_ T := by funext a b; unfold sqR_; rw [e 232 a (by decide), e 232 b (by decide), e 213 _ (by decide), e 213 _ (by decide)]
  have s2 : hqR_ T' = hqR_ T := by funext a b; unfold hqR_; rw [e 232 a (by decide), e 232 b (by decide), e 233 a (by decide), e 233 b (by decide)]
  have s3 : rsR_ T' = rsR_ T := by funext a; unfold rsR_; rw [e 230 a (by decide), e 205 _ (by decide)]
  have s4 : abR_ T' = abR_ T := by funext a; unfold abR_; rw [e 235 a (by decide)]
  unfold SAR_
  rw [s1, s2, s3, s4]
theorem bkr_k {T T' : Zt} (k : kpr_ T T') : BKR_ T' = BKR_ T := by
  have s := sar_k k
  funext day a d
  have e : ∀ (X : Zt), BKR_ X day a d = ∃ b, 0 ≤ b ∧ b < X 111 0 29 ∧ SAR_ X day a b d := fun _ => rfl
  rw [e, e, s, k.2]
theorem kpr_f {ws : List (Nat × List Int)} {T T1 : Zt} (f : fr_ ws T T1) (w : (∀ j, fw_ ws 213 j = false) ∧ (∀ j, fw_ ws 232 j = false) ∧ (∀ j, fw_ ws 233 j = false) ∧ (∀ j, fw_ ws 205 j = false) ∧ (∀ j, fw_ ws 230 j = false) ∧ (∀ j, fw_ ws 235 j = false) ∧ fw_ ws 111 29 = false) : kpr_ T T1 := by
  refine ⟨fun k j h => ?_, f 111 0 29 w.2.2.2.2.2.2⟩
  rcases h with rfl | rfl | rfl | rfl | rfl | rfl
  · exact f _ _ _ (w.1 j)
  · exact f _ _ _ (w.2.1 j)
  · exact f _ _ _ (w.2.2.1 j)
  · exact f _ _ _ (w.2.2.2.1 j)
  · exact f _ _ _ (w.2.2.2.2.1 j)
  · exact f _ _ _ (w.2.2.2.2.2.1 j)
theorem sar_d {T : Zt} {f g : Int → Int} {a b d : Int} (h : b ≠ a → f b = g b) : SAR_ T f a b d ↔ SAR_ T g a b d := by
  by_cases z : b = a
  · rw [z]; exact ⟨fun y => absurd rfl y.1, fun y => absurd rfl y.1⟩
  · unfold SAR_
    exact sa_e Iff.rfl Iff.rfl ⟨rfl, rfl⟩ Iff.rfl Iff.rfl (h z)
theorem bkr_d {T : Zt} {f g : Int → Int} {a d : Int} (h : ∀ b, b ≠ a → f b = g b) : BKR_ T f a d ↔ BKR_ T g a d := by
  constructor
  · rintro ⟨b, b0, b1, b2⟩
    exact ⟨b, b0, b1, (sar_d (h b)).mp b2⟩
  · rintro ⟨b, b0, b1, b2⟩
    exact ⟨b, b0, b1, (sar_d (h b)).mpr b2⟩
def AGR_ (T : Zt) (p d k : Int) : Prop := SAR_ T (fun m => T 234 0 m) p k d
noncomputable def mvR_ (T : Zt) (p d : Int) (K : Int) : (Int → Int) × Int := mv_ (BKR_ T) (AGR_ T p d) d (u1_ (fun m => T 234 0 m) p d) K.toNat
theorem mvR_i {T : Zt} {p d A B : Int} (h0 : 0 ≤ A) (h1 : A ≤ B) (h : ∀ k, A ≤ k → k < B → ¬ AGR_ T p d k) : mvR_ T p d B = mvR_ T p d A := mv_i h0 h1 h
theorem mvR_y {T : Zt} {p d k : Int} (k0 : 0 ≤ k) (h : (mvR_ T p d k).2 = 1) (ha : AGR_ T p d k) (g : ffd_ (BKR_ T (mvR_ T p d k).1 k) (999 - d).toNat (d + 1) ≠ -1) : mvR_ T p d (k + 1) = (u1_ (mvR_ T p d k).1 k (ffd_ (BKR_ T (mvR_ T p d k).1 k) (999 - d).toNat (d + 1)), 1) := by
  have ek : ((k.toNat : Nat) : Int) = k := by omega
  unfold mvR_ at h g ⊢
  rw [show (k + 1).toNat = k.toNat + 1 by omega, mv_y ⟨h, by rw [ek]; exact ha⟩ (by rw [ek]; exact g), ek]
theorem mvR_x {T : Zt} {p d k : Int} (k0 : 0 ≤ k) (h : (mvR_ T p d k).2 = 1) (ha : AGR_ T p d k) (g : ffd_ (BKR_ T (mvR_ T p d k).1 k) (999 - d).toNat (d + 1) = -1) {M : Int} (hm : k < M) : (mvR_ T p d M).2 ≠ 1 := by
  have ek : ((k.toNat : Nat) : Int) = k := by omega
  unfold mvR_ at h g ⊢
  have q : (mv_ (BKR_ T) (AGR_ T p d) d (u1_ (fun m => T 234 0 m) p d) (k.toNat + 1)).2 = 0 := by rw [mv_x ⟨h, by rw [ek]; exact ha⟩ (by rw [ek]; exact g)]
  rw [show M.toNat = (k.toNat + 1) + (M.toNat - (k.toNat + 1)) by omega, mv_z (k.toNat + 1) (by rw [q]; decide), q]
  decide
def TLR_ (T : Zt) (k : Int) : Prop := T 235 0 k = 0
/-- putting off, as the reference ends it -/
def PTQ_ (T T' : Zt) (p d x : Int) : Prop := (x = -4 ∧ ¬ ((∀ k, 0 ≤ k → k < T 111 0 29 → AGR_ T p d k → TLR_ T k) ∧ (mvR_ T p d (T 111 0 29)).2 = 1) ∧ (∀ j, T' 234 0 j = T 234 0 j) ∧ (∀ j, T' 274 0 j = T 274 0 j) ∧ T' 111 0 75 = T 111 0 75) ∨ (0 ≤ x ∧ (∀ k, 0 ≤ k → k < T 111 0 29 → AGR_ T p d k → TLR_ T k) ∧ (mvR_ T p d (T 111 0 29)).2 = 1 ∧ (∀ i, T' 234 0 i = (mvR_ T p d (T 111 0 29)).1 i) ∧ LHD_ (fun _ => 0) (AGR_ T p d) (fun j => T' 274 0 j) 0 (T 111 0 29) 400 x ∧ T' 111 0 75 = x)
def RVR_ (T U : Zt) (L : Int → Int) (p g i : Int) : Prop := ∀ x, x ≠ p → (∀ j, i ≤ j → j < g → L j ≠ x) → U 234 0 x = T 234 0 x
theorem bk_X2_rest_f_0 : ck_ fX2 (some .int) cX2_rest 0 [.aload 0, .tableswitch 0 2 0 #[], .tableswitch 0 0 1 #[], .iconst 8, .iaload, .ireturn] 11 = true := qck_r (nn_ _) (by decide +kernel)
theorem bs_X2_rest_f_0 {P : Zt → Option Zv → Prop} (K : Int → Zl → List Zv → Zt → Prop) : sx_ K P [.aload 0, .tableswitch 0 2 0 #[], .tableswitch 0 0 1 #[], .iconst 8, .iaload, .ireturn] 11 = x_aload 0 (x_g3 102 100 0 (x_g2 100 401 (x_iconst 8 (x_iaload (x_ireturn P))))) := ((xe_aload 0).trans (congrArg (x_aload 0) ((xe_g3 (kk := 102) rfl tl_2_0).trans (congrArg (x_g3 102 100 0) ((xe_g2 (kk := 100) rfl tl_0_1).trans (congrArg (x_g2 100 401) ((xe_iconst 8).trans (congrArg (x_iconst 8) ((xe_iaload).trans (congrArg (x_iaload) (xe_ireturn)))))))))))
abbrev po_X2_rest_f (T : Zt) (p : Int) : Zt → Option Zv → Prop := fun T' r => T = T' ∧ ∃ x : Int, r = some (vI x) ∧ (0 ≤ x ∧ x ≤ 999 ∧ x = T 401 (T 102 p 0) 8)
set_option maxHeartbeats 4000000 in
theorem ct_X2_rest_f {T : Zt} {p : Int} : Ct_ yX2_rest zX2_rest T [vR 102 p] (po_X2_rest_f T p) := by
  refine ct_of pn_2 rfl rfl (Nat.le_of_ble_eq_true rfl) (fun hT hav => ?_)
  have hz : zX2_rest.2.2.2.1 = some .boolean → ∀ (T' : Zt) (x : Int), po_X2_rest_f T p T' (some (vI x)) → 0 ≤ x ∧ x ≤ 1 := fun h => by cases h
  show J_ zX2_rest T (po_X2_rest_f T p) 0 0 0 [some (vR 102 p)] [] T
  refine j_blx (F := fX2) tb_X2 (nn_ _) bk_X2_rest_f_0 bs_X2_rest_f_0 hz (fun K hK => ?_)
  refine ix_i (by omega) ?_
  intro b2 b2b
  refine (show po_X2_rest_f T p T (some (vI (T 401 (T 102 p 0) 8))) from ?_)
  exact ⟨rfl, _, rfl, by omega⟩
theorem bk_X6_shareClub_f_0 : ck_ fX6 (some .boolean) cX6_shareClub 0 [.aload 0, .aload 1, .tableswitch 0 2 3 #[]] 5 = true := qck_r (nn_ _) (by decide +kernel)
theorem bs_X6_shareClub_f_0 {P : Zt → Option Zv → Prop} (K : Int → Zl → List Zv → Zt → Prop) : sx_ K P [.aload 0, .aload 1, .tableswitch 0 2 3 #[]] 5 = x_aload 0 (x_aload 1 (x_g0 102 3 0 11 (K 5))) := ((xe_aload 0).trans (congrArg (x_aload 0) ((xe_aload 1).trans (congrArg (x_aload 1) ((xe_g0 (kk := 102) rfl tl_2_3).trans (congrArg (x_g0 102 3 0 11) xe_nil))))))
theorem bk_X6_shareClub_f_8 : ck_ fX6 (some .boolean) cX6_shareClub 8 [.ifCond .ne 22, .aload 0, .aload 1, .tableswitch 0 2 4 #[]] 16 = true := qck_r (nn_ _) (by decide +kernel)
theorem bs_X6_shareClub_f_8 {P : Zt → Option Zv → Prop} (K : Int → Zl → List Zv → Zt → Prop) : sx_ K P [.ifCond .ne 22, .aload 0, .aload 1, .tableswitch 0 2 4 #[]] 16 = x_ifCond .ne 22 K (x_aload 0 (x_aload 1 (x_g0 102 4 0 11 (K 16)))) := ((xe_ifCond .ne 22).trans (congrArg (x_ifCond .ne 22 K) ((xe_aload 0).trans (congrArg (x_aload 0) ((xe_aload 1).trans (congrArg (x_aload 1) ((xe_g0 (kk := 102) rfl tl_2_4).trans (congrArg (x_g0 102 4 0 11) xe_nil))))))))
