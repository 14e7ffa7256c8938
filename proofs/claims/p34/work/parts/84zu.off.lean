-- putting off: what stands against a match, the first free day, one after the other
def SAG_ (sq hq : Int → Int → Prop) (rs : Int → Int) (ab : Int → Prop) (day : Int → Int) (a b d : Int) : Prop := a ≠ b ∧ ab a ∧ ab b ∧ ((d = day b ∧ sq a b) ∨ (((d - day b < rs a ∧ day b - d < rs a) ∨ (d - day b < rs b ∧ day b - d < rs b)) ∧ hq a b))
theorem sa_e {sq hq sq' hq' : Int → Int → Prop} {rs rs' : Int → Int} {ab ab' : Int → Prop} {day day' : Int → Int} {a b d : Int} (h1 : sq' a b ↔ sq a b) (h2 : hq' a b ↔ hq a b) (h3 : rs' a = rs a ∧ rs' b = rs b) (h4 : ab' a ↔ ab a) (h5 : ab' b ↔ ab b) (h6 : day' b = day b) : SAG_ sq' hq' rs' ab' day' a b d ↔ SAG_ sq hq rs ab day a b d := by
  unfold SAG_
  rw [h1, h2, h3.1, h3.2, h4, h5, h6]
/-- from d on, n days: the first that is not P, or -1 -/
noncomputable def ffd_ (P : Int → Prop) : Nat → Int → Int
  | 0, _ => -1
  | n + 1, d => cz_ (P d) (ffd_ P n (d + 1)) d
theorem ffd_t {P : Int → Prop} {n : Nat} {d : Int} (h : P d) : ffd_ P (n + 1) d = ffd_ P n (d + 1) := cz_t h
theorem ffd_f {P : Int → Prop} {n : Nat} {d : Int} (h : ¬ P d) : ffd_ P (n + 1) d = d := cz_f h
theorem ffd_p {P : Int → Prop} : ∀ (n : Nat) (d : Int), ffd_ P n d ≠ -1 → ¬ P (ffd_ P n d)
  | 0, _, h => absurd rfl h
  | n + 1, d, h => by
    by_cases z : P d
    · rw [ffd_t z] at h ⊢
      exact ffd_p n (d + 1) h
    · rw [ffd_f z]; exact z
theorem ffd_e {P Q : Int → Prop} : ∀ (n : Nat) (d : Int), (∀ x, d ≤ x → x < d + (n : Int) → (P x ↔ Q x)) → ffd_ P n d = ffd_ Q n d
  | 0, _, _ => rfl
  | n + 1, d, h => by
    have y := h d (Int.le_refl _) (by omega)
    by_cases z : P d
    · rw [ffd_t z, ffd_t (y.mp z)]
      exact ffd_e n (d + 1) (fun x a b => h x (by omega) (by omega))
    · rw [ffd_f z, ffd_f (fun q => z (y.mpr q))]
/-- a day that is blocked for match k -/
def BK_ (sq hq : Int → Int → Prop) (rs : Int → Int) (ab : Int → Prop) (n : Int) (day : Int → Int) (k d : Int) : Prop := ∃ b, 0 ≤ b ∧ b < n ∧ SAG_ sq hq rs ab day k b d
def u1_ (f : Int → Int) (i v : Int) : Int → Int := fun j => if j = i then v else f j
theorem u1_s {f : Int → Int} {i v : Int} : u1_ f i v i = v := if_pos rfl
theorem u1_n {f : Int → Int} {i v j : Int} (h : j ≠ i) : u1_ f i v j = f j := if_neg h
/-- the moves, one match after the other -/
noncomputable def mv_ (bk : (Int → Int) → Int → Int → Prop) (ag : Int → Prop) (d : Int) (day : Int → Int) : Nat → (Int → Int) × Int
  | 0 => (day, 1)
  | k + 1 => cz_ ((mv_ bk ag d day k).2 = 1 ∧ ag (k : Int)) (cz_ (ffd_ (bk (mv_ bk ag d day k).1 (k : Int)) (999 - d).toNat (d + 1) = -1) ((mv_ bk ag d day k).1, 0) (u1_ (mv_ bk ag d day k).1 (k : Int) (ffd_ (bk (mv_ bk ag d day k).1 (k : Int)) (999 - d).toNat (d + 1)), 1)) (mv_ bk ag d day k)
theorem mv_n {bk : (Int → Int) → Int → Int → Prop} {ag : Int → Prop} {d : Int} {day : Int → Int} {k : Nat} (h : ¬ ((mv_ bk ag d day k).2 = 1 ∧ ag (k : Int))) : mv_ bk ag d day (k + 1) = mv_ bk ag d day k := cz_f h
theorem mv_x {bk : (Int → Int) → Int → Int → Prop} {ag : Int → Prop} {d : Int} {day : Int → Int} {k : Nat} (h : (mv_ bk ag d day k).2 = 1 ∧ ag (k : Int)) (g : ffd_ (bk (mv_ bk ag d day k).1 (k : Int)) (999 - d).toNat (d + 1) = -1) : mv_ bk ag d day (k + 1) = ((mv_ bk ag d day k).1, 0) := by
  show cz_ _ _ _ = _
  rw [cz_t h, cz_t g]
theorem mv_y {bk : (Int → Int) → Int → Int → Prop} {ag : Int → Prop} {d : Int} {day : Int → Int} {k : Nat} (h : (mv_ bk ag d day k).2 = 1 ∧ ag (k : Int)) (g : ffd_ (bk (mv_ bk ag d day k).1 (k : Int)) (999 - d).toNat (d + 1) ≠ -1) : mv_ bk ag d day (k + 1) = (u1_ (mv_ bk ag d day k).1 (k : Int) (ffd_ (bk (mv_ bk ag d day k).1 (k : Int)) (999 - d).toNat (d + 1)), 1) := by
  show cz_ _ _ _ = _
  rw [cz_t h, cz_f g]
theorem mv_g {bk : (Int → Int) → Int → Int → Prop} {ag : Int → Prop} {d : Int} {day : Int → Int} (A : Nat) : ∀ t : Nat, (∀ k, (A : Int) ≤ k → k < (A : Int) + (t : Int) → ¬ ag k) → mv_ bk ag d day (A + t) = mv_ bk ag d day A
  | 0, _ => rfl
  | t + 1, h => by
    show mv_ bk ag d day (A + t + 1) = _
    rw [mv_n (fun c => h ((A + t : Nat) : Int) (by omega) (by omega) c.2)]
    exact mv_g A t (fun k a b => h k a (by omega))
theorem mv_i {bk : (Int → Int) → Int → Int → Prop} {ag : Int → Prop} {d : Int} {day : Int → Int} {A B : Int} (h0 : 0 ≤ A) (h1 : A ≤ B) (h : ∀ k, A ≤ k → k < B → ¬ ag k) : mv_ bk ag d day B.toNat = mv_ bk ag d day A.toNat := by
  rw [show B.toNat = A.toNat + (B - A).toNat by omega]
  exact mv_g A.toNat (B - A).toNat (fun k a b => h k (by omega) (by omega))
/-- once it has failed it stays so -/
theorem mv_z {bk : (Int → Int) → Int → Int → Prop} {ag : Int → Prop} {d : Int} {day : Int → Int} (A : Nat) (h : (mv_ bk ag d day A).2 ≠ 1) : ∀ t : Nat, mv_ bk ag d day (A + t) = mv_ bk ag d day A
  | 0 => rfl
  | t + 1 => by
    show mv_ bk ag d day (A + t + 1) = _
    rw [mv_n (fun c => h (by rw [mv_z A h t] at c; exact c.1))]
    exact mv_z A h t
/-- those that were not moved keep their days -/
theorem mv_k {bk : (Int → Int) → Int → Int → Prop} {ag : Int → Prop} {d : Int} {day : Int → Int} {j : Int} : ∀ k : Nat, (¬ ag j ∨ (k : Int) ≤ j ∨ j < 0) → (mv_ bk ag d day k).1 j = day j
  | 0, _ => rfl
  | k + 1, h => by
    have ih := mv_k (bk := bk) (ag := ag) (d := d) (day := day) (j := j) k (h.elim Or.inl (fun y => Or.inr (by omega)))
    by_cases z : (mv_ bk ag d day k).2 = 1 ∧ ag (k : Int)
    · by_cases g : ffd_ (bk (mv_ bk ag d day k).1 (k : Int)) (999 - d).toNat (d + 1) = -1
      · rw [mv_x z g]; exact ih
      · rw [mv_y z g]
        show u1_ _ (k : Int) _ j = _
        by_cases w : j = (k : Int)
        · rcases h with h | h | h
          · exact absurd (w ▸ z.2) h
          · omega
          · omega
        · rw [u1_n w]; exact ih
    · rw [mv_n z]; exact ih
/-- both sides move alike -/
theorem mv_e {bk bk' : (Int → Int) → Int → Int → Prop} {ag ag' : Int → Prop} {d : Int} {day day' : Int → Int} {n : Int} (he : ∀ j, 0 ≤ j → j < n → day' j = day j) (ha : ∀ k, 0 ≤ k → k < n → (ag' k ↔ ag k)) (hb : ∀ (f f' : Int → Int) (k x : Int), (∀ j, 0 ≤ j → j < n → f' j = f j) → 0 ≤ k → k < n → (bk' f' k x ↔ bk f k x)) : ∀ k : Nat, (k : Int) ≤ n → (mv_ bk' ag' d day' k).2 = (mv_ bk ag d day k).2 ∧ ∀ j, 0 ≤ j → j < n → (mv_ bk' ag' d day' k).1 j = (mv_ bk ag d day k).1 j
  | 0, _ => ⟨rfl, he⟩
  | k + 1, hk => by
    have ih := mv_e (d := d) he ha hb k (by omega)
    have ff : ffd_ (bk' (mv_ bk' ag' d day' k).1 (k : Int)) (999 - d).toNat (d + 1) = ffd_ (bk (mv_ bk ag d day k).1 (k : Int)) (999 - d).toNat (d + 1) := ffd_e _ _ (fun x _ _ => hb _ _ (k : Int) x ih.2 (by omega) (by omega))
    by_cases z : (mv_ bk ag d day k).2 = 1 ∧ ag (k : Int)
    · have z' : (mv_ bk' ag' d day' k).2 = 1 ∧ ag' (k : Int) := ⟨ih.1.trans z.1, (ha _ (by omega) (by omega)).mpr z.2⟩
      by_cases g : ffd_ (bk (mv_ bk ag d day k).1 (k : Int)) (999 - d).toNat (d + 1) = -1
      · rw [mv_x z g, mv_x z' (ff.trans g)]
        exact ⟨rfl, ih.2⟩
      · rw [mv_y z g, mv_y z' (fun y => g (ff.symm.trans y)), ff]
        refine ⟨rfl, fun j a b => ?_⟩
        show u1_ _ (k : Int) _ j = u1_ _ (k : Int) _ j
        by_cases w : j = (k : Int)
        · rw [w, u1_s, u1_s]
        · rw [u1_n w, u1_n w]; exact ih.2 j a b
    · have z' : ¬ ((mv_ bk' ag' d day' k).2 = 1 ∧ ag' (k : Int)) := fun c => z ⟨ih.1.symm.trans c.1, (ha _ (by omega) (by omega)).mp c.2⟩
      rw [mv_n z, mv_n z']
      exact ih
/-- two lists of the same in the same order are the same -/
theorem lhd_u {day : Int → Int} {rel rel' : Int → Prop} {L L' : Int → Int} {f k kp x x' : Int} (h : LHD_ day rel L f k kp x) (h' : LHD_ day rel' L' f k kp x') (e : ∀ m, f ≤ m → m < f + k → (rel m ↔ rel' m)) : ∀ n : Nat, (n : Int) < x → (n : Int) < x' ∧ L (n : Int) = L' (n : Int) := by
  intro n
  induction n using Nat.strongRecOn with
  | _ n ih =>
    intro hn
    have y := h.1 (n : Int) (by omega) hn
    obtain ⟨j, j0, j1, j2⟩ := h'.2.2 (L (n : Int)) y.1 y.2.1 ((e _ y.1 y.2.1).mp y.2.2.1) y.2.2.2
    have hj : (n : Int) ≤ j := by
      rcases Int.lt_or_le j (n : Int) with c | c
      · have q := ih j.toNat (by omega) (by omega)
        rw [show ((j.toNat : Nat) : Int) = j by omega] at q
        have w := h.2.1 j (n : Int) j0 c hn
        rw [q.2, j2] at w
        omega
      · exact c
    have hx : (n : Int) < x' := by omega
    refine ⟨hx, ?_⟩
    have y' := h'.1 (n : Int) (by omega) hx
    obtain ⟨i, i0, i1, i2⟩ := h.2.2 (L' (n : Int)) y'.1 y'.2.1 ((e _ y'.1 y'.2.1).mpr y'.2.2.1) y'.2.2.2
    have hi : (n : Int) ≤ i := by
      rcases Int.lt_or_le i (n : Int) with c | c
      · have q := ih i.toNat (by omega) (by omega)
        rw [show ((i.toNat : Nat) : Int) = i by omega] at q
        have w := h'.2.1 i (n : Int) i0 c hx
        rw [← q.2, i2] at w
        omega
      · exact c
    have a1 : day (L' (n : Int)) * 400 + L' (n : Int) ≤ day (L (n : Int)) * 400 + L (n : Int) := by
      by_cases c : (n : Int) = j
      · rw [show L' (n : Int) = L (n : Int) from (congrArg L' c).trans j2]; exact Int.le_refl _
      · have w := h'.2.1 (n : Int) j (by omega) (by omega) j1
        rw [j2] at w; omega
    have a2 : day (L (n : Int)) * 400 + L (n : Int) ≤ day (L' (n : Int)) * 400 + L' (n : Int) := by
      by_cases c : (n : Int) = i
      · rw [show L (n : Int) = L' (n : Int) from (congrArg L c).trans i2]; exact Int.le_refl _
      · have w := h.2.1 (n : Int) i (by omega) (by omega) i1
        rw [i2] at w; omega
    by_cases c : (n : Int) = j
    · exact ((congrArg L' c).trans j2).symm
    · have w := h'.2.1 (n : Int) j (by omega) (by omega) j1
      rw [j2] at w
      omega
theorem lhd_q {day : Int → Int} {rel rel' : Int → Prop} {L L' : Int → Int} {f k kp x x' : Int} (h : LHD_ day rel L f k kp x) (h' : LHD_ day rel' L' f k kp x') (e : ∀ m, f ≤ m → m < f + k → (rel m ↔ rel' m)) (x0 : 0 ≤ x) (x1 : 0 ≤ x') : x = x' ∧ ∀ j, 0 ≤ j → j < x → L j = L' j := by
  have a : ∀ j, 0 ≤ j → j < x → j < x' ∧ L j = L' j := fun j j0 j1 => by
    have q := lhd_u h h' e j.toNat (by omega)
    rw [show ((j.toNat : Nat) : Int) = j by omega] at q
    exact q
  have b : ∀ j, 0 ≤ j → j < x' → j < x := fun j j0 j1 => by
    have q := lhd_u h' h (fun m m0 m1 => (e m m0 m1).symm) j.toNat (by omega)
    rw [show ((j.toNat : Nat) : Int) = j by omega] at q
    exact q.1
  refine ⟨?_, fun j j0 j1 => (a j j0 j1).2⟩
  rcases Int.lt_trichotomy x x' with c | c | c
  · have := b x x0 c; omega
  · exact c
  · have := (a x' x1 c).1; omega
/-- those of one stadium are on different days afterwards -/
theorem mv_dd {sq hq R : Int → Int → Prop} {rs : Int → Int} {ab : Int → Prop} {n p d : Int} {ag : Int → Prop} {day : Int → Int} (hR : ∀ a b, R a b → sq a b) (sy : ∀ a b, R a b → R b a)
    (h0 : ∀ a b, 0 ≤ a → a < n → 0 ≤ b → b < n → a ≠ b → ab a → ab b → R a b → day a = day b → (a = p ∧ ag b) ∨ (b = p ∧ ag a)) : ∀ k : Nat, (k : Int) ≤ n → (mv_ (BK_ sq hq rs ab n) ag d day k).2 = 1 → ∀ a b, 0 ≤ a → a < n → 0 ≤ b → b < n → a ≠ b → ab a → ab b → R a b → (mv_ (BK_ sq hq rs ab n) ag d day k).1 a = (mv_ (BK_ sq hq rs ab n) ag d day k).1 b → (a = p ∧ ag b ∧ (k : Int) ≤ b) ∨ (b = p ∧ ag a ∧ (k : Int) ≤ a)
  | 0, _, _ => fun a b a0 a1 b0 b1 ne ha hb hs he => by
    rcases h0 a b a0 a1 b0 b1 ne ha hb hs he with z | z
    · exact Or.inl ⟨z.1, z.2, by omega⟩
    · exact Or.inr ⟨z.1, z.2, by omega⟩
  | k + 1, hk, h2 => fun a b a0 a1 b0 b1 ne ha hb hs he => by
    by_cases z : (mv_ (BK_ sq hq rs ab n) ag d day k).2 = 1 ∧ ag (k : Int)
    · have ih := mv_dd (hq := hq) (rs := rs) (d := d) hR sy h0 k (by omega) z.1
      by_cases g : ffd_ (BK_ sq hq rs ab n (mv_ (BK_ sq hq rs ab n) ag d day k).1 (k : Int)) (999 - d).toNat (d + 1) = -1
      · rw [mv_x z g] at h2; have h3 : (0 : Int) = 1 := h2; exact absurd h3 (by decide)
      · rw [mv_y z g] at he
        have nb : ¬ BK_ sq hq rs ab n (mv_ (BK_ sq hq rs ab n) ag d day k).1 (k : Int) (ffd_ (BK_ sq hq rs ab n (mv_ (BK_ sq hq rs ab n) ag d day k).1 (k : Int)) (999 - d).toNat (d + 1)) := ffd_p _ _ g
        generalize ffd_ (BK_ sq hq rs ab n (mv_ (BK_ sq hq rs ab n) ag d day k).1 (k : Int)) (999 - d).toNat (d + 1) = D at he nb
        have he2 : u1_ (mv_ (BK_ sq hq rs ab n) ag d day k).1 (k : Int) D a = u1_ (mv_ (BK_ sq hq rs ab n) ag d day k).1 (k : Int) D b := he
        by_cases wa : a = (k : Int)
        · rw [wa, u1_s, u1_n (fun y => ne (wa.trans y.symm))] at he2
          exact absurd ⟨b, b0, b1, fun y => ne (wa.trans y), wa ▸ ha, hb, Or.inl ⟨he2, hR _ _ (wa ▸ hs)⟩⟩ nb
        · by_cases wb : b = (k : Int)
          · rw [wb, u1_s, u1_n wa] at he2
            exact absurd ⟨a, a0, a1, fun y => wa y.symm, wb ▸ hb, ha, Or.inl ⟨he2.symm, hR _ _ (wb ▸ sy a b hs)⟩⟩ nb
          · rw [u1_n wa, u1_n wb] at he2
            rcases ih a b a0 a1 b0 b1 ne ha hb hs he2 with y | y
            · exact Or.inl ⟨y.1, y.2.1, by omega⟩
            · exact Or.inr ⟨y.1, y.2.1, by omega⟩
    · rw [mv_n z] at h2 he
      have nz : ¬ ag (k : Int) := fun c => z ⟨h2, c⟩
      rcases mv_dd (hq := hq) (rs := rs) (d := d) hR sy h0 k (by omega) h2 a b a0 a1 b0 b1 ne ha hb hs he with y | y
      · refine Or.inl ⟨y.1, y.2.1, ?_⟩
        by_cases w : b = (k : Int)
        · exact absurd (w ▸ y.2.1) nz
        · omega
      · refine Or.inr ⟨y.1, y.2.1, ?_⟩
        by_cases w : a = (k : Int)
        · exact absurd (w ▸ y.2.1) nz
        · omega
-- the house
def sqH_ (T : Zt) (a b : Int) : Prop := T 560 0 (T 102 a 3) = T 560 0 (T 102 b 3)
def hqH_ (T : Zt) (a b : Int) : Prop := T 102 a 3 = T 102 b 3 ∨ T 102 a 4 = T 102 b 3 ∨ T 102 a 3 = T 102 b 4 ∨ T 102 a 4 = T 102 b 4
def rsH_ (T : Zt) (a : Int) : Int := T 401 (T 102 a 0) 8
def abH_ (T : Zt) (a : Int) : Prop := T 102 a 6 = -1
def SAH_ (T : Zt) (day : Int → Int) (a b d : Int) : Prop := SAG_ (sqH_ T) (hqH_ T) (rsH_ T) (abH_ T) day a b d
def BKH_ (T : Zt) (day : Int → Int) (k d : Int) : Prop := BK_ (sqH_ T) (hqH_ T) (rsH_ T) (abH_ T) (T 106 0 4) day k d
/-- what changes no rule of putting off -/
def kpo_ (T T' : Zt) : Prop := (∀ a j, j ≠ 5 → T' 102 a j = T 102 a j) ∧ (∀ c, T' 401 c 8 = T 401 c 8) ∧ (∀ j, T' 560 0 j = T 560 0 j) ∧ T' 106 0 4 = T 106 0 4
theorem sah_k {T T' : Zt} (k : kpo_ T T') : SAH_ T' = SAH_ T := by
  obtain ⟨e, e8, es, en⟩ := k
  funext day a b d
  have h3 : ∀ a, T' 102 a 3 = T 102 a 3 := fun a => e a 3 (by decide)
  have h4 : ∀ a, T' 102 a 4 = T 102 a 4 := fun a => e a 4 (by decide)
  have h6 : ∀ a, T' 102 a 6 = T 102 a 6 := fun a => e a 6 (by decide)
  have h0 : ∀ a, T' 102 a 0 = T 102 a 0 := fun a => e a 0 (by decide)
  have s1 : sqH_ T' = sqH_ T := by funext a b; unfold sqH_; rw [h3, h3, es, es]
  have s2 : hqH_ T' = hqH_ T := by funext a b; unfold hqH_; rw [h3, h3, h4, h4]
  have s3 : rsH_ T' = rsH_ T := by funext a; unfold rsH_; rw [h0, e8]
  have s4 : abH_ T' = abH_ T := by funext a; unfold abH_; rw [h6]
  unfold SAH_
  rw [s1, s2, s3, s4]
theorem bkh_k {T T' : Zt} (k : kpo_ T T') : BKH_ T' = BKH_ T := by
  have s := sah_k k
  funext day a d
  have e : ∀ (X : Zt), BKH_ X day a d = ∃ b, 0 ≤ b ∧ b < X 106 0 4 ∧ SAH_ X day a b d := fun _ => rfl
  rw [e, e, s, k.2.2.2]
theorem kpo_t {T T1 T2 : Zt} (a : kpo_ T T1) (b : kpo_ T1 T2) : kpo_ T T2 := ⟨fun i j h => (b.1 i j h).trans (a.1 i j h), fun c => (b.2.1 c).trans (a.2.1 c), fun j => (b.2.2.1 j).trans (a.2.2.1 j), b.2.2.2.trans a.2.2.2⟩
/-- blocked by the matches below k -/
def BKn_ (T : Zt) (p k d : Int) : Prop := ∃ b, 0 ≤ b ∧ b < k ∧ SAH_ T (fun m => T 102 m 5) p b d
theorem bkn_0 {T : Zt} {p d : Int} : ¬ BKn_ T p 0 d := fun ⟨b, h0, h1, _⟩ => by omega
theorem bkn_s {T : Zt} {p k d : Int} (k0 : 0 ≤ k) : BKn_ T p (k + 1) d ↔ (BKn_ T p k d ∨ SAH_ T (fun m => T 102 m 5) p k d) := by
  constructor
  · rintro ⟨b, h0, h1, h2⟩
    by_cases z : b = k
    · exact Or.inr (z ▸ h2)
    · exact Or.inl ⟨b, h0, by omega, h2⟩
  · rintro (⟨b, h0, h1, h2⟩ | h)
    · exact ⟨b, h0, by omega, h2⟩
    · exact ⟨k, k0, by omega, h⟩
/-- a row of days tells which are blocked -/
def BR_ (B : Int → Int) (Q : Int → Prop) : Prop := ∀ d, 0 ≤ d → d ≤ 999 → (B d = 1 ∧ Q d) ∨ (B d = 0 ∧ ¬ Q d)
theorem br_e {B : Int → Int} {Q R : Int → Prop} (h : BR_ B Q) (e : ∀ d, 0 ≤ d → d ≤ 999 → (Q d ↔ R d)) : BR_ B R := fun d a b => by
  rcases h d a b with z | z
  · exact Or.inl ⟨z.1, (e d a b).mp z.2⟩
  · exact Or.inr ⟨z.1, fun c => z.2 ((e d a b).mpr c)⟩
theorem br_u {B B' : Int → Int} {Q : Int → Prop} {i : Int} (h : BR_ B Q) (e1 : B' i = 1) (e2 : ∀ j, j ≠ i → B' j = B j) : BR_ B' (fun d => Q d ∨ d = i) := fun d a b => by
  by_cases z : d = i
  · exact Or.inl ⟨z ▸ e1, Or.inr z⟩
  · rw [e2 d z]
    rcases h d a b with y | y
    · exact Or.inl ⟨y.1, Or.inl y.2⟩
    · exact Or.inr ⟨y.1, fun c => c.elim y.2 z⟩
/-- a match goes behind -/
def GOB_ (T T' : Zt) (p d k x : Int) : Prop := (x = 0 ∧ ffd_ (BKH_ T (fun m => T 102 m 5) p) (999 - d).toNat (d + 1) = -1 ∧ (∀ i j, T' 102 i j = T 102 i j) ∧ ∀ j, T' 534 0 j = T 534 0 j) ∨ (x = 1 ∧ ffd_ (BKH_ T (fun m => T 102 m 5) p) (999 - d).toNat (d + 1) ≠ -1 ∧ T' 102 p 5 = ffd_ (BKH_ T (fun m => T 102 m 5) p) (999 - d).toNat (d + 1) ∧ T' 534 0 k = T 102 p 5 ∧ (∀ i j, ¬ (i = p ∧ j = 5) → T' 102 i j = T 102 i j) ∧ ∀ j, j ≠ k → T' 534 0 j = T 534 0 j)
def AGH_ (T : Zt) (p d k : Int) : Prop := SAH_ T (fun m => T 102 m 5) p k d
/-- the moves, as the house makes them -/
noncomputable def mvH_ (T : Zt) (p d : Int) (K : Int) : (Int → Int) × Int := mv_ (BKH_ T) (AGH_ T p d) d (u1_ (fun m => T 102 m 5) p d) K.toNat
def TLD_ (T : Zt) (k : Int) : Prop := T 102 k 6 = -1 ∧ T 102 k 10 = 0
/-- one of these is not told -/
def NTL_ (T : Zt) (p d : Int) : Prop := ∃ k, 0 ≤ k ∧ k < T 106 0 4 ∧ AGH_ T p d k ∧ ¬ TLD_ T k
theorem ntl_i {T : Zt} {p d k : Int} (k0 : 0 ≤ k) (k1 : k < T 106 0 4) (k2 : AGH_ T p d k) (k3 : ¬ TLD_ T k) : NTL_ T p d := by
  unfold NTL_
  exact ⟨k, k0, k1, k2, k3⟩
/-- where the g-th of the list stands -/
def KKG_ (L : Int → Int) (g n M K : Int) : Prop := (g < n ∧ K = L g) ∨ (¬ g < n ∧ K = M)
theorem sah_d {T : Zt} {f g : Int → Int} {a b d : Int} (h : f b = g b) : SAH_ T f a b d ↔ SAH_ T g a b d := by
  unfold SAH_
  exact sa_e Iff.rfl Iff.rfl ⟨rfl, rfl⟩ Iff.rfl Iff.rfl h
theorem lhd_z {rel : Int → Prop} {L : Int → Int} {f n kp x i j : Int} (h : LHD_ (fun _ => 0) rel L f n kp x) (a : 0 ≤ i) (b : i < j) (c : j < x) : L i < L j := by
  have q : (0 : Int) * 400 + L i < (0 : Int) * 400 + L j := h.2.1 i j a b c
  omega
/-- between one of the list and the next none is to be moved -/
theorem kk_0 {rel : Int → Prop} {L : Int → Int} {M x K : Int} (h : LHD_ (fun _ => 0) rel L 0 M 400 x) (hk : KKG_ L 0 x M K) (x0 : 0 ≤ x) (m4 : M ≤ 400) : ∀ k, 0 ≤ k → k < K → k < M → ¬ rel k := fun k k0 k1 k2 hr => by
  obtain ⟨j, j0, j1, j2⟩ := h.2.2 k k0 (by omega) hr (by show (0 : Int) * 400 + k < 400; omega)
  rcases hk with ⟨z, e⟩ | ⟨z, e⟩
  · by_cases w : j = 0
    · rw [w] at j2; omega
    · have q := lhd_z h (i := 0) (j := j) (by omega) (by omega) j1
      omega
  · omega
theorem kk_s {rel : Int → Prop} {L : Int → Int} {M x K g : Int} (h : LHD_ (fun _ => 0) rel L 0 M 400 x) (g0 : 0 ≤ g) (g1 : g < x) (hk : KKG_ L (g + 1) x M K) (m4 : M ≤ 400) : ∀ k, L g + 1 ≤ k → k < K → k < M → ¬ rel k := fun k k0 k1 k2 hr => by
  have y := h.1 g g0 g1
  obtain ⟨j, j0, j1, j2⟩ := h.2.2 k (by omega) (by omega) hr (by show (0 : Int) * 400 + k < 400; omega)
  have w : g < j := by
    rcases Int.lt_trichotomy j g with c | c | c
    · have q := lhd_z h j0 c g1; omega
    · rw [c] at j2; omega
    · exact c
  rcases hk with ⟨z, e⟩ | ⟨z, e⟩
  · by_cases u : j = g + 1
    · rw [u] at j2; omega
    · have q := lhd_z h (i := g + 1) (j := j) (by omega) (by omega) j1
      omega
  · omega
theorem kk_b {rel : Int → Prop} {L : Int → Int} {M x K g : Int} (h : LHD_ (fun _ => 0) rel L 0 M 400 x) (g0 : 0 ≤ g) (m0 : 0 ≤ M) (hk : KKG_ L g x M K) : 0 ≤ K ∧ K ≤ M := by
  rcases hk with ⟨z, e⟩ | ⟨z, e⟩
  · have y := h.1 g g0 z
    omega
  · omega
theorem kk_l {rel : Int → Prop} {L : Int → Int} {M x K g : Int} (h : LHD_ (fun _ => 0) rel L 0 M 400 x) (g0 : 0 ≤ g) (g1 : g < x) (hk : KKG_ L (g + 1) x M K) : L g + 1 ≤ K := by
  have y := h.1 g g0 g1
  rcases hk with ⟨z, e⟩ | ⟨z, e⟩
  · have q := lhd_z h (i := g) (j := g + 1) g0 (by omega) z
    omega
  · omega
/-- putting off, as the house ends it -/
def PTO_ (T T' : Zt) (p d x : Int) : Prop := (x = -4 ∧ ¬ ((∀ k, 0 ≤ k → k < T 106 0 4 → AGH_ T p d k → TLD_ T k) ∧ (mvH_ T p d (T 106 0 4)).2 = 1) ∧ (∀ i j, T' 102 i j = T 102 i j) ∧ (∀ j, T' 531 0 j = T 531 0 j) ∧ T' 106 0 12 = T 106 0 12) ∨ (0 ≤ x ∧ (∀ k, 0 ≤ k → k < T 106 0 4 → AGH_ T p d k → TLD_ T k) ∧ (mvH_ T p d (T 106 0 4)).2 = 1 ∧ (∀ i, T' 102 i 5 = (mvH_ T p d (T 106 0 4)).1 i) ∧ (∀ i j, j ≠ 5 → T' 102 i j = T 102 i j) ∧ LHD_ (fun _ => 0) (AGH_ T p d) (fun j => T' 531 0 j) 0 (T 106 0 4) 400 x ∧ T' 106 0 12 = x)
theorem mvH_y {T U : Zt} {p d k : Int} (k0 : 0 ≤ k) (h : (mvH_ T p d k).2 = 1) (ha : AGH_ T p d k) (kp : kpo_ T U) (hd : ∀ i, U 102 i 5 = (mvH_ T p d k).1 i) (g : ffd_ (BKH_ U (fun m => U 102 m 5) k) (999 - d).toNat (d + 1) ≠ -1) : mvH_ T p d (k + 1) = (u1_ (mvH_ T p d k).1 k (ffd_ (BKH_ U (fun m => U 102 m 5) k) (999 - d).toNat (d + 1)), 1) := by
  have e : (fun m => U 102 m 5) = (mvH_ T p d k).1 := funext hd
  rw [bkh_k kp, e] at g ⊢
  have ek : ((k.toNat : Nat) : Int) = k := by omega
  unfold mvH_ at h g ⊢
  rw [show (k + 1).toNat = k.toNat + 1 by omega, mv_y ⟨h, by rw [ek]; exact ha⟩ (by rw [ek]; exact g), ek]
theorem mvH_x {T U : Zt} {p d k : Int} (k0 : 0 ≤ k) (h : (mvH_ T p d k).2 = 1) (ha : AGH_ T p d k) (kp : kpo_ T U) (hd : ∀ i, U 102 i 5 = (mvH_ T p d k).1 i) (g : ffd_ (BKH_ U (fun m => U 102 m 5) k) (999 - d).toNat (d + 1) = -1) {M : Int} (hm : k < M) : (mvH_ T p d M).2 ≠ 1 := by
  have e : (fun m => U 102 m 5) = (mvH_ T p d k).1 := funext hd
  rw [bkh_k kp, e] at g
  have ek : ((k.toNat : Nat) : Int) = k := by omega
  unfold mvH_ at h g ⊢
  have q : (mv_ (BKH_ T) (AGH_ T p d) d (u1_ (fun m => T 102 m 5) p d) (k.toNat + 1)).2 = 0 := by rw [mv_x ⟨h, by rw [ek]; exact ha⟩ (by rw [ek]; exact g)]
  rw [show M.toNat = (k.toNat + 1) + (M.toNat - (k.toNat + 1)) by omega, mv_z (k.toNat + 1) (by rw [q]; decide), q]
  decide
theorem mvH_i {T : Zt} {p d A B : Int} (h0 : 0 ≤ A) (h1 : A ≤ B) (h : ∀ k, A ≤ k → k < B → ¬ AGH_ T p d k) : mvH_ T p d B = mvH_ T p d A := mv_i h0 h1 h
/-- the days go back -/
def RVF_ (T U : Zt) (L : Int → Int) (p g i : Int) : Prop := ∀ x, x ≠ p → (∀ j, i ≤ j → j < g → L j ≠ x) → U 102 x 5 = T 102 x 5
theorem rvf_s {T U V : Zt} {L : Int → Int} {p g i v : Int} (h : RVF_ T U L p g i) (hv : v = T 102 (L i) 5) (hV : V = up_ U 102 (L i) 5 v) : RVF_ T V L p g (i + 1) := fun x a b => by
  by_cases z : x = L i
  · rw [z, up_f hV, hv]
  · rw [up_g hV (fun q => z q.2.1)]
    refine h x a (fun j c e => ?_)
    by_cases y : j = i
    · rw [y]; exact fun w => z w.symm
    · exact b j (by omega) e
-- the reference
def sqR_ (T : Zt) (a b : Int) : Prop := T 213 0 (T 232 0 a) = T 213 0 (T 232 0 b)
def hqR_ (T : Zt) (a b : Int) : Prop := T 232 0 a = T 232 0 b ∨ T 232 0 a = T 233 0 b ∨ T 233 0 a = T 232 0 b ∨ T 233 0 a = T 233 0 b
def rsR_ (T : Zt) (a : Int) : Int := T 205 0 (23 * T 230 0 a + 8)
def abR_ (T : Zt) (a : Int) : Prop := T 235 0 a ≠ 3
def SAR_ (T : Zt) (day : Int → Int) (a b d : Int) : Prop := SAG_ (sqR_ T) (hqR_ T) (rsR_ T) (abR_ T) day a b d
def BKR_ (T : Zt) (day : Int → Int) (k d : Int) : Prop := BK_ (sqR_ T) (hqR_ T) (rsR_ T) (abR_ T) (T 111 0 29) day k d
def kpr_ (T T' : Zt) : Prop := (∀ k j, k = 213 ∨ k = 232 ∨ k = 233 ∨ k = 205 ∨ k = 230 ∨ k = 235 → T' k 0 j = T k 0 j) ∧ T' 111 0 29 = T 111 0 29
theorem sar_k {T T' : Zt} (k : kpr_ T T') : SAR_ T' = SAR_ T := by
  obtain ⟨e, en⟩ := k
  funext day a b d
  have s1 : sqR_ T' = sqR_ T := by funext a b; unfold sqR_; rw [e 232 a (by decide), e 232 b (by decide), e 213 _ (by decide), e 213 _ (by decide)]
  have s2 : hqR_ T' = hqR_ T := by funext a b; unfold hqR_; rw [e 232 a (by decide), e 232 b (by decide), e 233 a (by decide), e 233 b (by decide)]
  have s3 : rsR_ T' = rsR_ T := by funext a; unfold rsR_; rw [e 230 a (by decide), e 205 _ (by decide)]
  have s4 : abR_ T' = abR_ T := by funext a; unfold abR_; rw [e 235 a (by decide)]
  unfold SAR_
  rw [s1, s2, s3, s4]
theorem bkr_k {T T' : Zt} (k : kpr_ T T') : BKR_ T' = BKR_ T := by
  have s := sar_k k
  funext day a d
  have e : ∀ (X : Zt), BKR_ X day a d = ∃ b, 0 ≤ b ∧ b < X 111 0 29 ∧ SAR_ X day a b d := fun _ => rfl
  rw [e, e, s, k.2]
theorem kpr_f {ws : List (Nat × List Int)} {T T1 : Zt} (f : fr_ ws T T1) (w : (∀ j, fw_ ws 213 j = false) ∧ (∀ j, fw_ ws 232 j = false) ∧ (∀ j, fw_ ws 233 j = false) ∧ (∀ j, fw_ ws 205 j = false) ∧ (∀ j, fw_ ws 230 j = false) ∧ (∀ j, fw_ ws 235 j = false) ∧ fw_ ws 111 29 = false) : kpr_ T T1 := by
  refine ⟨fun k j h => ?_, f 111 0 29 w.2.2.2.2.2.2⟩
  rcases h with rfl | rfl | rfl | rfl | rfl | rfl
  · exact f _ _ _ (w.1 j)
  · exact f _ _ _ (w.2.1 j)
  · exact f _ _ _ (w.2.2.1 j)
  · exact f _ _ _ (w.2.2.2.1 j)
  · exact f _ _ _ (w.2.2.2.2.1 j)
  · exact f _ _ _ (w.2.2.2.2.2.1 j)
theorem sar_d {T : Zt} {f g : Int → Int} {a b d : Int} (h : b ≠ a → f b = g b) : SAR_ T f a b d ↔ SAR_ T g a b d := by
  by_cases z : b = a
  · rw [z]; exact ⟨fun y => absurd rfl y.1, fun y => absurd rfl y.1⟩
  · unfold SAR_
    exact sa_e Iff.rfl Iff.rfl ⟨rfl, rfl⟩ Iff.rfl Iff.rfl (h z)
theorem bkr_d {T : Zt} {f g : Int → Int} {a d : Int} (h : ∀ b, b ≠ a → f b = g b) : BKR_ T f a d ↔ BKR_ T g a d := by
  constructor
  · rintro ⟨b, b0, b1, b2⟩
    exact ⟨b, b0, b1, (sar_d (h b)).mp b2⟩
  · rintro ⟨b, b0, b1, b2⟩
    exact ⟨b, b0, b1, (sar_d (h b)).mpr b2⟩
def AGR_ (T : Zt) (p d k : Int) : Prop := SAR_ T (fun m => T 234 0 m) p k d
noncomputable def mvR_ (T : Zt) (p d : Int) (K : Int) : (Int → Int) × Int := mv_ (BKR_ T) (AGR_ T p d) d (u1_ (fun m => T 234 0 m) p d) K.toNat
theorem mvR_i {T : Zt} {p d A B : Int} (h0 : 0 ≤ A) (h1 : A ≤ B) (h : ∀ k, A ≤ k → k < B → ¬ AGR_ T p d k) : mvR_ T p d B = mvR_ T p d A := mv_i h0 h1 h
theorem mvR_y {T : Zt} {p d k : Int} (k0 : 0 ≤ k) (h : (mvR_ T p d k).2 = 1) (ha : AGR_ T p d k) (g : ffd_ (BKR_ T (mvR_ T p d k).1 k) (999 - d).toNat (d + 1) ≠ -1) : mvR_ T p d (k + 1) = (u1_ (mvR_ T p d k).1 k (ffd_ (BKR_ T (mvR_ T p d k).1 k) (999 - d).toNat (d + 1)), 1) := by
  have ek : ((k.toNat : Nat) : Int) = k := by omega
  unfold mvR_ at h g ⊢
  rw [show (k + 1).toNat = k.toNat + 1 by omega, mv_y ⟨h, by rw [ek]; exact ha⟩ (by rw [ek]; exact g), ek]
theorem mvR_x {T : Zt} {p d k : Int} (k0 : 0 ≤ k) (h : (mvR_ T p d k).2 = 1) (ha : AGR_ T p d k) (g : ffd_ (BKR_ T (mvR_ T p d k).1 k) (999 - d).toNat (d + 1) = -1) {M : Int} (hm : k < M) : (mvR_ T p d M).2 ≠ 1 := by
  have ek : ((k.toNat : Nat) : Int) = k := by omega
  unfold mvR_ at h g ⊢
  have q : (mv_ (BKR_ T) (AGR_ T p d) d (u1_ (fun m => T 234 0 m) p d) (k.toNat + 1)).2 = 0 := by rw [mv_x ⟨h, by rw [ek]; exact ha⟩ (by rw [ek]; exact g)]
  rw [show M.toNat = (k.toNat + 1) + (M.toNat - (k.toNat + 1)) by omega, mv_z (k.toNat + 1) (by rw [q]; decide), q]
  decide
def TLR_ (T : Zt) (k : Int) : Prop := T 235 0 k = 0
/-- putting off, as the reference ends it -/
def PTQ_ (T T' : Zt) (p d x : Int) : Prop := (x = -4 ∧ ¬ ((∀ k, 0 ≤ k → k < T 111 0 29 → AGR_ T p d k → TLR_ T k) ∧ (mvR_ T p d (T 111 0 29)).2 = 1) ∧ (∀ j, T' 234 0 j = T 234 0 j) ∧ (∀ j, T' 274 0 j = T 274 0 j) ∧ T' 111 0 75 = T 111 0 75) ∨ (0 ≤ x ∧ (∀ k, 0 ≤ k → k < T 111 0 29 → AGR_ T p d k → TLR_ T k) ∧ (mvR_ T p d (T 111 0 29)).2 = 1 ∧ (∀ i, T' 234 0 i = (mvR_ T p d (T 111 0 29)).1 i) ∧ LHD_ (fun _ => 0) (AGR_ T p d) (fun j => T' 274 0 j) 0 (T 111 0 29) 400 x ∧ T' 111 0 75 = x)
def RVR_ (T U : Zt) (L : Int → Int) (p g i : Int) : Prop := ∀ x, x ≠ p → (∀ j, i ≤ j → j < g → L j ≠ x) → U 234 0 x = T 234 0 x
theorem bk_X2_rest_f_0 : ck_ fX2 (some .int) cX2_rest 0 [.aload 0, .tableswitch 0 2 0 #[], .tableswitch 0 0 1 #[], .iconst 8, .iaload, .ireturn] 11 = true := qck_r (nn_ _) (by decide +kernel)
theorem bs_X2_rest_f_0 {P : Zt → Option Zv → Prop} (K : Int → Zl → List Zv → Zt → Prop) : sx_ K P [.aload 0, .tableswitch 0 2 0 #[], .tableswitch 0 0 1 #[], .iconst 8, .iaload, .ireturn] 11 = x_aload 0 (x_g3 102 100 0 (x_g2 100 401 (x_iconst 8 (x_iaload (x_ireturn P))))) := ((xe_aload 0).trans (congrArg (x_aload 0) ((xe_g3 (kk := 102) rfl tl_2_0).trans (congrArg (x_g3 102 100 0) ((xe_g2 (kk := 100) rfl tl_0_1).trans (congrArg (x_g2 100 401) ((xe_iconst 8).trans (congrArg (x_iconst 8) ((xe_iaload).trans (congrArg (x_iaload) (xe_ireturn)))))))))))
abbrev po_X2_rest_f (T : Zt) (p : Int) : Zt → Option Zv → Prop := fun T' r => T = T' ∧ ∃ x : Int, r = some (vI x) ∧ (0 ≤ x ∧ x ≤ 999 ∧ x = T 401 (T 102 p 0) 8)
set_option maxHeartbeats 4000000 in
theorem ct_X2_rest_f {T : Zt} {p : Int} : Ct_ yX2_rest zX2_rest T [vR 102 p] (po_X2_rest_f T p) := by
  refine ct_of pn_2 rfl rfl (Nat.le_of_ble_eq_true rfl) (fun hT hav => ?_)
  have hz : zX2_rest.2.2.2.1 = some .boolean → ∀ (T' : Zt) (x : Int), po_X2_rest_f T p T' (some (vI x)) → 0 ≤ x ∧ x ≤ 1 := fun h => by cases h
  show J_ zX2_rest T (po_X2_rest_f T p) 0 0 0 [some (vR 102 p)] [] T
  refine j_blx (F := fX2) tb_X2 (nn_ _) bk_X2_rest_f_0 bs_X2_rest_f_0 hz (fun K hK => ?_)
  refine ix_i (by omega) ?_
  intro b2 b2b
  refine (show po_X2_rest_f T p T (some (vI (T 401 (T 102 p 0) 8))) from ?_)
  exact ⟨rfl, _, rfl, by omega⟩
theorem bk_X6_shareClub_f_0 : ck_ fX6 (some .boolean) cX6_shareClub 0 [.aload 0, .aload 1, .tableswitch 0 2 3 #[]] 5 = true := qck_r (nn_ _) (by decide +kernel)
theorem bs_X6_shareClub_f_0 {P : Zt → Option Zv → Prop} (K : Int → Zl → List Zv → Zt → Prop) : sx_ K P [.aload 0, .aload 1, .tableswitch 0 2 3 #[]] 5 = x_aload 0 (x_aload 1 (x_g0 102 3 0 11 (K 5))) := ((xe_aload 0).trans (congrArg (x_aload 0) ((xe_aload 1).trans (congrArg (x_aload 1) ((xe_g0 (kk := 102) rfl tl_2_3).trans (congrArg (x_g0 102 3 0 11) xe_nil))))))
theorem bk_X6_shareClub_f_8 : ck_ fX6 (some .boolean) cX6_shareClub 8 [.ifCond .ne 22, .aload 0, .aload 1, .tableswitch 0 2 4 #[]] 16 = true := qck_r (nn_ _) (by decide +kernel)
theorem bs_X6_shareClub_f_8 {P : Zt → Option Zv → Prop} (K : Int → Zl → List Zv → Zt → Prop) : sx_ K P [.ifCond .ne 22, .aload 0, .aload 1, .tableswitch 0 2 4 #[]] 16 = x_ifCond .ne 22 K (x_aload 0 (x_aload 1 (x_g0 102 4 0 11 (K 16)))) := ((xe_ifCond .ne 22).trans (congrArg (x_ifCond .ne 22 K) ((xe_aload 0).trans (congrArg (x_aload 0) ((xe_aload 1).trans (congrArg (x_aload 1) ((xe_g0 (kk := 102) rfl tl_2_4).trans (congrArg (x_g0 102 4 0 11) xe_nil))))))))
theorem bk_X6_shareClub_f_22 : ck_ fX6 (some .boolean) cX6_shareClub 22 [.iconst 1, .goto 27] 26 = true := qck_r (nn_ _) (by decide +kernel)
theorem bs_X6_shareClub_f_22 {P : Zt → Option Zv → Prop} (K : Int → Zl → List Zv → Zt → Prop) : sx_ K P [.iconst 1, .goto 27] 26 = x_iconst 1 (x_goto 27 K) := ((xe_iconst 1).trans (congrArg (x_iconst 1) (xe_goto 27)))
theorem bk_X6_shareClub_f_27 : ck_ fX6 (some .boolean) cX6_shareClub 27 [.ireturn] 28 = true := qck_r (nn_ _) (by decide +kernel)
theorem bs_X6_shareClub_f_27 {P : Zt → Option Zv → Prop} (K : Int → Zl → List Zv → Zt → Prop) : sx_ K P [.ireturn] 28 = x_ireturn P := (xe_ireturn)
theorem bk_X6_shareClub_f_19 : ck_ fX6 (some .boolean) cX6_shareClub 19 [.ifCond .eq 26, .iconst 1, .goto 27] 26 = true := qck_r (nn_ _) (by decide +kernel)
theorem bs_X6_shareClub_f_19 {P : Zt → Option Zv → Prop} (K : Int → Zl → List Zv → Zt → Prop) : sx_ K P [.ifCond .eq 26, .iconst 1, .goto 27] 26 = x_ifCond .eq 26 K (x_iconst 1 (x_goto 27 K)) := ((xe_ifCond .eq 26).trans (congrArg (x_ifCond .eq 26 K) ((xe_iconst 1).trans (congrArg (x_iconst 1) (xe_goto 27)))))
theorem bk_X6_shareClub_f_26 : ck_ fX6 (some .boolean) cX6_shareClub 26 [.iconst 0, .ireturn] 28 = true := qck_r (nn_ _) (by decide +kernel)
theorem bs_X6_shareClub_f_26 {P : Zt → Option Zv → Prop} (K : Int → Zl → List Zv → Zt → Prop) : sx_ K P [.iconst 0, .ireturn] 28 = x_iconst 0 (x_ireturn P) := ((xe_iconst 0).trans (congrArg (x_iconst 0) (xe_ireturn)))
abbrev po_X6_shareClub_f (T : Zt) (p : Int) (u : Int) : Zt → Option Zv → Prop := fun T' r => T = T' ∧ ∃ x : Int, r = some (vI x) ∧ ((x = 1 ∧ (T 102 p 3 = T 102 u 3 ∨ T 102 p 4 = T 102 u 3 ∨ T 102 p 3 = T 102 u 4 ∨ T 102 p 4 = T 102 u 4)) ∨ (x = 0 ∧ ¬ (T 102 p 3 = T 102 u 3 ∨ T 102 p 4 = T 102 u 3 ∨ T 102 p 3 = T 102 u 4 ∨ T 102 p 4 = T 102 u 4)))
set_option maxHeartbeats 4000000 in
theorem ct_X6_shareClub_f {T : Zt} {p : Int} {u : Int} : Ct_ yX6_shareClub zX6_shareClub T [vR 102 p, vR 102 u] (po_X6_shareClub_f T p u) := by
  refine ct_of pn_6 rfl rfl (Nat.le_of_ble_eq_true rfl) (fun hT hav => ?_)
  have hz : zX6_shareClub.2.2.2.1 = some .boolean → ∀ (T' : Zt) (x : Int), po_X6_shareClub_f T p u T' (some (vI x)) → 0 ≤ x ∧ x ≤ 1 := fun _ T' x h => by obtain ⟨-, y, e, hy⟩ := h; cases e; omega
  show J_ zX6_shareClub T (po_X6_shareClub_f T p u) 0 0 0 [some (vR 102 p), some (vR 102 u)] [] T
  refine j_blx (F := fX6) tb_X6 (nn_ _) bk_X6_shareClub_f_0 bs_X6_shareClub_f_0 hz (fun K hK => ?_)
  intro b1 b1b
  refine hK 5 _ [vI (T 102 u 3), vR 102 p] T ?_
  refine j_callV (y := yX2_has) (Yc := zX2_has) (rest := []) [vI (T 102 u 3)] (ct_X2_has_f (T := T)) cl_X6_88 (qd_c (by decide +kernel)) (nn_ _) rfl (rf_of rfl) (Nat.le_of_ble_eq_true rfl) (Nat.le_of_ble_eq_true rfl) (Nat.le_of_ble_eq_true rfl) rfl ?_
  rintro _ _ ⟨rfl, x2, rfl, hx2⟩
  show J_ zX6_shareClub T (po_X6_shareClub_f T p u) 0 0 8 _ [vI x2] T
  refine j_blx (F := fX6) tb_X6 (nn_ _) bk_X6_shareClub_f_8 bs_X6_shareClub_f_8 hz (fun K hK => ?_)
  refine And.intro (fun c3 => ?_) (fun c3 => ?_)
  · replace hx2 := hx2.resolve_right (fun z => c3 z.1)
    clear c3
    refine hK 22 _ [] T ?_
    refine j_blx (F := fX6) tb_X6 (nn_ _) bk_X6_shareClub_f_22 bs_X6_shareClub_f_22 hz (fun K hK => ?_)
    refine hK 27 _ [vI 1] T ?_
    refine j_blx (F := fX6) tb_X6 (nn_ _) bk_X6_shareClub_f_27 bs_X6_shareClub_f_27 hz (fun K hK => ?_)
    refine (show po_X6_shareClub_f T p u T (some (vI 1)) from ?_)
    exact ⟨rfl, _, rfl, Or.inl ⟨rfl, by omega⟩⟩
  · replace hx2 := hx2.resolve_left (fun z => absurd (c3.symm.trans z.1) (by decide))
    clear c3
    intro b4 b4b
    refine hK 16 _ [vI (T 102 u 4), vR 102 p] T ?_
    refine j_callV (y := yX2_has) (Yc := zX2_has) (rest := []) [vI (T 102 u 4)] (ct_X2_has_f (T := T)) cl_X6_88 (qd_c (by decide +kernel)) (nn_ _) rfl (rf_of rfl) (Nat.le_of_ble_eq_true rfl) (Nat.le_of_ble_eq_true rfl) (Nat.le_of_ble_eq_true rfl) rfl ?_
    rintro _ _ ⟨rfl, x5, rfl, hx5⟩
    show J_ zX6_shareClub T (po_X6_shareClub_f T p u) 0 0 19 _ [vI x5] T
    refine j_blx (F := fX6) tb_X6 (nn_ _) bk_X6_shareClub_f_19 bs_X6_shareClub_f_19 hz (fun K hK => ?_)
    refine And.intro (fun c6 => ?_) (fun c6 => ?_)
    · replace hx5 := hx5.resolve_left (fun z => absurd (c6.symm.trans z.1) (by decide))
      clear c6
      refine hK 26 _ [] T ?_
      refine j_blx (F := fX6) tb_X6 (nn_ _) bk_X6_shareClub_f_26 bs_X6_shareClub_f_26 hz (fun K hK => ?_)
      refine (show po_X6_shareClub_f T p u T (some (vI 0)) from ?_)
      exact ⟨rfl, _, rfl, Or.inr ⟨rfl, by omega⟩⟩
    · replace hx5 := hx5.resolve_right (fun z => c6 z.1)
      clear c6
      refine hK 27 _ [vI 1] T ?_
      refine j_blx (F := fX6) tb_X6 (nn_ _) bk_X6_shareClub_f_27 bs_X6_shareClub_f_27 hz (fun K hK => ?_)
      refine (show po_X6_shareClub_f T p u T (some (vI 1)) from ?_)
      exact ⟨rfl, _, rfl, Or.inl ⟨rfl, by omega⟩⟩
theorem bk_X6_standAgainst_f_0 : ck_ fX6 (some .boolean) cX6_standAgainst 0 [.aload 1, .tableswitch 0 2 6 #[], .iconst (-1), .if_icmp .ne 16, .aload 2, .tableswitch 0 2 6 #[], .iconst (-1), .if_icmp .eq 18, .iconst 0, .ireturn] 18 = true := qck_r (nn_ _) (by decide +kernel)
theorem bs_X6_standAgainst_f_0 {P : Zt → Option Zv → Prop} (K : Int → Zl → List Zv → Zt → Prop) : sx_ K P [.aload 1, .tableswitch 0 2 6 #[], .iconst (-1), .if_icmp .ne 16, .aload 2, .tableswitch 0 2 6 #[], .iconst (-1), .if_icmp .eq 18, .iconst 0, .ireturn] 18 = x_aload 1 (x_g0 102 6 (-1) 1 (x_iconst (-1) (x_if_icmp .ne 16 K (x_aload 2 (x_g0 102 6 (-1) 1 (x_iconst (-1) (x_if_icmp .eq 18 K (x_iconst 0 (x_ireturn P))))))))) := ((xe_aload 1).trans (congrArg (x_aload 1) ((xe_g0 (kk := 102) rfl tl_2_6).trans (congrArg (x_g0 102 6 (-1) 1) ((xe_iconst (-1)).trans (congrArg (x_iconst (-1)) ((xe_if_icmp .ne 16).trans (congrArg (x_if_icmp .ne 16 K) ((xe_aload 2).trans (congrArg (x_aload 2) ((xe_g0 (kk := 102) rfl tl_2_6).trans (congrArg (x_g0 102 6 (-1) 1) ((xe_iconst (-1)).trans (congrArg (x_iconst (-1)) ((xe_if_icmp .eq 18).trans (congrArg (x_if_icmp .eq 18 K) ((xe_iconst 0).trans (congrArg (x_iconst 0) (xe_ireturn)))))))))))))))))))
theorem bk_X6_standAgainst_f_16 : ck_ fX6 (some .boolean) cX6_standAgainst 16 [.iconst 0, .ireturn] 18 = true := qck_r (nn_ _) (by decide +kernel)
theorem bs_X6_standAgainst_f_16 {P : Zt → Option Zv → Prop} (K : Int → Zl → List Zv → Zt → Prop) : sx_ K P [.iconst 0, .ireturn] 18 = x_iconst 0 (x_ireturn P) := ((xe_iconst 0).trans (congrArg (x_iconst 0) (xe_ireturn)))
theorem bk_X6_standAgainst_f_18 : ck_ fX6 (some .boolean) cX6_standAgainst 18 [.aload 1, .tableswitch 0 2 5 #[], .aload 2, .tableswitch 0 2 5 #[], .isub] 27 = true := qck_r (nn_ _) (by decide +kernel)
theorem bs_X6_standAgainst_f_18 {P : Zt → Option Zv → Prop} (K : Int → Zl → List Zv → Zt → Prop) : sx_ K P [.aload 1, .tableswitch 0 2 5 #[], .aload 2, .tableswitch 0 2 5 #[], .isub] 27 = x_aload 1 (x_g0 102 5 0 999 (x_aload 2 (x_g0 102 5 0 999 (x_isub (K 27))))) := ((xe_aload 1).trans (congrArg (x_aload 1) ((xe_g0 (kk := 102) rfl tl_2_5).trans (congrArg (x_g0 102 5 0 999) ((xe_aload 2).trans (congrArg (x_aload 2) ((xe_g0 (kk := 102) rfl tl_2_5).trans (congrArg (x_g0 102 5 0 999) ((xe_isub).trans (congrArg (x_isub) xe_nil))))))))))
theorem bk_X6_standAgainst_f_30 : ck_ fX6 (some .boolean) cX6_standAgainst 30 [.istore 3, .iload 3, .ifCond .ne 64, .aload 0, .tableswitch 0 6 0 #[], .tableswitch 0 8 0 #[], .aload 1, .tableswitch 0 2 3 #[], .iaload, .aload 0, .tableswitch 0 6 0 #[], .tableswitch 0 8 0 #[], .aload 2, .tableswitch 0 2 3 #[], .iaload, .if_icmp .ne 64, .iconst 1, .ireturn] 64 = true := qck_r (nn_ _) (by decide +kernel)
theorem bs_X6_standAgainst_f_30 {P : Zt → Option Zv → Prop} (K : Int → Zl → List Zv → Zt → Prop) : sx_ K P [.istore 3, .iload 3, .ifCond .ne 64, .aload 0, .tableswitch 0 6 0 #[], .tableswitch 0 8 0 #[], .aload 1, .tableswitch 0 2 3 #[], .iaload, .aload 0, .tableswitch 0 6 0 #[], .tableswitch 0 8 0 #[], .aload 2, .tableswitch 0 2 3 #[], .iaload, .if_icmp .ne 64, .iconst 1, .ireturn] 64 = x_istore 3 (x_iload 3 (x_ifCond .ne 64 K (x_aload 0 (x_g1 106 108 (x_g1 108 560 (x_aload 1 (x_g0 102 3 0 11 (x_iaload (x_aload 0 (x_g1 106 108 (x_g1 108 560 (x_aload 2 (x_g0 102 3 0 11 (x_iaload (x_if_icmp .ne 64 K (x_iconst 1 (x_ireturn P))))))))))))))))) := ((xe_istore 3).trans (congrArg (x_istore 3) ((xe_iload 3).trans (congrArg (x_iload 3) ((xe_ifCond .ne 64).trans (congrArg (x_ifCond .ne 64 K) ((xe_aload 0).trans (congrArg (x_aload 0) ((xe_g1 (kk := 106) rfl tl_6_0).trans (congrArg (x_g1 106 108) ((xe_g1 (kk := 108) rfl tl_8_0).trans (congrArg (x_g1 108 560) ((xe_aload 1).trans (congrArg (x_aload 1) ((xe_g0 (kk := 102) rfl tl_2_3).trans (congrArg (x_g0 102 3 0 11) ((xe_iaload).trans (congrArg (x_iaload) ((xe_aload 0).trans (congrArg (x_aload 0) ((xe_g1 (kk := 106) rfl tl_6_0).trans (congrArg (x_g1 106 108) ((xe_g1 (kk := 108) rfl tl_8_0).trans (congrArg (x_g1 108 560) ((xe_aload 2).trans (congrArg (x_aload 2) ((xe_g0 (kk := 102) rfl tl_2_3).trans (congrArg (x_g0 102 3 0 11) ((xe_iaload).trans (congrArg (x_iaload) ((xe_if_icmp .ne 64).trans (congrArg (x_if_icmp .ne 64 K) ((xe_iconst 1).trans (congrArg (x_iconst 1) (xe_ireturn)))))))))))))))))))))))))))))))))))
theorem bk_X6_standAgainst_f_64 : ck_ fX6 (some .boolean) cX6_standAgainst 64 [.iload 3, .aload 1] 66 = true := qck_r (nn_ _) (by decide +kernel)
theorem bs_X6_standAgainst_f_64 {P : Zt → Option Zv → Prop} (K : Int → Zl → List Zv → Zt → Prop) : sx_ K P [.iload 3, .aload 1] 66 = x_iload 3 (x_aload 1 (K 66)) := ((xe_iload 3).trans (congrArg (x_iload 3) ((xe_aload 1).trans (congrArg (x_aload 1) xe_nil))))
theorem bk_X6_standAgainst_f_69 : ck_ fX6 (some .boolean) cX6_standAgainst 69 [.aload 2] 70 = true := qck_r (nn_ _) (by decide +kernel)
theorem bs_X6_standAgainst_f_69 {P : Zt → Option Zv → Prop} (K : Int → Zl → List Zv → Zt → Prop) : sx_ K P [.aload 2] 70 = x_aload 2 (K 70) := ((xe_aload 2).trans (congrArg (x_aload 2) xe_nil))
theorem bk_X6_standAgainst_f_76 : ck_ fX6 (some .boolean) cX6_standAgainst 76 [.if_icmp .ge 91, .aload 1, .aload 2] 81 = true := qck_r (nn_ _) (by decide +kernel)
theorem bs_X6_standAgainst_f_76 {P : Zt → Option Zv → Prop} (K : Int → Zl → List Zv → Zt → Prop) : sx_ K P [.if_icmp .ge 91, .aload 1, .aload 2] 81 = x_if_icmp .ge 91 K (x_aload 1 (x_aload 2 (K 81))) := ((xe_if_icmp .ge 91).trans (congrArg (x_if_icmp .ge 91 K) ((xe_aload 1).trans (congrArg (x_aload 1) ((xe_aload 2).trans (congrArg (x_aload 2) xe_nil))))))
theorem bk_X6_standAgainst_f_91 : ck_ fX6 (some .boolean) cX6_standAgainst 91 [.iconst 0, .ireturn] 93 = true := qck_r (nn_ _) (by decide +kernel)
theorem bs_X6_standAgainst_f_91 {P : Zt → Option Zv → Prop} (K : Int → Zl → List Zv → Zt → Prop) : sx_ K P [.iconst 0, .ireturn] 93 = x_iconst 0 (x_ireturn P) := ((xe_iconst 0).trans (congrArg (x_iconst 0) (xe_ireturn)))
theorem bk_X6_standAgainst_f_84 : ck_ fX6 (some .boolean) cX6_standAgainst 84 [.ifCond .eq 91, .iconst 1, .goto 92] 91 = true := qck_r (nn_ _) (by decide +kernel)
theorem bs_X6_standAgainst_f_84 {P : Zt → Option Zv → Prop} (K : Int → Zl → List Zv → Zt → Prop) : sx_ K P [.ifCond .eq 91, .iconst 1, .goto 92] 91 = x_ifCond .eq 91 K (x_iconst 1 (x_goto 92 K)) := ((xe_ifCond .eq 91).trans (congrArg (x_ifCond .eq 91 K) ((xe_iconst 1).trans (congrArg (x_iconst 1) (xe_goto 92)))))
theorem bk_X6_standAgainst_f_92 : ck_ fX6 (some .boolean) cX6_standAgainst 92 [.ireturn] 93 = true := qck_r (nn_ _) (by decide +kernel)
theorem bs_X6_standAgainst_f_92 {P : Zt → Option Zv → Prop} (K : Int → Zl → List Zv → Zt → Prop) : sx_ K P [.ireturn] 93 = x_ireturn P := (xe_ireturn)
abbrev po_X6_standAgainst_f (T : Zt) (p : Int) (u : Int) : Zt → Option Zv → Prop := fun T' r => T = T' ∧ ∃ x : Int, r = some (vI x) ∧ ((x = 1 ∧ (T 102 p 6 = -1 ∧ T 102 u 6 = -1 ∧ ((T 102 p 5 = T 102 u 5 ∧ T 560 0 (T 102 p 3) = T 560 0 (T 102 u 3)) ∨ (((T 102 p 5 - T 102 u 5 < T 401 (T 102 p 0) 8 ∧ T 102 u 5 - T 102 p 5 < T 401 (T 102 p 0) 8) ∨ (T 102 p 5 - T 102 u 5 < T 401 (T 102 u 0) 8 ∧ T 102 u 5 - T 102 p 5 < T 401 (T 102 u 0) 8)) ∧ (T 102 p 3 = T 102 u 3 ∨ T 102 p 4 = T 102 u 3 ∨ T 102 p 3 = T 102 u 4 ∨ T 102 p 4 = T 102 u 4))))) ∨ (x = 0 ∧ ¬ (T 102 p 6 = -1 ∧ T 102 u 6 = -1 ∧ ((T 102 p 5 = T 102 u 5 ∧ T 560 0 (T 102 p 3) = T 560 0 (T 102 u 3)) ∨ (((T 102 p 5 - T 102 u 5 < T 401 (T 102 p 0) 8 ∧ T 102 u 5 - T 102 p 5 < T 401 (T 102 p 0) 8) ∨ (T 102 p 5 - T 102 u 5 < T 401 (T 102 u 0) 8 ∧ T 102 u 5 - T 102 p 5 < T 401 (T 102 u 0) 8)) ∧ (T 102 p 3 = T 102 u 3 ∨ T 102 p 4 = T 102 u 3 ∨ T 102 p 3 = T 102 u 4 ∨ T 102 p 4 = T 102 u 4))))))
set_option maxHeartbeats 4000000 in
theorem ct_X6_standAgainst_f {T : Zt} {p : Int} {u : Int} : Ct_ yX6_standAgainst zX6_standAgainst T [vR 106 0, vR 102 p, vR 102 u] (po_X6_standAgainst_f T p u) := by
  refine ct_of pn_6 rfl rfl (Nat.le_of_ble_eq_true rfl) (fun hT hav => ?_)
  have hz : zX6_standAgainst.2.2.2.1 = some .boolean → ∀ (T' : Zt) (x : Int), po_X6_standAgainst_f T p u T' (some (vI x)) → 0 ≤ x ∧ x ≤ 1 := fun _ T' x h => by obtain ⟨-, y, e, hy⟩ := h; cases e; omega
  show J_ zX6_standAgainst T (po_X6_standAgainst_f T p u) 0 0 0 [some (vR 106 0), some (vR 102 p), some (vR 102 u), none] [] T
  refine j_blx (F := fX6) tb_X6 (nn_ _) bk_X6_standAgainst_f_0 bs_X6_standAgainst_f_0 hz (fun K hK => ?_)
  intro b1 b1b
  refine And.intro (fun c2 => ?_) (fun c2 => ?_)
  · refine hK 16 _ [] T ?_
    refine j_blx (F := fX6) tb_X6 (nn_ _) bk_X6_standAgainst_f_16 bs_X6_standAgainst_f_16 hz (fun K hK => ?_)
    refine (show po_X6_standAgainst_f T p u T (some (vI 0)) from ?_)
    exact ⟨rfl, _, rfl, Or.inr ⟨rfl, by omega⟩⟩
  · intro b3 b3b
    refine And.intro (fun c4 => ?_) (fun c4 => ?_)
    · refine hK 18 _ [] T ?_
      refine j_blx (F := fX6) tb_X6 (nn_ _) bk_X6_standAgainst_f_18 bs_X6_standAgainst_f_18 hz (fun K hK => ?_)
      intro b5 b5b
      intro b6 b6b
      refine rg_i (by omega) ?_
      refine hK 27 _ [vI ((T 102 p 5) - (T 102 u 5))] T ?_
      obtain ⟨x7, e8, hx7⟩ : ∃ x7 : Int, (if 0 ≤ ((T 102 p 5) - (T 102 u 5)) then ((T 102 p 5) - (T 102 u 5)) else -((T 102 p 5) - (T 102 u 5))) = x7 ∧ (0 ≤ x7 ∧ (x7 = (T 102 p 5) - (T 102 u 5) ∨ x7 = -((T 102 p 5) - (T 102 u 5)))) := ⟨_, rfl, by split <;> omega⟩
      refine j_ab (pc := 27) (by omega) (lwq_4 (dqc_m (dqc_m (dqa_m (dqa_m (dqa_m (List.mem_of_getElem? (i := 5) rfl)))))) rfl : Cond.methodLink RX6 122 Lib.Math.abs.name ∈ lw_g) (lwq_4 (dqc_m (dqc_m (dqa_m (dqa_m (dqa_m (List.mem_of_getElem? (i := 6) rfl)))))) rfl : Cond.static Lib.Math.abs.name ∈ lw_g) (lwq_1 (dqa_m (dqa_m (List.mem_of_getElem? (i := 1) rfl))) rfl : Cond.initialized "java/lang/Math" ∈ lw_g) (lwq_4 (dqc_m (dqc_m (dqa_m (dqa_m (dqa_m (List.mem_of_getElem? (i := 7) rfl)))))) rfl : Cond.code Lib.Math.abs.name Lib.Math.abs.code 1 (some .int) ∈ lw_g) (by decide +kernel) (by decide) (by decide) (by decide) (Nat.le_of_ble_eq_true rfl) ?_
      rw [e8]
      clear e8
      show J_ zX6_standAgainst T (po_X6_standAgainst_f T p u) 0 0 30 _ [vI x7] T
      refine j_blx (F := fX6) tb_X6 (nn_ _) bk_X6_standAgainst_f_30 bs_X6_standAgainst_f_30 hz (fun K hK => ?_)
      refine And.intro (fun c9 => ?_) (fun c9 => ?_)
      · refine hK 64 [some (vR 106 0), some (vR 102 p), some (vR 102 u), some (vI x7)] [] T ?_
        refine j_blx (F := fX6) tb_X6 (nn_ _) bk_X6_standAgainst_f_64 bs_X6_standAgainst_f_64 hz (fun K hK => ?_)
        refine hK 66 _ [vR 102 p, vI x7] T ?_
        refine j_callV (y := yX2_rest) (Yc := zX2_rest) (rest := [vI x7]) [] (ct_X2_rest_f (T := T)) cl_X6_133 (qd_c (by decide +kernel)) (nn_ _) rfl (rf_of rfl) (Nat.le_of_ble_eq_true rfl) (Nat.le_of_ble_eq_true rfl) (Nat.le_of_ble_eq_true rfl) rfl ?_
        rintro _ _ ⟨rfl, x10, rfl, hx10⟩
        show J_ zX6_standAgainst T (po_X6_standAgainst_f T p u) 0 0 69 _ [vI x10, vI x7] T
        refine j_blx (F := fX6) tb_X6 (nn_ _) bk_X6_standAgainst_f_69 bs_X6_standAgainst_f_69 hz (fun K hK => ?_)
        refine hK 70 _ [vR 102 u, vI x10, vI x7] T ?_
        refine j_callV (y := yX2_rest) (Yc := zX2_rest) (rest := [vI x10, vI x7]) [] (ct_X2_rest_f (T := T)) cl_X6_133 (qd_c (by decide +kernel)) (nn_ _) rfl (rf_of rfl) (Nat.le_of_ble_eq_true rfl) (Nat.le_of_ble_eq_true rfl) (Nat.le_of_ble_eq_true rfl) rfl ?_
        rintro _ _ ⟨rfl, x11, rfl, hx11⟩
        show J_ zX6_standAgainst T (po_X6_standAgainst_f T p u) 0 0 73 _ [vI x11, vI x10, vI x7] T
        obtain ⟨x12, e13, hx12⟩ : ∃ x12 : Int, (if x10 < x11 then x11 else x10) = x12 ∧ ((x12 = x10 ∨ x12 = x11) ∧ x10 ≤ x12 ∧ x11 ≤ x12) := ⟨_, rfl, by split <;> omega⟩
        refine j_mx (pc := 73) (lwq_4 (dqc_m (dqc_m (dqc_m (List.mem_of_getElem? (i := 4) rfl)))) rfl : Cond.methodLink RX6 136 Lib.Math.max.name ∈ lw_g) (lwq_4 (dqc_m (dqc_m (dqc_m (List.mem_of_getElem? (i := 5) rfl)))) rfl : Cond.static Lib.Math.max.name ∈ lw_g) (lwq_1 (dqa_m (dqa_m (List.mem_of_getElem? (i := 1) rfl))) rfl : Cond.initialized "java/lang/Math" ∈ lw_g) (lwq_4 (dqc_m (dqc_m (dqc_m (List.mem_of_getElem? (i := 6) rfl)))) rfl : Cond.code Lib.Math.max.name Lib.Math.max.code 2 (some .int) ∈ lw_g) (by decide +kernel) (by decide) (by decide) (by decide) (Nat.le_of_ble_eq_true rfl) ?_
        rw [e13]
        clear e13
        show J_ zX6_standAgainst T (po_X6_standAgainst_f T p u) 0 0 76 _ [vI x12, vI x7] T
        refine j_blx (F := fX6) tb_X6 (nn_ _) bk_X6_standAgainst_f_76 bs_X6_standAgainst_f_76 hz (fun K hK => ?_)
        refine And.intro (fun c14 => ?_) (fun c14 => ?_)
        · refine hK 91 _ [] T ?_
          refine j_blx (F := fX6) tb_X6 (nn_ _) bk_X6_standAgainst_f_91 bs_X6_standAgainst_f_91 hz (fun K hK => ?_)
          refine (show po_X6_standAgainst_f T p u T (some (vI 0)) from ?_)
          exact ⟨rfl, _, rfl, Or.inr ⟨rfl, by omega⟩⟩
        · refine hK 81 _ [vR 102 u, vR 102 p] T ?_
          refine j_callS (y := yX6_shareClub) (Yc := zX6_shareClub) (rest := []) [vR 102 p, vR 102 u] (ct_X6_shareClub_f (T := T)) cl_X6_140 (qd_c (by decide +kernel)) (nn_ _) rfl (rf_of rfl) (Nat.le_of_ble_eq_true rfl) (Nat.le_of_ble_eq_true rfl) (Nat.le_of_ble_eq_true rfl) rfl ?_
          rintro _ _ ⟨rfl, x15, rfl, hx15⟩
          show J_ zX6_standAgainst T (po_X6_standAgainst_f T p u) 0 0 84 _ [vI x15] T
          refine j_blx (F := fX6) tb_X6 (nn_ _) bk_X6_standAgainst_f_84 bs_X6_standAgainst_f_84 hz (fun K hK => ?_)
          refine And.intro (fun c16 => ?_) (fun c16 => ?_)
          · replace hx15 := hx15.resolve_left (fun z => absurd (c16.symm.trans z.1) (by decide))
            clear c16
            refine hK 91 _ [] T ?_
            refine j_blx (F := fX6) tb_X6 (nn_ _) bk_X6_standAgainst_f_91 bs_X6_standAgainst_f_91 hz (fun K hK => ?_)
            refine (show po_X6_standAgainst_f T p u T (some (vI 0)) from ?_)
            exact ⟨rfl, _, rfl, Or.inr ⟨rfl, by omega⟩⟩
          · replace hx15 := hx15.resolve_right (fun z => c16 z.1)
            clear c16
            refine hK 92 _ [vI 1] T ?_
            refine j_blx (F := fX6) tb_X6 (nn_ _) bk_X6_standAgainst_f_92 bs_X6_standAgainst_f_92 hz (fun K hK => ?_)
            refine (show po_X6_standAgainst_f T p u T (some (vI 1)) from ?_)
            exact ⟨rfl, _, rfl, Or.inl ⟨rfl, by omega⟩⟩
      · intro b17 b17b
        refine ix_i (by omega) ?_
        intro b18 b18b
        intro b19 b19b
        refine ix_i (by omega) ?_
        intro b20 b20b
        refine And.intro (fun c21 => ?_) (fun c21 => ?_)
        · refine hK 64 _ [] T ?_
          refine j_blx (F := fX6) tb_X6 (nn_ _) bk_X6_standAgainst_f_64 bs_X6_standAgainst_f_64 hz (fun K hK => ?_)
          refine hK 66 _ [vR 102 p, vI x7] T ?_
          refine j_callV (y := yX2_rest) (Yc := zX2_rest) (rest := [vI x7]) [] (ct_X2_rest_f (T := T)) cl_X6_133 (qd_c (by decide +kernel)) (nn_ _) rfl (rf_of rfl) (Nat.le_of_ble_eq_true rfl) (Nat.le_of_ble_eq_true rfl) (Nat.le_of_ble_eq_true rfl) rfl ?_
          rintro _ _ ⟨rfl, x22, rfl, hx22⟩
          show J_ zX6_standAgainst T (po_X6_standAgainst_f T p u) 0 0 69 _ [vI x22, vI x7] T
          refine j_blx (F := fX6) tb_X6 (nn_ _) bk_X6_standAgainst_f_69 bs_X6_standAgainst_f_69 hz (fun K hK => ?_)
          refine hK 70 _ [vR 102 u, vI x22, vI x7] T ?_
          refine j_callV (y := yX2_rest) (Yc := zX2_rest) (rest := [vI x22, vI x7]) [] (ct_X2_rest_f (T := T)) cl_X6_133 (qd_c (by decide +kernel)) (nn_ _) rfl (rf_of rfl) (Nat.le_of_ble_eq_true rfl) (Nat.le_of_ble_eq_true rfl) (Nat.le_of_ble_eq_true rfl) rfl ?_
          rintro _ _ ⟨rfl, x23, rfl, hx23⟩
          show J_ zX6_standAgainst T (po_X6_standAgainst_f T p u) 0 0 73 _ [vI x23, vI x22, vI x7] T
          obtain ⟨x24, e25, hx24⟩ : ∃ x24 : Int, (if x22 < x23 then x23 else x22) = x24 ∧ ((x24 = x22 ∨ x24 = x23) ∧ x22 ≤ x24 ∧ x23 ≤ x24) := ⟨_, rfl, by split <;> omega⟩
          refine j_mx (pc := 73) (lwq_4 (dqc_m (dqc_m (dqc_m (List.mem_of_getElem? (i := 4) rfl)))) rfl : Cond.methodLink RX6 136 Lib.Math.max.name ∈ lw_g) (lwq_4 (dqc_m (dqc_m (dqc_m (List.mem_of_getElem? (i := 5) rfl)))) rfl : Cond.static Lib.Math.max.name ∈ lw_g) (lwq_1 (dqa_m (dqa_m (List.mem_of_getElem? (i := 1) rfl))) rfl : Cond.initialized "java/lang/Math" ∈ lw_g) (lwq_4 (dqc_m (dqc_m (dqc_m (List.mem_of_getElem? (i := 6) rfl)))) rfl : Cond.code Lib.Math.max.name Lib.Math.max.code 2 (some .int) ∈ lw_g) (by decide +kernel) (by decide) (by decide) (by decide) (Nat.le_of_ble_eq_true rfl) ?_
          rw [e25]
          clear e25
          show J_ zX6_standAgainst T (po_X6_standAgainst_f T p u) 0 0 76 _ [vI x24, vI x7] T
          refine j_blx (F := fX6) tb_X6 (nn_ _) bk_X6_standAgainst_f_76 bs_X6_standAgainst_f_76 hz (fun K hK => ?_)
          refine And.intro (fun c26 => ?_) (fun c26 => ?_)
          · refine hK 91 _ [] T ?_
            refine j_blx (F := fX6) tb_X6 (nn_ _) bk_X6_standAgainst_f_91 bs_X6_standAgainst_f_91 hz (fun K hK => ?_)
            refine (show po_X6_standAgainst_f T p u T (some (vI 0)) from ?_)
            exact ⟨rfl, _, rfl, Or.inr ⟨rfl, by omega⟩⟩
          · refine hK 81 _ [vR 102 u, vR 102 p] T ?_
            refine j_callS (y := yX6_shareClub) (Yc := zX6_shareClub) (rest := []) [vR 102 p, vR 102 u] (ct_X6_shareClub_f (T := T)) cl_X6_140 (qd_c (by decide +kernel)) (nn_ _) rfl (rf_of rfl) (Nat.le_of_ble_eq_true rfl) (Nat.le_of_ble_eq_true rfl) (Nat.le_of_ble_eq_true rfl) rfl ?_
            rintro _ _ ⟨rfl, x27, rfl, hx27⟩
            show J_ zX6_standAgainst T (po_X6_standAgainst_f T p u) 0 0 84 _ [vI x27] T
            refine j_blx (F := fX6) tb_X6 (nn_ _) bk_X6_standAgainst_f_84 bs_X6_standAgainst_f_84 hz (fun K hK => ?_)
            refine And.intro (fun c28 => ?_) (fun c28 => ?_)
            · replace hx27 := hx27.resolve_left (fun z => absurd (c28.symm.trans z.1) (by decide))
              clear c28
              refine hK 91 _ [] T ?_
              refine j_blx (F := fX6) tb_X6 (nn_ _) bk_X6_standAgainst_f_91 bs_X6_standAgainst_f_91 hz (fun K hK => ?_)
              refine (show po_X6_standAgainst_f T p u T (some (vI 0)) from ?_)
              exact ⟨rfl, _, rfl, Or.inr ⟨rfl, by omega⟩⟩
            · replace hx27 := hx27.resolve_right (fun z => c28 z.1)
              clear c28
              refine hK 92 _ [vI 1] T ?_
              refine j_blx (F := fX6) tb_X6 (nn_ _) bk_X6_standAgainst_f_92 bs_X6_standAgainst_f_92 hz (fun K hK => ?_)
              refine (show po_X6_standAgainst_f T p u T (some (vI 1)) from ?_)
              exact ⟨rfl, _, rfl, Or.inl ⟨rfl, by omega⟩⟩
        · refine (show po_X6_standAgainst_f T p u T (some (vI 1)) from ?_)
          exact ⟨rfl, _, rfl, Or.inl ⟨rfl, by omega⟩⟩
    · refine (show po_X6_standAgainst_f T p u T (some (vI 0)) from ?_)
      exact ⟨rfl, _, rfl, Or.inr ⟨rfl, by omega⟩⟩
/-- the list of what stands against p; -1 where one of these is not told -/
def LAG_ (T T' : Zt) (p x : Int) : Prop := (x = -1 ∧ ∃ k, 0 ≤ k ∧ k < T 106 0 4 ∧ SAH_ T (fun m => T 102 m 5) p k (T 102 p 5) ∧ ¬ (T 102 k 6 = -1 ∧ T 102 k 10 = 0)) ∨ (0 ≤ x ∧ (∀ k, 0 ≤ k → k < T 106 0 4 → SAH_ T (fun m => T 102 m 5) p k (T 102 p 5) → T 102 k 6 = -1 ∧ T 102 k 10 = 0) ∧ LHD_ (fun _ => 0) (fun k => SAH_ T (fun m => T 102 m 5) p k (T 102 p 5)) (fun j => T' 533 0 j) 0 (T 106 0 4) 400 x)
theorem bk_X6_listAgainst_f_4 : ck_ fX6 (some .int) cX6_listAgainst 4 [.iload 3, .aload 0, .tableswitch 0 6 4 #[], .if_icmp .ge 64, .aload 0, .tableswitch 0 6 3 #[], .iload 3, .aaload, .astore 4, .iload 3, .aload 1, .tableswitch 0 2 1 #[], .if_icmp .eq 58, .aload 0, .aload 1, .aload 4] 32 = true := qck_r (nn_ _) (by decide +kernel)
theorem bs_X6_listAgainst_f_4 {P : Zt → Option Zv → Prop} (K : Int → Zl → List Zv → Zt → Prop) : sx_ K P [.iload 3, .aload 0, .tableswitch 0 6 4 #[], .if_icmp .ge 64, .aload 0, .tableswitch 0 6 3 #[], .iload 3, .aaload, .astore 4, .iload 3, .aload 1, .tableswitch 0 2 1 #[], .if_icmp .eq 58, .aload 0, .aload 1, .aload 4] 32 = x_iload 3 (x_aload 0 (x_g0 106 4 0 400 (x_if_icmp .ge 64 K (x_aload 0 (x_g1 106 523 (x_iload 3 (x_aaload (x_astore 4 (x_iload 3 (x_aload 1 (x_g0 102 1 0 399 (x_if_icmp .eq 58 K (x_aload 0 (x_aload 1 (x_aload 4 (K 32)))))))))))))))) := ((xe_iload 3).trans (congrArg (x_iload 3) ((xe_aload 0).trans (congrArg (x_aload 0) ((xe_g0 (kk := 106) rfl tl_6_4).trans (congrArg (x_g0 106 4 0 400) ((xe_if_icmp .ge 64).trans (congrArg (x_if_icmp .ge 64 K) ((xe_aload 0).trans (congrArg (x_aload 0) ((xe_g1 (kk := 106) rfl tl_6_3).trans (congrArg (x_g1 106 523) ((xe_iload 3).trans (congrArg (x_iload 3) ((xe_aaload).trans (congrArg (x_aaload) ((xe_astore 4).trans (congrArg (x_astore 4) ((xe_iload 3).trans (congrArg (x_iload 3) ((xe_aload 1).trans (congrArg (x_aload 1) ((xe_g0 (kk := 102) rfl tl_2_1).trans (congrArg (x_g0 102 1 0 399) ((xe_if_icmp .eq 58).trans (congrArg (x_if_icmp .eq 58 K) ((xe_aload 0).trans (congrArg (x_aload 0) ((xe_aload 1).trans (congrArg (x_aload 1) ((xe_aload 4).trans (congrArg (x_aload 4) xe_nil))))))))))))))))))))))))))))))))
theorem bk_X6_listAgainst_f_64 : ck_ fX6 (some .int) cX6_listAgainst 64 [.iload 2, .ireturn] 66 = true := qck_r (nn_ _) (by decide +kernel)
theorem bs_X6_listAgainst_f_64 {P : Zt → Option Zv → Prop} (K : Int → Zl → List Zv → Zt → Prop) : sx_ K P [.iload 2, .ireturn] 66 = x_iload 2 (x_ireturn P) := ((xe_iload 2).trans (congrArg (x_iload 2) (xe_ireturn)))
theorem bk_X6_listAgainst_f_58 : ck_ fX6 (some .int) cX6_listAgainst 58 [.iinc 3 1, .goto 4] 64 = true := qck_r (nn_ _) (by decide +kernel)
theorem bs_X6_listAgainst_f_58 {P : Zt → Option Zv → Prop} (K : Int → Zl → List Zv → Zt → Prop) : sx_ K P [.iinc 3 1, .goto 4] 64 = x_iinc 3 1 (x_goto 4 K) := ((xe_iinc 3 1).trans (congrArg (x_iinc 3 1) (xe_goto 4)))
theorem bk_X6_listAgainst_f_35 : ck_ fX6 (some .int) cX6_listAgainst 35 [.ifCond .eq 58, .aload 4] 40 = true := qck_r (nn_ _) (by decide +kernel)
theorem bs_X6_listAgainst_f_35 {P : Zt → Option Zv → Prop} (K : Int → Zl → List Zv → Zt → Prop) : sx_ K P [.ifCond .eq 58, .aload 4] 40 = x_ifCond .eq 58 K (x_aload 4 (K 40)) := ((xe_ifCond .eq 58).trans (congrArg (x_ifCond .eq 58 K) ((xe_aload 4).trans (congrArg (x_aload 4) xe_nil))))
theorem bk_X6_listAgainst_f_43 : ck_ fX6 (some .int) cX6_listAgainst 43 [.ifCond .eq 48, .iconst (-1), .ireturn] 48 = true := qck_r (nn_ _) (by decide +kernel)
theorem bs_X6_listAgainst_f_43 {P : Zt → Option Zv → Prop} (K : Int → Zl → List Zv → Zt → Prop) : sx_ K P [.ifCond .eq 48, .iconst (-1), .ireturn] 48 = x_ifCond .eq 48 K (x_iconst (-1) (x_ireturn P)) := ((xe_ifCond .eq 48).trans (congrArg (x_ifCond .eq 48 K) ((xe_iconst (-1)).trans (congrArg (x_iconst (-1)) (xe_ireturn)))))
theorem bk_X6_listAgainst_f_48 : ck_ fX6 (some .int) cX6_listAgainst 48 [.aload 0, .tableswitch 0 6 13 #[], .iload 2, .iload 3, .iastore, .iinc 2 1, .iinc 3 1, .goto 4] 64 = true := qck_r (nn_ _) (by decide +kernel)
theorem bs_X6_listAgainst_f_48 {P : Zt → Option Zv → Prop} (K : Int → Zl → List Zv → Zt → Prop) : sx_ K P [.aload 0, .tableswitch 0 6 13 #[], .iload 2, .iload 3, .iastore, .iinc 2 1, .iinc 3 1, .goto 4] 64 = x_aload 0 (x_g1 106 533 (x_iload 2 (x_iload 3 (x_iastore (x_iinc 2 1 (x_iinc 3 1 (x_goto 4 K))))))) := ((xe_aload 0).trans (congrArg (x_aload 0) ((xe_g1 (kk := 106) rfl tl_6_13).trans (congrArg (x_g1 106 533) ((xe_iload 2).trans (congrArg (x_iload 2) ((xe_iload 3).trans (congrArg (x_iload 3) ((xe_iastore).trans (congrArg (x_iastore) ((xe_iinc 2 1).trans (congrArg (x_iinc 2 1) ((xe_iinc 3 1).trans (congrArg (x_iinc 3 1) (xe_goto 4)))))))))))))))
theorem bk_X6_listAgainst_f_0 : ck_ fX6 (some .int) cX6_listAgainst 0 [.iconst 0, .istore 2, .iconst 0, .istore 3] 4 = true := qck_r (nn_ _) (by decide +kernel)
theorem bs_X6_listAgainst_f_0 {P : Zt → Option Zv → Prop} (K : Int → Zl → List Zv → Zt → Prop) : sx_ K P [.iconst 0, .istore 2, .iconst 0, .istore 3] 4 = x_iconst 0 (x_istore 2 (x_iconst 0 (x_istore 3 (K 4)))) := ((xe_iconst 0).trans (congrArg (x_iconst 0) ((xe_istore 2).trans (congrArg (x_istore 2) ((xe_iconst 0).trans (congrArg (x_iconst 0) ((xe_istore 3).trans (congrArg (x_istore 3) xe_nil))))))))
abbrev po_X6_listAgainst_f (T : Zt) (p : Int) : Zt → Option Zv → Prop := fun T' r => ∃ x : Int, r = some (vI x) ∧ fr_ [(533, [])] T T' ∧ ((-1 ≤ x ∧ x ≤ 400) ∧ (∀ j : Int, 0 ≤ j → j < x → 0 ≤ T' 533 0 j ∧ T' 533 0 j < T 106 0 4) ∧ LAG_ T T' p x)
set_option maxHeartbeats 4000000 in
theorem ct_X6_listAgainst_f {T : Zt} {p : Int} (hka : KA_ T) (hkm : KM_ T) (hp : 0 ≤ p ∧ p < T 106 0 4) : Ct_ yX6_listAgainst zX6_listAgainst T [vR 106 0, vR 102 p] (po_X6_listAgainst_f T p) := by
  refine ct_of pn_6 rfl rfl (Nat.le_of_ble_eq_true rfl) (fun hT hav => ?_)
  have hz : zX6_listAgainst.2.2.2.1 = some .boolean → ∀ (T' : Zt) (x : Int), po_X6_listAgainst_f T p T' (some (vI x)) → 0 ≤ x ∧ x ≤ 1 := fun h => by cases h
  have hb_matchCount : 0 ≤ T 106 0 4 ∧ T 106 0 4 ≤ 400 := bd_f hT 106 4 tl_6_4 0
  have hn1 := (hkm p hp.1 hp.2).1
  show J_ zX6_listAgainst T (po_X6_listAgainst_f T p) 0 0 0 [some (vR 106 0), some (vR 102 p), none, none, none] [] T
  have c_4 : ∀ (nn : Nat) (f : Int) (k : Int) (T1 : Zt), ((400 - k).toNat) ≤ nn → (fr_ [(533, [])] T T1) → (0 ≤ f ∧ f ≤ k ∧ 0 ≤ k ∧ k ≤ T 106 0 4) → (∀ j : Int, 0 ≤ j → j < f → 0 ≤ T1 533 0 j ∧ T1 533 0 j < T 106 0 4) → (∀ j, 0 ≤ j → j < k → SAH_ T (fun m => T 102 m 5) p j (T 102 p 5) → T 102 j 6 = -1 ∧ T 102 j 10 = 0) → (LHD_ (fun _ => 0) (fun k => SAH_ T (fun m => T 102 m 5) p k (T 102 p 5)) (fun j => T1 533 0 j) 0 k 400 f) → J_ zX6_listAgainst T (po_X6_listAgainst_f T p) 0 0 4 [some (vR 106 0), some (vR 102 p), some (vI f), some (vI k), none] [] T1 := by
    intro nn
    induction nn using Nat.strongRecOn with
    | _ nn ih_4 =>
      intro f k T1 hm_4 hf_4 i1 li1 tl1 lh1
      replace hm_4 := fun (_ : Unit) => hm_4
      refine j_blx (F := fX6) tb_X6 (nn_ _) bk_X6_listAgainst_f_4 bs_X6_listAgainst_f_4 hz (fun K hK => ?_)
      intro b1 b1b
      have e2 : T1 106 0 4 = T 106 0 4 := hf_4 106 0 4 rfl
      rw [e2] at b1 b1b ⊢
      refine And.intro (fun c3 => ?_) (fun c3 => ?_)
      · refine hK 64 _ [] T1 ?_
        refine j_blx (F := fX6) tb_X6 (nn_ _) bk_X6_listAgainst_f_64 bs_X6_listAgainst_f_64 hz (fun K hK => ?_)
        refine (show po_X6_listAgainst_f T p T1 (some (vI f)) from ?_)
        rw [show k = T 106 0 4 from Int.le_antisymm (by omega) (by omega)] at lh1
        exact ⟨_, rfl, fr_t (fr_0 _ _) (fr_s hf_4 rfl), by omega, li1, Or.inr ⟨by omega, fun k9 a b c => tl1 k9 a (by omega) c, lh1⟩⟩
      · refine ix_i (by omega) ?_
        have e5 : T1 523 0 k = T 523 0 k := hf_4 523 0 k rfl
        refine And.intro (fun c4 => ?_) (fun c4 => ?_)
        · exact absurd (show T 523 0 (k) = 0 from Int.le_antisymm (by omega) (by omega)) (hka.2 _ (by omega) (by omega))
        · intro b6 b6b
          have e7 : T1 102 p 1 = T 102 p 1 := hf_4 102 p 1 rfl
          rw [e7] at b6 b6b ⊢
          refine And.intro (fun c8 => ?_) (fun c8 => ?_)
          · refine hK 58 [some (vR 106 0), some (vR 102 p), some (vI f), some (vI k), some (vR 102 k)] [] T1 ?_
            refine j_blx (F := fX6) tb_X6 (nn_ _) bk_X6_listAgainst_f_58 bs_X6_listAgainst_f_58 hz (fun K hK => ?_)
            refine rg_i (by omega) ?_
            refine hK 4 [some (vR 106 0), some (vR 102 p), some (vI f), some (vI (k + 1)), some (vR 102 k)] [] T1 ?_
            refine j_drq [some (vR 106 0), some (vR 102 p), some (vI f), some (vI (k + 1)), none] (drq_s (drq_s (drq_s (drq_s (drq_n drq_0))))) ?_
            refine ih_4 _ ?_ f (k + 1) T1 (Nat.le_refl _) ?_ ?_ ?_ ?_ ?_
            · have hm_4 := hm_4 (); omega
            · exact fr_t (fr_0 _ _) (fr_s hf_4 rfl)
            · omega
            · exact li1
            · intro j a b c
              by_cases z : j = k
              · rw [z] at c
                refine absurd c (fun z1 => ?_)
                unfold SAH_ SAG_ at z1
                exact z1.1 (by omega)
              · exact tl1 j a (by omega) c
            · have y9 := lhd_n lh1 (fun z => by
                have z1 : SAH_ T (fun m => T 102 m 5) p (0 + k) (T 102 p 5) := z.1
                rw [Int.zero_add] at z1
                unfold SAH_ SAG_ at z1
                exact z1.1 (by omega))
              exact y9
          · refine hK 32 [some (vR 106 0), some (vR 102 p), some (vI f), some (vI k), some (vR 102 k)] [vR 102 k, vR 102 p, vR 106 0] T1 ?_
            refine j_callV (y := yX6_standAgainst) (Yc := zX6_standAgainst) (rest := []) [vR 102 p, vR 102 k] (ct_X6_standAgainst_f (T := T1)) cl_X6_112 (qd_c (by decide +kernel)) (nn_ _) rfl (rf_of rfl) (Nat.le_of_ble_eq_true rfl) (Nat.le_of_ble_eq_true rfl) (Nat.le_of_ble_eq_true rfl) rfl ?_
            rintro _ _ ⟨rfl, x9, rfl, hx9⟩
            have e10 : T1 102 p 0 = T 102 p 0 := hf_4 102 p 0 rfl
            have e11 : T1 102 p 3 = T 102 p 3 := hf_4 102 p 3 rfl
            have e12 : T1 102 p 4 = T 102 p 4 := hf_4 102 p 4 rfl
            have e13 : T1 102 p 5 = T 102 p 5 := hf_4 102 p 5 rfl
            have e14 : T1 102 p 6 = T 102 p 6 := hf_4 102 p 6 rfl
            have e15 : T1 102 k 0 = T 102 k 0 := hf_4 102 k 0 rfl
            have e16 : T1 102 k 3 = T 102 k 3 := hf_4 102 k 3 rfl
            have e17 : T1 102 k 4 = T 102 k 4 := hf_4 102 k 4 rfl
            have e18 : T1 102 k 5 = T 102 k 5 := hf_4 102 k 5 rfl
            have e19 : T1 102 k 6 = T 102 k 6 := hf_4 102 k 6 rfl
            have e20 : T1 102 p 0 = T 102 p 0 := hf_4 102 p 0 rfl
            have e21 : T1 401 (T 102 p 0) 8 = T 401 (T 102 p 0) 8 := hf_4 401 (T 102 p 0) 8 rfl
            have r21 : T1 401 (T1 102 p 0) 8 = T 401 (T 102 p 0) 8 := by rw [e20]; exact e21
            have e22 : T1 102 p 3 = T 102 p 3 := hf_4 102 p 3 rfl
            have e23 : T1 560 0 (T 102 p 3) = T 560 0 (T 102 p 3) := hf_4 560 0 (T 102 p 3) rfl
            have r23 : T1 560 0 (T1 102 p 3) = T 560 0 (T 102 p 3) := by rw [e22]; exact e23
            have e24 : T1 102 k 0 = T 102 k 0 := hf_4 102 k 0 rfl
            have e25 : T1 401 (T 102 k 0) 8 = T 401 (T 102 k 0) 8 := hf_4 401 (T 102 k 0) 8 rfl
            have r25 : T1 401 (T1 102 k 0) 8 = T 401 (T 102 k 0) 8 := by rw [e24]; exact e25
            have e26 : T1 102 k 3 = T 102 k 3 := hf_4 102 k 3 rfl
            have e27 : T1 560 0 (T 102 k 3) = T 560 0 (T 102 k 3) := hf_4 560 0 (T 102 k 3) rfl
            have r27 : T1 560 0 (T1 102 k 3) = T 560 0 (T 102 k 3) := by rw [e26]; exact e27
            have sx9 : (x9 = 1 ∧ SAH_ T (fun m => T 102 m 5) p k (T 102 p 5)) ∨ (x9 = 0 ∧ ¬ SAH_ T (fun m => T 102 m 5) p k (T 102 p 5)) := by
              unfold SAH_ SAG_ sqH_ hqH_ rsH_ abH_
              dsimp only
              omega
            clear hx9
            show J_ zX6_listAgainst T (po_X6_listAgainst_f T p) 0 0 35 _ [vI x9] T1
            refine j_blx (F := fX6) tb_X6 (nn_ _) bk_X6_listAgainst_f_35 bs_X6_listAgainst_f_35 hz (fun K hK => ?_)
            refine And.intro (fun c28 => ?_) (fun c28 => ?_)
            · refine hK 58 _ [] T1 ?_
              refine j_blx (F := fX6) tb_X6 (nn_ _) bk_X6_listAgainst_f_58 bs_X6_listAgainst_f_58 hz (fun K hK => ?_)
              refine rg_i (by omega) ?_
              refine hK 4 [some (vR 106 0), some (vR 102 p), some (vI f), some (vI (k + 1)), some (vR 102 k)] [] T1 ?_
              refine j_drq [some (vR 106 0), some (vR 102 p), some (vI f), some (vI (k + 1)), none] (drq_s (drq_s (drq_s (drq_s (drq_n drq_0))))) ?_
              refine ih_4 _ ?_ f (k + 1) T1 (Nat.le_refl _) ?_ ?_ ?_ ?_ ?_
              · have hm_4 := hm_4 (); omega
              · exact fr_t (fr_0 _ _) (fr_s hf_4 rfl)
              · omega
              · exact li1
              · intro j a b c
                by_cases z : j = k
                · rw [z] at c
                  refine absurd c (fun z1 => ?_)
                  rcases sx9 with y | y
                  · omega
                  · exact y.2 z1
                · exact tl1 j a (by omega) c
              · have y9 := lhd_n lh1 (fun z => by
                  have z1 : SAH_ T (fun m => T 102 m 5) p (0 + k) (T 102 p 5) := z.1
                  rw [Int.zero_add] at z1
                  rcases sx9 with y | y
                  · omega
                  · exact y.2 z1)
                exact y9
            · refine hK 40 [some (vR 106 0), some (vR 102 p), some (vI f), some (vI k), some (vR 102 k)] [vR 102 k] T1 ?_
              refine j_callV (y := yX2_phaseOfLife) (Yc := zX2_phaseOfLife) (rest := []) [] (ct_X2_phaseOfLife_e (T := T1)) cl_X6_116 (qd_c (by decide +kernel)) (nn_ _) rfl (rf_of rfl) (Nat.le_of_ble_eq_true rfl) (Nat.le_of_ble_eq_true rfl) (Nat.le_of_ble_eq_true rfl) rfl ?_
              rintro _ _ ⟨rfl, x29, rfl, hx29⟩
              have e30 : T1 102 k 6 = T 102 k 6 := hf_4 102 k 6 rfl
              have e31 : T1 102 k 10 = T 102 k 10 := hf_4 102 k 10 rfl
              have e32 : T1 103 k 3 = T 103 k 3 := hf_4 103 k 3 rfl
              show J_ zX6_listAgainst T (po_X6_listAgainst_f T p) 0 0 43 _ [vI x29] T1
              refine j_blx (F := fX6) tb_X6 (nn_ _) bk_X6_listAgainst_f_43 bs_X6_listAgainst_f_43 hz (fun K hK => ?_)
              refine And.intro (fun c33 => ?_) (fun c33 => ?_)
              · refine hK 48 _ [] T1 ?_
                have sag9 := (sx9.resolve_right (fun z => by omega)).2
                refine j_blx (F := fX6) tb_X6 (nn_ _) bk_X6_listAgainst_f_48 bs_X6_listAgainst_f_48 hz (fun K hK => ?_)
                refine iy_i (by omega) (by omega) ?_
                refine x_nm (fun U34 hU34 => ?_)
                have e35 := up_f hU34
                refine rg_i (by omega) ?_
                refine rg_i (by omega) ?_
                refine hK 4 [some (vR 106 0), some (vR 102 p), some (vI (f + 1)), some (vI (k + 1)), some (vR 102 k)] [] U34 ?_
                refine j_drq [some (vR 106 0), some (vR 102 p), some (vI (f + 1)), some (vI (k + 1)), none] (drq_s (drq_s (drq_s (drq_s (drq_n drq_0))))) ?_
                refine ih_4 _ ?_ (f + 1) (k + 1) U34 (Nat.le_refl _) ?_ ?_ ?_ ?_ ?_
                · have hm_4 := hm_4 (); omega
                · exact fr_u (fr_t (fr_0 _ _) (fr_s hf_4 rfl)) hU34 rfl
                · omega
                · intro j a b
                  by_cases z : j = f
                  · rw [z, up_f hU34]; omega
                  · rw [up_g hU34 (fun q => z q.2.2)]; exact li1 j a (by omega)
                · intro j a b c
                  by_cases z : j = k
                  · rw [z]; omega
                  · exact tl1 j a (by omega) c
                · exact lhd_i (t := f) (m := k) lh1 (by omega) (by omega) (by omega) (by omega) sag9 (by show (0 : Int) * 400 + k < 400; omega) (by omega) (by omega) (fun j a b => by omega) (by first | exact Or.inl (by omega) | exact Or.inr (Int.le_refl _)) (fun j a b => up_g hU34 (fun z => by omega)) (up_f hU34) (fun j a b => by omega)
              · refine (show po_X6_listAgainst_f T p T1 (some (vI (-1))) from ?_)
                have sag9 := (sx9.resolve_right (fun z => by omega)).2
                exact ⟨_, rfl, fr_t (fr_0 _ _) (fr_s hf_4 rfl), by omega, fun j a b => by omega, Or.inl ⟨rfl, k, by omega, by omega, sag9, by omega⟩⟩
  refine j_blx (F := fX6) tb_X6 (nn_ _) bk_X6_listAgainst_f_0 bs_X6_listAgainst_f_0 hz (fun K hK => ?_)
  refine hK 4 [some (vR 106 0), some (vR 102 p), some (vI 0), some (vI 0), none] [] T ?_
  refine c_4 _ 0 0 T (Nat.le_refl _) ?_ ?_ ?_ ?_ ?_
  · exact fr_0 _ _
  · omega
  · intro j a b; omega
  · intro j a b; omega
  · exact lhd_0
theorem bk_X6_blockDays_f_132 : ck_ fX6 none cX6_blockDays 132 [.iload 6, .iload 5, .if_icmp .gt 153, .aload 0, .tableswitch 0 6 15 #[], .iload 6, .iconst 1, .iastore, .iinc 6 1, .goto 132] 153 = true := qck_r (nn_ _) (by decide +kernel)
theorem bs_X6_blockDays_f_132 {P : Zt → Option Zv → Prop} (K : Int → Zl → List Zv → Zt → Prop) : sx_ K P [.iload 6, .iload 5, .if_icmp .gt 153, .aload 0, .tableswitch 0 6 15 #[], .iload 6, .iconst 1, .iastore, .iinc 6 1, .goto 132] 153 = x_iload 6 (x_iload 5 (x_if_icmp .gt 153 K (x_aload 0 (x_g1 106 535 (x_iload 6 (x_iconst 1 (x_iastore (x_iinc 6 1 (x_goto 132 K))))))))) := ((xe_iload 6).trans (congrArg (x_iload 6) ((xe_iload 5).trans (congrArg (x_iload 5) ((xe_if_icmp .gt 153).trans (congrArg (x_if_icmp .gt 153 K) ((xe_aload 0).trans (congrArg (x_aload 0) ((xe_g1 (kk := 106) rfl tl_6_15).trans (congrArg (x_g1 106 535) ((xe_iload 6).trans (congrArg (x_iload 6) ((xe_iconst 1).trans (congrArg (x_iconst 1) ((xe_iastore).trans (congrArg (x_iastore) ((xe_iinc 6 1).trans (congrArg (x_iinc 6 1) (xe_goto 132)))))))))))))))))))
theorem bk_X6_blockDays_f_153 : ck_ fX6 none cX6_blockDays 153 [.iinc 2 1, .goto 10] 159 = true := qck_r (nn_ _) (by decide +kernel)
theorem bs_X6_blockDays_f_153 {P : Zt → Option Zv → Prop} (K : Int → Zl → List Zv → Zt → Prop) : sx_ K P [.iinc 2 1, .goto 10] 159 = x_iinc 2 1 (x_goto 10 K) := ((xe_iinc 2 1).trans (congrArg (x_iinc 2 1) (xe_goto 10)))
theorem bk_X6_blockDays_f_10 : ck_ fX6 none cX6_blockDays 10 [.iload 2, .aload 0, .tableswitch 0 6 4 #[], .if_icmp .ge 159, .aload 0, .tableswitch 0 6 3 #[], .iload 2, .aaload, .astore 3, .iload 2, .aload 1, .tableswitch 0 2 1 #[], .if_icmp .eq 153, .aload 3, .tableswitch 0 2 6 #[], .iconst (-1), .if_icmp .eq 44, .goto 153] 44 = true := qck_r (nn_ _) (by decide +kernel)
theorem bs_X6_blockDays_f_10 {P : Zt → Option Zv → Prop} (K : Int → Zl → List Zv → Zt → Prop) : sx_ K P [.iload 2, .aload 0, .tableswitch 0 6 4 #[], .if_icmp .ge 159, .aload 0, .tableswitch 0 6 3 #[], .iload 2, .aaload, .astore 3, .iload 2, .aload 1, .tableswitch 0 2 1 #[], .if_icmp .eq 153, .aload 3, .tableswitch 0 2 6 #[], .iconst (-1), .if_icmp .eq 44, .goto 153] 44 = x_iload 2 (x_aload 0 (x_g0 106 4 0 400 (x_if_icmp .ge 159 K (x_aload 0 (x_g1 106 523 (x_iload 2 (x_aaload (x_astore 3 (x_iload 2 (x_aload 1 (x_g0 102 1 0 399 (x_if_icmp .eq 153 K (x_aload 3 (x_g0 102 6 (-1) 1 (x_iconst (-1) (x_if_icmp .eq 44 K (x_goto 153 K))))))))))))))))) := ((xe_iload 2).trans (congrArg (x_iload 2) ((xe_aload 0).trans (congrArg (x_aload 0) ((xe_g0 (kk := 106) rfl tl_6_4).trans (congrArg (x_g0 106 4 0 400) ((xe_if_icmp .ge 159).trans (congrArg (x_if_icmp .ge 159 K) ((xe_aload 0).trans (congrArg (x_aload 0) ((xe_g1 (kk := 106) rfl tl_6_3).trans (congrArg (x_g1 106 523) ((xe_iload 2).trans (congrArg (x_iload 2) ((xe_aaload).trans (congrArg (x_aaload) ((xe_astore 3).trans (congrArg (x_astore 3) ((xe_iload 2).trans (congrArg (x_iload 2) ((xe_aload 1).trans (congrArg (x_aload 1) ((xe_g0 (kk := 102) rfl tl_2_1).trans (congrArg (x_g0 102 1 0 399) ((xe_if_icmp .eq 153).trans (congrArg (x_if_icmp .eq 153 K) ((xe_aload 3).trans (congrArg (x_aload 3) ((xe_g0 (kk := 102) rfl tl_2_6).trans (congrArg (x_g0 102 6 (-1) 1) ((xe_iconst (-1)).trans (congrArg (x_iconst (-1)) ((xe_if_icmp .eq 44).trans (congrArg (x_if_icmp .eq 44 K) (xe_goto 153)))))))))))))))))))))))))))))))))))
theorem bk_X6_blockDays_f_159 : ck_ fX6 none cX6_blockDays 159 [.return_] 160 = true := qck_r (nn_ _) (by decide +kernel)
theorem bs_X6_blockDays_f_159 {P : Zt → Option Zv → Prop} (K : Int → Zl → List Zv → Zt → Prop) : sx_ K P [.return_] 160 = x_return_ P := (xe_return_)
theorem bk_X6_blockDays_f_44 : ck_ fX6 none cX6_blockDays 44 [.aload 0, .tableswitch 0 6 0 #[], .tableswitch 0 8 0 #[], .aload 1, .tableswitch 0 2 3 #[], .iaload, .aload 0, .tableswitch 0 6 0 #[], .tableswitch 0 8 0 #[], .aload 3, .tableswitch 0 2 3 #[], .iaload, .if_icmp .ne 81, .aload 0, .tableswitch 0 6 15 #[], .aload 3, .tableswitch 0 2 5 #[], .iconst 1, .iastore, .aload 1, .aload 3] 83 = true := qck_r (nn_ _) (by decide +kernel)
theorem bs_X6_blockDays_f_44 {P : Zt → Option Zv → Prop} (K : Int → Zl → List Zv → Zt → Prop) : sx_ K P [.aload 0, .tableswitch 0 6 0 #[], .tableswitch 0 8 0 #[], .aload 1, .tableswitch 0 2 3 #[], .iaload, .aload 0, .tableswitch 0 6 0 #[], .tableswitch 0 8 0 #[], .aload 3, .tableswitch 0 2 3 #[], .iaload, .if_icmp .ne 81, .aload 0, .tableswitch 0 6 15 #[], .aload 3, .tableswitch 0 2 5 #[], .iconst 1, .iastore, .aload 1, .aload 3] 83 = x_aload 0 (x_g1 106 108 (x_g1 108 560 (x_aload 1 (x_g0 102 3 0 11 (x_iaload (x_aload 0 (x_g1 106 108 (x_g1 108 560 (x_aload 3 (x_g0 102 3 0 11 (x_iaload (x_if_icmp .ne 81 K (x_aload 0 (x_g1 106 535 (x_aload 3 (x_g0 102 5 0 999 (x_iconst 1 (x_iastore (x_aload 1 (x_aload 3 (K 83))))))))))))))))))))) := ((xe_aload 0).trans (congrArg (x_aload 0) ((xe_g1 (kk := 106) rfl tl_6_0).trans (congrArg (x_g1 106 108) ((xe_g1 (kk := 108) rfl tl_8_0).trans (congrArg (x_g1 108 560) ((xe_aload 1).trans (congrArg (x_aload 1) ((xe_g0 (kk := 102) rfl tl_2_3).trans (congrArg (x_g0 102 3 0 11) ((xe_iaload).trans (congrArg (x_iaload) ((xe_aload 0).trans (congrArg (x_aload 0) ((xe_g1 (kk := 106) rfl tl_6_0).trans (congrArg (x_g1 106 108) ((xe_g1 (kk := 108) rfl tl_8_0).trans (congrArg (x_g1 108 560) ((xe_aload 3).trans (congrArg (x_aload 3) ((xe_g0 (kk := 102) rfl tl_2_3).trans (congrArg (x_g0 102 3 0 11) ((xe_iaload).trans (congrArg (x_iaload) ((xe_if_icmp .ne 81).trans (congrArg (x_if_icmp .ne 81 K) ((xe_aload 0).trans (congrArg (x_aload 0) ((xe_g1 (kk := 106) rfl tl_6_15).trans (congrArg (x_g1 106 535) ((xe_aload 3).trans (congrArg (x_aload 3) ((xe_g0 (kk := 102) rfl tl_2_5).trans (congrArg (x_g0 102 5 0 999) ((xe_iconst 1).trans (congrArg (x_iconst 1) ((xe_iastore).trans (congrArg (x_iastore) ((xe_aload 1).trans (congrArg (x_aload 1) ((xe_aload 3).trans (congrArg (x_aload 3) xe_nil))))))))))))))))))))))))))))))))))))))))))
theorem bk_X6_blockDays_f_81 : ck_ fX6 none cX6_blockDays 81 [.aload 1, .aload 3] 83 = true := qck_r (nn_ _) (by decide +kernel)
theorem bs_X6_blockDays_f_81 {P : Zt → Option Zv → Prop} (K : Int → Zl → List Zv → Zt → Prop) : sx_ K P [.aload 1, .aload 3] 83 = x_aload 1 (x_aload 3 (K 83)) := ((xe_aload 1).trans (congrArg (x_aload 1) ((xe_aload 3).trans (congrArg (x_aload 3) xe_nil))))
theorem bk_X6_blockDays_f_86 : ck_ fX6 none cX6_blockDays 86 [.ifCond .eq 153, .aload 1] 90 = true := qck_r (nn_ _) (by decide +kernel)
theorem bs_X6_blockDays_f_86 {P : Zt → Option Zv → Prop} (K : Int → Zl → List Zv → Zt → Prop) : sx_ K P [.ifCond .eq 153, .aload 1] 90 = x_ifCond .eq 153 K (x_aload 1 (K 90)) := ((xe_ifCond .eq 153).trans (congrArg (x_ifCond .eq 153 K) ((xe_aload 1).trans (congrArg (x_aload 1) xe_nil))))
theorem bk_X6_blockDays_f_93 : ck_ fX6 none cX6_blockDays 93 [.aload 3] 94 = true := qck_r (nn_ _) (by decide +kernel)
theorem bs_X6_blockDays_f_93 {P : Zt → Option Zv → Prop} (K : Int → Zl → List Zv → Zt → Prop) : sx_ K P [.aload 3] 94 = x_aload 3 (K 94) := ((xe_aload 3).trans (congrArg (x_aload 3) xe_nil))
theorem bk_X6_blockDays_f_100 : ck_ fX6 none cX6_blockDays 100 [.iconst 1, .isub, .istore 4, .iconst 999, .aload 3, .tableswitch 0 2 5 #[], .iload 4, .iadd] 114 = true := qck_r (nn_ _) (by decide +kernel)
theorem bs_X6_blockDays_f_100 {P : Zt → Option Zv → Prop} (K : Int → Zl → List Zv → Zt → Prop) : sx_ K P [.iconst 1, .isub, .istore 4, .iconst 999, .aload 3, .tableswitch 0 2 5 #[], .iload 4, .iadd] 114 = x_iconst 1 (x_isub (x_istore 4 (x_iconst 999 (x_aload 3 (x_g0 102 5 0 999 (x_iload 4 (x_iadd (K 114)))))))) := ((xe_iconst 1).trans (congrArg (x_iconst 1) ((xe_isub).trans (congrArg (x_isub) ((xe_istore 4).trans (congrArg (x_istore 4) ((xe_iconst 999).trans (congrArg (x_iconst 999) ((xe_aload 3).trans (congrArg (x_aload 3) ((xe_g0 (kk := 102) rfl tl_2_5).trans (congrArg (x_g0 102 5 0 999) ((xe_iload 4).trans (congrArg (x_iload 4) ((xe_iadd).trans (congrArg (x_iadd) xe_nil))))))))))))))))
theorem bk_X6_blockDays_f_117 : ck_ fX6 none cX6_blockDays 117 [.istore 5, .iconst 0, .aload 3, .tableswitch 0 2 5 #[], .iload 4, .isub] 127 = true := qck_r (nn_ _) (by decide +kernel)
theorem bs_X6_blockDays_f_117 {P : Zt → Option Zv → Prop} (K : Int → Zl → List Zv → Zt → Prop) : sx_ K P [.istore 5, .iconst 0, .aload 3, .tableswitch 0 2 5 #[], .iload 4, .isub] 127 = x_istore 5 (x_iconst 0 (x_aload 3 (x_g0 102 5 0 999 (x_iload 4 (x_isub (K 127)))))) := ((xe_istore 5).trans (congrArg (x_istore 5) ((xe_iconst 0).trans (congrArg (x_iconst 0) ((xe_aload 3).trans (congrArg (x_aload 3) ((xe_g0 (kk := 102) rfl tl_2_5).trans (congrArg (x_g0 102 5 0 999) ((xe_iload 4).trans (congrArg (x_iload 4) ((xe_isub).trans (congrArg (x_isub) xe_nil))))))))))))
theorem bk_X6_blockDays_f_130 : ck_ fX6 none cX6_blockDays 130 [.istore 6] 132 = true := qck_r (nn_ _) (by decide +kernel)
theorem bs_X6_blockDays_f_130 {P : Zt → Option Zv → Prop} (K : Int → Zl → List Zv → Zt → Prop) : sx_ K P [.istore 6] 132 = x_istore 6 (K 132) := ((xe_istore 6).trans (congrArg (x_istore 6) xe_nil))
theorem bk_X6_blockDays_f_0 : ck_ fX6 none cX6_blockDays 0 [.aload 0, .tableswitch 0 6 15 #[], .iconst 0] 5 = true := qck_r (nn_ _) (by decide +kernel)
theorem bs_X6_blockDays_f_0 {P : Zt → Option Zv → Prop} (K : Int → Zl → List Zv → Zt → Prop) : sx_ K P [.aload 0, .tableswitch 0 6 15 #[], .iconst 0] 5 = x_aload 0 (x_g1 106 535 (x_iconst 0 (K 5))) := ((xe_aload 0).trans (congrArg (x_aload 0) ((xe_g1 (kk := 106) rfl tl_6_15).trans (congrArg (x_g1 106 535) ((xe_iconst 0).trans (congrArg (x_iconst 0) xe_nil))))))
theorem bk_X6_blockDays_f_8 : ck_ fX6 none cX6_blockDays 8 [.iconst 0, .istore 2] 10 = true := qck_r (nn_ _) (by decide +kernel)
theorem bs_X6_blockDays_f_8 {P : Zt → Option Zv → Prop} (K : Int → Zl → List Zv → Zt → Prop) : sx_ K P [.iconst 0, .istore 2] 10 = x_iconst 0 (x_istore 2 (K 10)) := ((xe_iconst 0).trans (congrArg (x_iconst 0) ((xe_istore 2).trans (congrArg (x_istore 2) xe_nil))))
abbrev po_X6_blockDays_f (T : Zt) (p : Int) : Zt → Option Zv → Prop := fun T' r => r = none ∧ fr_ [(535, [])] T T' ∧ (BR_ (fun e => T' 535 0 e) (BKH_ T (fun m => T 102 m 5) p))
theorem bkd_9 {sq hq A B C : Prop} {rp rk dk mx to lo d e : Int} (hA : A) (hB : B) (hC : C) (hh : hq) (hm : (mx = rp ∨ mx = rk) ∧ rp ≤ mx ∧ rk ≤ mx) (ht : (to = 999 ∨ to = dk + (mx - 1)) ∧ to ≤ 999 ∧ to ≤ dk + (mx - 1)) (hl : (lo = 0 ∨ lo = dk - (mx - 1)) ∧ 0 ≤ lo ∧ dk - (mx - 1) ≤ lo) (hd2 : d = lo ∨ d ≤ to + 1) (hc : to < d) (e0 : 0 ≤ e) (e9 : e ≤ 999) : ((e = dk ∧ sq) ∨ (lo ≤ e ∧ e < d)) ↔ (A ∧ B ∧ C ∧ ((e = dk ∧ sq) ∨ (((e - dk < rp ∧ dk - e < rp) ∨ (e - dk < rk ∧ dk - e < rk)) ∧ hq))) := by
  constructor
  · rintro (z | z)
    · exact ⟨hA, hB, hC, Or.inl z⟩
    · refine ⟨hA, hB, hC, Or.inr ⟨?_, hh⟩⟩
      have h1 : e ≤ to := by
        rcases hd2 with w | w
        · exact absurd (Int.lt_of_le_of_lt z.1 z.2) (by omega)
        · exact Int.le_of_lt_add_one (Int.lt_of_lt_of_le z.2 w)
      have h2 := z.1
      have h3 := ht.2.2
      have h4 := hl.2.2
      clear ht hl hd2 z
      rcases hm.1 with w | w
      · exact Or.inl ⟨by omega, by omega⟩
      · exact Or.inr ⟨by omega, by omega⟩
  · rintro ⟨-, -, -, z | z⟩
    · exact Or.inl z
    · refine Or.inr ?_
      have h1 : e - dk < mx ∧ dk - e < mx := by
        have h2 := hm.2
        clear ht hl hd2 hm
        rcases z.1 with w | w
        · exact ⟨by omega, by omega⟩
        · exact ⟨by omega, by omega⟩
      constructor
      · rcases hl.1 with w | w
        · rw [w]; exact e0
        · clear ht hl hd2 hm z
          omega
      · rcases ht.1 with w | w
        · exact Int.lt_of_le_of_lt (by rw [w]; exact e9) hc
        · clear ht hl hd2 hm z
          omega
set_option maxHeartbeats 4000000 in
theorem ct_X6_blockDays_f {T : Zt} {p : Int} (hka : KA_ T) (hkm : KM_ T) (hp : 0 ≤ p ∧ p < T 106 0 4) (hab : T 102 p 6 = -1) : Ct_ yX6_blockDays zX6_blockDays T [vR 106 0, vR 102 p] (po_X6_blockDays_f T p) := by
  refine ct_of pn_6 rfl rfl (Nat.le_of_ble_eq_true rfl) (fun hT hav => ?_)
  have hz : zX6_blockDays.2.2.2.1 = some .boolean → ∀ (T' : Zt) (x : Int), po_X6_blockDays_f T p T' (some (vI x)) → 0 ≤ x ∧ x ≤ 1 := fun h => by cases h
  have hb_matchCount : 0 ≤ T 106 0 4 ∧ T 106 0 4 ≤ 400 := bd_f hT 106 4 tl_6_4 0
  have hn1 := (hkm p hp.1 hp.2).1
  show J_ zX6_blockDays T (po_X6_blockDays_f T p) 0 0 0 [some (vR 106 0), some (vR 102 p), none, none, none, none, none] [] T
  have c_10 : ∀ (nn : Nat) (k : Int) (T1 : Zt), ((400 - k).toNat) ≤ nn → (fr_ [(535, [])] T T1) → (0 ≤ k ∧ k ≤ T 106 0 4) → (BR_ (fun e => T1 535 0 e) (BKn_ T p k)) → J_ zX6_blockDays T (po_X6_blockDays_f T p) 0 0 10 [some (vR 106 0), some (vR 102 p), some (vI k), none, none, none, none] [] T1 := by
    intro nn
    induction nn using Nat.strongRecOn with
    | _ nn ih_10 =>
      intro k T1 hm_10 hf_10 i1 br1
      replace hm_10 := fun (_ : Unit) => hm_10
      have c_132 : ∀ (nn : Nat) (to : Int) (d : Int) (lo : Int) (mx : Int) (T2 : Zt), ((1000 - d).toNat) ≤ nn → (fr_ [(535, [])] T T2) → (k < T 106 0 4 ∧ 0 ≤ k ∧ k ≠ p ∧ T 102 k 6 = -1 ∧ (T 102 p 3 = T 102 k 3 ∨ T 102 p 4 = T 102 k 3 ∨ T 102 p 3 = T 102 k 4 ∨ T 102 p 4 = T 102 k 4) ∧ ((mx = T 401 (T 102 p 0) 8 ∨ mx = T 401 (T 102 k 0) 8) ∧ T 401 (T 102 p 0) 8 ≤ mx ∧ T 401 (T 102 k 0) 8 ≤ mx) ∧ ((to = 999 ∨ to = T 102 k 5 + (mx - 1)) ∧ to ≤ 999 ∧ to ≤ T 102 k 5 + (mx - 1)) ∧ ((lo = 0 ∨ lo = T 102 k 5 - (mx - 1)) ∧ 0 ≤ lo ∧ T 102 k 5 - (mx - 1) ≤ lo) ∧ lo ≤ d ∧ (d = lo ∨ d ≤ to + 1)) → (BR_ (fun e => T2 535 0 e) (fun e => BKn_ T p k e ∨ ((e = T 102 k 5 ∧ T 560 0 (T 102 p 3) = T 560 0 (T 102 k 3)) ∨ (lo ≤ e ∧ e < d)))) → J_ zX6_blockDays T (po_X6_blockDays_f T p) 0 0 132 [some (vR 106 0), some (vR 102 p), some (vI k), none, none, some (vI to), some (vI d)] [] T2 := by
        intro nn
        induction nn using Nat.strongRecOn with
        | _ nn ih_132 =>
          intro to d lo mx T2 hm_132 hf_132 i2 br2
          replace hm_132 := fun (_ : Unit) => hm_132
          refine j_blx (F := fX6) tb_X6 (nn_ _) bk_X6_blockDays_f_132 bs_X6_blockDays_f_132 hz (fun K hK => ?_)
          refine And.intro (fun c1 => ?_) (fun c1 => ?_)
          · refine hK 153 _ [] T2 ?_
            refine j_blx (F := fX6) tb_X6 (nn_ _) bk_X6_blockDays_f_153 bs_X6_blockDays_f_153 hz (fun K hK => ?_)
            refine rg_i (by omega) ?_
            refine hK 10 [some (vR 106 0), some (vR 102 p), some (vI (k + 1)), none, none, some (vI to), some (vI d)] [] T2 ?_
            refine j_drq [some (vR 106 0), some (vR 102 p), some (vI (k + 1)), none, none, none, none] (drq_s (drq_s (drq_s (drq_n (drq_n (drq_n (drq_n drq_0))))))) ?_
            refine ih_10 _ ?_ (k + 1) T2 (Nat.le_refl _) ?_ ?_ ?_
            · have hm_10 := hm_10 (); omega
            · exact fr_t (fr_0 _ _) (fr_s hf_132 rfl)
            · omega
            · exact br_e br2 (fun e a b => by
                rw [bkn_s (by omega)]
                refine or_congr Iff.rfl ?_
                unfold SAH_ SAG_ sqH_ hqH_ rsH_ abH_
                dsimp only
                obtain ⟨_, _, z3, z4, z5, z6, z7, z8, _, z10⟩ := i2
                exact bkd_9 (Ne.symm z3) hab z4 z5 z6 z7 z8 z10 (by clear z5 z6 z7 z8 z10; omega) a b)
          · refine iy_i (by omega) (by omega) ?_
            refine x_nm (fun U2 hU2 => ?_)
            have e3 := up_f hU2
            refine rg_i (by omega) ?_
            refine hK 132 [some (vR 106 0), some (vR 102 p), some (vI k), none, none, some (vI to), some (vI (d + 1))] [] U2 ?_
            refine ih_132 _ ?_ to (d + 1) lo mx U2 (Nat.le_refl _) ?_ ?_ ?_
            · have hm_132 := hm_132 (); omega
            · exact fr_u (fr_t (fr_0 _ _) (fr_s hf_132 rfl)) hU2 rfl
            · omega
            · exact br_e (br_u br2 (up_f hU2) (fun j hj => up_g hU2 (fun z => hj z.2.2))) (fun e a b => by
                by_cases y : BKn_ T p k e
                · exact ⟨fun _ => Or.inl y, fun _ => Or.inl (Or.inl y)⟩
                · refine ⟨fun z => Or.inr ?_, fun z => ?_⟩
                  · rcases z with (z | z) | z
                    · exact absurd z y
                    · omega
                    · omega
                  · rcases z with z | z
                    · exact absurd z y
                    · by_cases w : e = d
                      · exact Or.inr w
                      · exact Or.inl (Or.inr (by omega)))
      refine j_blx (F := fX6) tb_X6 (nn_ _) bk_X6_blockDays_f_10 bs_X6_blockDays_f_10 hz (fun K hK => ?_)
      intro b4 b4b
      have e5 : T1 106 0 4 = T 106 0 4 := hf_10 106 0 4 rfl
      rw [e5] at b4 b4b ⊢
      refine And.intro (fun c6 => ?_) (fun c6 => ?_)
      · refine hK 159 _ [] T1 ?_
        refine j_blx (F := fX6) tb_X6 (nn_ _) bk_X6_blockDays_f_159 bs_X6_blockDays_f_159 hz (fun K hK => ?_)
        refine (show po_X6_blockDays_f T p T1 (none) from ?_)
        have br9 : BR_ (fun e => T1 535 0 e) (BKn_ T p (T 106 0 4)) := by
          rw [show T 106 0 4 = k from Int.le_antisymm (by omega) (by omega)]
          exact br1
        exact ⟨rfl, fr_t (fr_0 _ _) (fr_s hf_10 rfl), br9⟩
      · refine ix_i (by omega) ?_
        have e8 : T1 523 0 k = T 523 0 k := hf_10 523 0 k rfl
        refine And.intro (fun c7 => ?_) (fun c7 => ?_)
        · exact absurd (show T 523 0 (k) = 0 from Int.le_antisymm (by omega) (by omega)) (hka.2 _ (by omega) (by omega))
        · have hdk : 0 ≤ T 102 k 5 ∧ T 102 k 5 ≤ 999 := bd_f hT 102 5 tl_2_5 k
          have hrk : 0 ≤ T 401 (T 102 k 0) 8 ∧ T 401 (T 102 k 0) 8 ≤ 999 := bd_a hT 401 (by decide +kernel : ta_ 401 = some (1, some 16, 0, 999)) (T 102 k 0) (by decide)
          intro b9 b9b
          have e10 : T1 102 p 1 = T 102 p 1 := hf_10 102 p 1 rfl
          rw [e10] at b9 b9b ⊢
          refine And.intro (fun c11 => ?_) (fun c11 => ?_)
          · refine hK 153 [some (vR 106 0), some (vR 102 p), some (vI k), some (vR 102 k), none, none, none] [] T1 ?_
            refine j_blx (F := fX6) tb_X6 (nn_ _) bk_X6_blockDays_f_153 bs_X6_blockDays_f_153 hz (fun K hK => ?_)
            refine rg_i (by omega) ?_
            refine hK 10 [some (vR 106 0), some (vR 102 p), some (vI (k + 1)), some (vR 102 k), none, none, none] [] T1 ?_
            refine j_drq [some (vR 106 0), some (vR 102 p), some (vI (k + 1)), none, none, none, none] (drq_s (drq_s (drq_s (drq_n (drq_n (drq_n (drq_n drq_0))))))) ?_
            refine ih_10 _ ?_ (k + 1) T1 (Nat.le_refl _) ?_ ?_ ?_
            · have hm_10 := hm_10 (); omega
            · exact fr_t (fr_0 _ _) (fr_s hf_10 rfl)
            · omega
            · exact br_e br1 (fun e a b => by
                rw [bkn_s (by omega)]
                exact ⟨Or.inl, fun z => z.elim id (fun y => absurd y (by
                  unfold SAH_ SAG_ sqH_ hqH_ rsH_ abH_
                  dsimp only
                  omega))⟩)
          · intro b12 b12b
            have e13 : T1 102 k 6 = T 102 k 6 := hf_10 102 k 6 rfl
            rw [e13] at b12 b12b ⊢
            refine And.intro (fun c14 => ?_) (fun c14 => ?_)
            · refine hK 44 [some (vR 106 0), some (vR 102 p), some (vI k), some (vR 102 k), none, none, none] [] T1 ?_
              refine j_blx (F := fX6) tb_X6 (nn_ _) bk_X6_blockDays_f_44 bs_X6_blockDays_f_44 hz (fun K hK => ?_)
              intro b15 b15b
              have e16 : T1 102 p 3 = T 102 p 3 := hf_10 102 p 3 rfl
              rw [e16] at b15 b15b ⊢
              refine ix_i (by omega) ?_
              intro b17 b17b
              have e18 : T1 560 0 (T 102 p 3) = T 560 0 (T 102 p 3) := hf_10 560 0 (T 102 p 3) rfl
              rw [e18] at b17 b17b ⊢
              intro b19 b19b
              have e20 : T1 102 k 3 = T 102 k 3 := hf_10 102 k 3 rfl
              rw [e20] at b19 b19b ⊢
              refine ix_i (by omega) ?_
              intro b21 b21b
              have e22 : T1 560 0 (T 102 k 3) = T 560 0 (T 102 k 3) := hf_10 560 0 (T 102 k 3) rfl
              rw [e22] at b21 b21b ⊢
              refine And.intro (fun c23 => ?_) (fun c23 => ?_)
              · refine hK 81 _ [] T1 ?_
                refine j_blx (F := fX6) tb_X6 (nn_ _) bk_X6_blockDays_f_81 bs_X6_blockDays_f_81 hz (fun K hK => ?_)
                refine hK 83 _ [vR 102 k, vR 102 p] T1 ?_
                refine j_callS (y := yX6_shareClub) (Yc := zX6_shareClub) (rest := []) [vR 102 p, vR 102 k] (ct_X6_shareClub_f (T := T1)) cl_X6_140 (qd_c (by decide +kernel)) (nn_ _) rfl (rf_of rfl) (Nat.le_of_ble_eq_true rfl) (Nat.le_of_ble_eq_true rfl) (Nat.le_of_ble_eq_true rfl) rfl ?_
                rintro _ _ ⟨rfl, x24, rfl, hx24⟩
                have e25 : T1 102 p 3 = T 102 p 3 := hf_10 102 p 3 rfl
                have e26 : T1 102 p 4 = T 102 p 4 := hf_10 102 p 4 rfl
                have e27 : T1 102 k 3 = T 102 k 3 := hf_10 102 k 3 rfl
                have e28 : T1 102 k 4 = T 102 k 4 := hf_10 102 k 4 rfl
                show J_ zX6_blockDays T (po_X6_blockDays_f T p) 0 0 86 _ [vI x24] T1
                refine j_blx (F := fX6) tb_X6 (nn_ _) bk_X6_blockDays_f_86 bs_X6_blockDays_f_86 hz (fun K hK => ?_)
                refine And.intro (fun c29 => ?_) (fun c29 => ?_)
                · replace hx24 := hx24.resolve_left (fun z => absurd (c29.symm.trans z.1) (by decide))
                  clear c29
                  refine hK 153 _ [] T1 ?_
                  refine j_blx (F := fX6) tb_X6 (nn_ _) bk_X6_blockDays_f_153 bs_X6_blockDays_f_153 hz (fun K hK => ?_)
                  refine rg_i (by omega) ?_
                  refine hK 10 [some (vR 106 0), some (vR 102 p), some (vI (k + 1)), some (vR 102 k), none, none, none] [] T1 ?_
                  refine j_drq [some (vR 106 0), some (vR 102 p), some (vI (k + 1)), none, none, none, none] (drq_s (drq_s (drq_s (drq_n (drq_n (drq_n (drq_n drq_0))))))) ?_
                  refine ih_10 _ ?_ (k + 1) T1 (Nat.le_refl _) ?_ ?_ ?_
                  · have hm_10 := hm_10 (); omega
                  · exact fr_t (fr_0 _ _) (fr_s hf_10 rfl)
                  · omega
                  · exact br_e br1 (fun e a b => by
                      rw [bkn_s (by omega)]
                      exact ⟨Or.inl, fun z => z.elim id (fun y => absurd y (by
                        unfold SAH_ SAG_ sqH_ hqH_ rsH_ abH_
                        dsimp only
                        omega))⟩)
                · replace hx24 := hx24.resolve_right (fun z => c29 z.1)
                  clear c29
                  refine hK 90 [some (vR 106 0), some (vR 102 p), some (vI k), some (vR 102 k), none, none, none] [vR 102 p] T1 ?_
                  refine j_callV (y := yX2_rest) (Yc := zX2_rest) (rest := []) [] (ct_X2_rest_f (T := T1)) cl_X6_133 (qd_c (by decide +kernel)) (nn_ _) rfl (rf_of rfl) (Nat.le_of_ble_eq_true rfl) (Nat.le_of_ble_eq_true rfl) (Nat.le_of_ble_eq_true rfl) rfl ?_
                  rintro _ _ ⟨rfl, x30, rfl, hx30⟩
                  have e31 : T1 102 p 0 = T 102 p 0 := hf_10 102 p 0 rfl
                  have e32 : T1 401 (T 102 p 0) 8 = T 401 (T 102 p 0) 8 := hf_10 401 (T 102 p 0) 8 rfl
                  rw [e31, e32] at hx30
                  show J_ zX6_blockDays T (po_X6_blockDays_f T p) 0 0 93 _ [vI x30] T1
                  refine j_blx (F := fX6) tb_X6 (nn_ _) bk_X6_blockDays_f_93 bs_X6_blockDays_f_93 hz (fun K hK => ?_)
                  refine hK 94 _ [vR 102 k, vI x30] T1 ?_
                  refine j_callV (y := yX2_rest) (Yc := zX2_rest) (rest := [vI x30]) [] (ct_X2_rest_f (T := T1)) cl_X6_133 (qd_c (by decide +kernel)) (nn_ _) rfl (rf_of rfl) (Nat.le_of_ble_eq_true rfl) (Nat.le_of_ble_eq_true rfl) (Nat.le_of_ble_eq_true rfl) rfl ?_
                  rintro _ _ ⟨rfl, x33, rfl, hx33⟩
                  have e34 : T1 102 k 0 = T 102 k 0 := hf_10 102 k 0 rfl
                  have e35 : T1 401 (T 102 k 0) 8 = T 401 (T 102 k 0) 8 := hf_10 401 (T 102 k 0) 8 rfl
                  rw [e34, e35] at hx33
                  show J_ zX6_blockDays T (po_X6_blockDays_f T p) 0 0 97 _ [vI x33, vI x30] T1
                  obtain ⟨x36, e37, hx36⟩ : ∃ x36 : Int, (if x30 < x33 then x33 else x30) = x36 ∧ ((x36 = x30 ∨ x36 = x33) ∧ x30 ≤ x36 ∧ x33 ≤ x36) := ⟨_, rfl, by split <;> omega⟩
                  refine j_mx (pc := 97) (lwq_4 (dqc_m (dqc_m (dqc_m (List.mem_of_getElem? (i := 4) rfl)))) rfl : Cond.methodLink RX6 136 Lib.Math.max.name ∈ lw_g) (lwq_4 (dqc_m (dqc_m (dqc_m (List.mem_of_getElem? (i := 5) rfl)))) rfl : Cond.static Lib.Math.max.name ∈ lw_g) (lwq_1 (dqa_m (dqa_m (List.mem_of_getElem? (i := 1) rfl))) rfl : Cond.initialized "java/lang/Math" ∈ lw_g) (lwq_4 (dqc_m (dqc_m (dqc_m (List.mem_of_getElem? (i := 6) rfl)))) rfl : Cond.code Lib.Math.max.name Lib.Math.max.code 2 (some .int) ∈ lw_g) (by decide +kernel) (by decide) (by decide) (by decide) (Nat.le_of_ble_eq_true rfl) ?_
                  rw [e37]
                  clear e37
                  show J_ zX6_blockDays T (po_X6_blockDays_f T p) 0 0 100 _ [vI x36] T1
                  refine j_blx (F := fX6) tb_X6 (nn_ _) bk_X6_blockDays_f_100 bs_X6_blockDays_f_100 hz (fun K hK => ?_)
                  refine rg_i (by omega) ?_
                  intro b38 b38b
                  have e39 : T1 102 k 5 = T 102 k 5 := hf_10 102 k 5 rfl
                  rw [e39] at b38 b38b ⊢
                  refine rg_i (by omega) ?_
                  refine hK 114 [some (vR 106 0), some (vR 102 p), some (vI k), some (vR 102 k), some (vI (x36 - 1)), none, none] [vI ((T 102 k 5) + (x36 - 1)), vI 999] T1 ?_
                  obtain ⟨x40, e41, hx40⟩ : ∃ x40 : Int, (if ((T 102 k 5) + (x36 - 1)) < 999 then ((T 102 k 5) + (x36 - 1)) else 999) = x40 ∧ ((x40 = 999 ∨ x40 = (T 102 k 5) + (x36 - 1)) ∧ x40 ≤ 999 ∧ x40 ≤ (T 102 k 5) + (x36 - 1)) := ⟨_, rfl, by split <;> omega⟩
                  refine j_mn (pc := 114) (lwq_4 (dqc_m (dqc_m (dqc_m (dqa_m (dqa_m (List.mem_of_getElem? (i := 4) rfl)))))) rfl : Cond.methodLink RX6 156 Lib.Math.min.name ∈ lw_g) (lwq_4 (dqc_m (dqc_m (dqc_m (dqa_m (dqa_m (List.mem_of_getElem? (i := 5) rfl)))))) rfl : Cond.static Lib.Math.min.name ∈ lw_g) (lwq_1 (dqa_m (dqa_m (List.mem_of_getElem? (i := 1) rfl))) rfl : Cond.initialized "java/lang/Math" ∈ lw_g) (lwq_4 (dqc_m (dqc_m (dqc_m (dqa_m (dqa_m (List.mem_of_getElem? (i := 6) rfl)))))) rfl : Cond.code Lib.Math.min.name Lib.Math.min.code 2 (some .int) ∈ lw_g) (by decide +kernel) (by decide) (by decide) (by decide) (Nat.le_of_ble_eq_true rfl) ?_
                  rw [e41]
                  clear e41
                  show J_ zX6_blockDays T (po_X6_blockDays_f T p) 0 0 117 _ [vI x40] T1
                  refine j_blx (F := fX6) tb_X6 (nn_ _) bk_X6_blockDays_f_117 bs_X6_blockDays_f_117 hz (fun K hK => ?_)
                  intro b42 b42b
                  have e43 : T1 102 k 5 = T 102 k 5 := hf_10 102 k 5 rfl
                  rw [e43] at b42 b42b ⊢
                  refine rg_i (by omega) ?_
                  refine hK 127 [some (vR 106 0), some (vR 102 p), some (vI k), some (vR 102 k), some (vI (x36 - 1)), some (vI x40), none] [vI ((T 102 k 5) - (x36 - 1)), vI 0] T1 ?_
                  obtain ⟨x44, e45, hx44⟩ : ∃ x44 : Int, (if 0 < ((T 102 k 5) - (x36 - 1)) then ((T 102 k 5) - (x36 - 1)) else 0) = x44 ∧ ((x44 = 0 ∨ x44 = (T 102 k 5) - (x36 - 1)) ∧ 0 ≤ x44 ∧ (T 102 k 5) - (x36 - 1) ≤ x44) := ⟨_, rfl, by split <;> omega⟩
                  refine j_mx (pc := 127) (lwq_4 (dqc_m (dqc_m (dqc_m (List.mem_of_getElem? (i := 4) rfl)))) rfl : Cond.methodLink RX6 136 Lib.Math.max.name ∈ lw_g) (lwq_4 (dqc_m (dqc_m (dqc_m (List.mem_of_getElem? (i := 5) rfl)))) rfl : Cond.static Lib.Math.max.name ∈ lw_g) (lwq_1 (dqa_m (dqa_m (List.mem_of_getElem? (i := 1) rfl))) rfl : Cond.initialized "java/lang/Math" ∈ lw_g) (lwq_4 (dqc_m (dqc_m (dqc_m (List.mem_of_getElem? (i := 6) rfl)))) rfl : Cond.code Lib.Math.max.name Lib.Math.max.code 2 (some .int) ∈ lw_g) (by decide +kernel) (by decide) (by decide) (by decide) (Nat.le_of_ble_eq_true rfl) ?_
                  rw [e45]
                  clear e45
                  show J_ zX6_blockDays T (po_X6_blockDays_f T p) 0 0 130 _ [vI x44] T1
                  refine j_blx (F := fX6) tb_X6 (nn_ _) bk_X6_blockDays_f_130 bs_X6_blockDays_f_130 hz (fun K hK => ?_)
                  refine hK 132 [some (vR 106 0), some (vR 102 p), some (vI k), some (vR 102 k), some (vI (x36 - 1)), some (vI x40), some (vI x44)] [] T1 ?_
                  refine j_drq [some (vR 106 0), some (vR 102 p), some (vI k), none, none, some (vI x40), some (vI x44)] (drq_s (drq_s (drq_s (drq_n (drq_n (drq_s (drq_s drq_0))))))) ?_
                  refine c_132 _ x40 x44 x44 x36 T1 (Nat.le_refl _) ?_ ?_ ?_
                  · exact fr_t (fr_0 _ _) (fr_s hf_10 rfl)
                  · rw [e25, e26, e27, e28] at hx24
                    refine ⟨by clear hx24 hx40 hx44 hx36; omega, by clear hx24 hx40 hx44 hx36; omega, ?_, ?_, hx24.2, ?_, hx40, hx44, Int.le_refl _, Or.inl rfl⟩
                    · clear hx24 hx40 hx44 hx36
                      omega
                    · clear hx24 hx40 hx44 hx36
                      omega
                    · rw [← hx30.2.2, ← hx33.2.2]
                      exact hx36
                  · exact br_e br1 (fun e a b => ⟨Or.inl, fun z => z.elim id (fun y => y.elim (fun w => absurd w.2 (by clear hx24 hx40 hx44 hx36; omega)) (fun w => absurd (Int.lt_of_le_of_lt w.1 w.2) (Int.lt_irrefl _)))⟩)
              · intro b46 b46b
                have e47 : T1 102 k 5 = T 102 k 5 := hf_10 102 k 5 rfl
                rw [e47] at b46 b46b ⊢
                refine iy_i (by omega) (by omega) ?_
                refine x_nm (fun U48 hU48 => ?_)
                have e49 := up_f hU48
                refine hK 83 _ [vR 102 k, vR 102 p] U48 ?_
                refine j_callS (y := yX6_shareClub) (Yc := zX6_shareClub) (rest := []) [vR 102 p, vR 102 k] (ct_X6_shareClub_f (T := U48)) cl_X6_140 (qd_c (by decide +kernel)) (nn_ _) rfl (rf_of rfl) (Nat.le_of_ble_eq_true rfl) (Nat.le_of_ble_eq_true rfl) (Nat.le_of_ble_eq_true rfl) rfl ?_
                rintro _ _ ⟨rfl, x50, rfl, hx50⟩
                have e51 : U48 102 p 3 = T 102 p 3 := (up_k hU48 (by exact Nat.ne_of_beq_eq_false rfl) p 3).trans (hf_10 102 p 3 rfl)
                have e52 : U48 102 p 4 = T 102 p 4 := (up_k hU48 (by exact Nat.ne_of_beq_eq_false rfl) p 4).trans (hf_10 102 p 4 rfl)
                have e53 : U48 102 k 3 = T 102 k 3 := (up_k hU48 (by exact Nat.ne_of_beq_eq_false rfl) k 3).trans (hf_10 102 k 3 rfl)
                have e54 : U48 102 k 4 = T 102 k 4 := (up_k hU48 (by exact Nat.ne_of_beq_eq_false rfl) k 4).trans (hf_10 102 k 4 rfl)
                show J_ zX6_blockDays T (po_X6_blockDays_f T p) 0 0 86 _ [vI x50] U48
                refine j_blx (F := fX6) tb_X6 (nn_ _) bk_X6_blockDays_f_86 bs_X6_blockDays_f_86 hz (fun K hK => ?_)
                refine And.intro (fun c55 => ?_) (fun c55 => ?_)
                · replace hx50 := hx50.resolve_left (fun z => absurd (c55.symm.trans z.1) (by decide))
                  clear c55
                  refine hK 153 _ [] U48 ?_
                  refine j_blx (F := fX6) tb_X6 (nn_ _) bk_X6_blockDays_f_153 bs_X6_blockDays_f_153 hz (fun K hK => ?_)
                  refine rg_i (by omega) ?_
                  refine hK 10 [some (vR 106 0), some (vR 102 p), some (vI (k + 1)), some (vR 102 k), none, none, none] [] U48 ?_
                  refine j_drq [some (vR 106 0), some (vR 102 p), some (vI (k + 1)), none, none, none, none] (drq_s (drq_s (drq_s (drq_n (drq_n (drq_n (drq_n drq_0))))))) ?_
                  refine ih_10 _ ?_ (k + 1) U48 (Nat.le_refl _) ?_ ?_ ?_
                  · have hm_10 := hm_10 (); omega
                  · exact fr_u (fr_t (fr_0 _ _) (fr_s hf_10 rfl)) hU48 rfl
                  · omega
                  · exact br_e (br_u br1 (up_f hU48) (fun j hj => up_g hU48 (fun z => hj z.2.2))) (fun e a b => by
                      rw [bkn_s (by omega)]
                      refine or_congr Iff.rfl ?_
                      unfold SAH_ SAG_ sqH_ hqH_ rsH_ abH_
                      dsimp only
                      omega)
                · replace hx50 := hx50.resolve_right (fun z => c55 z.1)
                  clear c55
                  refine hK 90 [some (vR 106 0), some (vR 102 p), some (vI k), some (vR 102 k), none, none, none] [vR 102 p] U48 ?_
                  refine j_callV (y := yX2_rest) (Yc := zX2_rest) (rest := []) [] (ct_X2_rest_f (T := U48)) cl_X6_133 (qd_c (by decide +kernel)) (nn_ _) rfl (rf_of rfl) (Nat.le_of_ble_eq_true rfl) (Nat.le_of_ble_eq_true rfl) (Nat.le_of_ble_eq_true rfl) rfl ?_
                  rintro _ _ ⟨rfl, x56, rfl, hx56⟩
                  have e57 : U48 102 p 0 = T 102 p 0 := (up_k hU48 (by exact Nat.ne_of_beq_eq_false rfl) p 0).trans (hf_10 102 p 0 rfl)
                  have e58 : U48 401 (T 102 p 0) 8 = T 401 (T 102 p 0) 8 := (up_k hU48 (by exact Nat.ne_of_beq_eq_false rfl) (T 102 p 0) 8).trans (hf_10 401 (T 102 p 0) 8 rfl)
                  rw [e57, e58] at hx56
                  show J_ zX6_blockDays T (po_X6_blockDays_f T p) 0 0 93 _ [vI x56] U48
                  refine j_blx (F := fX6) tb_X6 (nn_ _) bk_X6_blockDays_f_93 bs_X6_blockDays_f_93 hz (fun K hK => ?_)
                  refine hK 94 _ [vR 102 k, vI x56] U48 ?_
                  refine j_callV (y := yX2_rest) (Yc := zX2_rest) (rest := [vI x56]) [] (ct_X2_rest_f (T := U48)) cl_X6_133 (qd_c (by decide +kernel)) (nn_ _) rfl (rf_of rfl) (Nat.le_of_ble_eq_true rfl) (Nat.le_of_ble_eq_true rfl) (Nat.le_of_ble_eq_true rfl) rfl ?_
                  rintro _ _ ⟨rfl, x59, rfl, hx59⟩
                  have e60 : U48 102 k 0 = T 102 k 0 := (up_k hU48 (by exact Nat.ne_of_beq_eq_false rfl) k 0).trans (hf_10 102 k 0 rfl)
                  have e61 : U48 401 (T 102 k 0) 8 = T 401 (T 102 k 0) 8 := (up_k hU48 (by exact Nat.ne_of_beq_eq_false rfl) (T 102 k 0) 8).trans (hf_10 401 (T 102 k 0) 8 rfl)
                  rw [e60, e61] at hx59
                  show J_ zX6_blockDays T (po_X6_blockDays_f T p) 0 0 97 _ [vI x59, vI x56] U48
                  obtain ⟨x62, e63, hx62⟩ : ∃ x62 : Int, (if x56 < x59 then x59 else x56) = x62 ∧ ((x62 = x56 ∨ x62 = x59) ∧ x56 ≤ x62 ∧ x59 ≤ x62) := ⟨_, rfl, by split <;> omega⟩
                  refine j_mx (pc := 97) (lwq_4 (dqc_m (dqc_m (dqc_m (List.mem_of_getElem? (i := 4) rfl)))) rfl : Cond.methodLink RX6 136 Lib.Math.max.name ∈ lw_g) (lwq_4 (dqc_m (dqc_m (dqc_m (List.mem_of_getElem? (i := 5) rfl)))) rfl : Cond.static Lib.Math.max.name ∈ lw_g) (lwq_1 (dqa_m (dqa_m (List.mem_of_getElem? (i := 1) rfl))) rfl : Cond.initialized "java/lang/Math" ∈ lw_g) (lwq_4 (dqc_m (dqc_m (dqc_m (List.mem_of_getElem? (i := 6) rfl)))) rfl : Cond.code Lib.Math.max.name Lib.Math.max.code 2 (some .int) ∈ lw_g) (by decide +kernel) (by decide) (by decide) (by decide) (Nat.le_of_ble_eq_true rfl) ?_
                  rw [e63]
                  clear e63
                  show J_ zX6_blockDays T (po_X6_blockDays_f T p) 0 0 100 _ [vI x62] U48
                  refine j_blx (F := fX6) tb_X6 (nn_ _) bk_X6_blockDays_f_100 bs_X6_blockDays_f_100 hz (fun K hK => ?_)
                  refine rg_i (by omega) ?_
                  intro b64 b64b
                  have e65 : U48 102 k 5 = T 102 k 5 := (up_k hU48 (by exact Nat.ne_of_beq_eq_false rfl) k 5).trans (hf_10 102 k 5 rfl)
                  rw [e65] at b64 b64b ⊢
                  refine rg_i (by omega) ?_
                  refine hK 114 [some (vR 106 0), some (vR 102 p), some (vI k), some (vR 102 k), some (vI (x62 - 1)), none, none] [vI ((T 102 k 5) + (x62 - 1)), vI 999] U48 ?_
                  obtain ⟨x66, e67, hx66⟩ : ∃ x66 : Int, (if ((T 102 k 5) + (x62 - 1)) < 999 then ((T 102 k 5) + (x62 - 1)) else 999) = x66 ∧ ((x66 = 999 ∨ x66 = (T 102 k 5) + (x62 - 1)) ∧ x66 ≤ 999 ∧ x66 ≤ (T 102 k 5) + (x62 - 1)) := ⟨_, rfl, by split <;> omega⟩
                  refine j_mn (pc := 114) (lwq_4 (dqc_m (dqc_m (dqc_m (dqa_m (dqa_m (List.mem_of_getElem? (i := 4) rfl)))))) rfl : Cond.methodLink RX6 156 Lib.Math.min.name ∈ lw_g) (lwq_4 (dqc_m (dqc_m (dqc_m (dqa_m (dqa_m (List.mem_of_getElem? (i := 5) rfl)))))) rfl : Cond.static Lib.Math.min.name ∈ lw_g) (lwq_1 (dqa_m (dqa_m (List.mem_of_getElem? (i := 1) rfl))) rfl : Cond.initialized "java/lang/Math" ∈ lw_g) (lwq_4 (dqc_m (dqc_m (dqc_m (dqa_m (dqa_m (List.mem_of_getElem? (i := 6) rfl)))))) rfl : Cond.code Lib.Math.min.name Lib.Math.min.code 2 (some .int) ∈ lw_g) (by decide +kernel) (by decide) (by decide) (by decide) (Nat.le_of_ble_eq_true rfl) ?_
                  rw [e67]
                  clear e67
                  show J_ zX6_blockDays T (po_X6_blockDays_f T p) 0 0 117 _ [vI x66] U48
                  refine j_blx (F := fX6) tb_X6 (nn_ _) bk_X6_blockDays_f_117 bs_X6_blockDays_f_117 hz (fun K hK => ?_)
                  intro b68 b68b
                  have e69 : U48 102 k 5 = T 102 k 5 := (up_k hU48 (by exact Nat.ne_of_beq_eq_false rfl) k 5).trans (hf_10 102 k 5 rfl)
                  rw [e69] at b68 b68b ⊢
                  refine rg_i (by omega) ?_
                  refine hK 127 [some (vR 106 0), some (vR 102 p), some (vI k), some (vR 102 k), some (vI (x62 - 1)), some (vI x66), none] [vI ((T 102 k 5) - (x62 - 1)), vI 0] U48 ?_
                  obtain ⟨x70, e71, hx70⟩ : ∃ x70 : Int, (if 0 < ((T 102 k 5) - (x62 - 1)) then ((T 102 k 5) - (x62 - 1)) else 0) = x70 ∧ ((x70 = 0 ∨ x70 = (T 102 k 5) - (x62 - 1)) ∧ 0 ≤ x70 ∧ (T 102 k 5) - (x62 - 1) ≤ x70) := ⟨_, rfl, by split <;> omega⟩
                  refine j_mx (pc := 127) (lwq_4 (dqc_m (dqc_m (dqc_m (List.mem_of_getElem? (i := 4) rfl)))) rfl : Cond.methodLink RX6 136 Lib.Math.max.name ∈ lw_g) (lwq_4 (dqc_m (dqc_m (dqc_m (List.mem_of_getElem? (i := 5) rfl)))) rfl : Cond.static Lib.Math.max.name ∈ lw_g) (lwq_1 (dqa_m (dqa_m (List.mem_of_getElem? (i := 1) rfl))) rfl : Cond.initialized "java/lang/Math" ∈ lw_g) (lwq_4 (dqc_m (dqc_m (dqc_m (List.mem_of_getElem? (i := 6) rfl)))) rfl : Cond.code Lib.Math.max.name Lib.Math.max.code 2 (some .int) ∈ lw_g) (by decide +kernel) (by decide) (by decide) (by decide) (Nat.le_of_ble_eq_true rfl) ?_
                  rw [e71]
                  clear e71
                  show J_ zX6_blockDays T (po_X6_blockDays_f T p) 0 0 130 _ [vI x70] U48
                  refine j_blx (F := fX6) tb_X6 (nn_ _) bk_X6_blockDays_f_130 bs_X6_blockDays_f_130 hz (fun K hK => ?_)
                  refine hK 132 [some (vR 106 0), some (vR 102 p), some (vI k), some (vR 102 k), some (vI (x62 - 1)), some (vI x66), some (vI x70)] [] U48 ?_
                  refine j_drq [some (vR 106 0), some (vR 102 p), some (vI k), none, none, some (vI x66), some (vI x70)] (drq_s (drq_s (drq_s (drq_n (drq_n (drq_s (drq_s drq_0))))))) ?_
                  refine c_132 _ x66 x70 x70 x62 U48 (Nat.le_refl _) ?_ ?_ ?_
                  · exact fr_u (fr_t (fr_0 _ _) (fr_s hf_10 rfl)) hU48 rfl
                  · rw [e51, e52, e53, e54] at hx50
                    refine ⟨by clear hx50 hx66 hx70 hx62; omega, by clear hx50 hx66 hx70 hx62; omega, ?_, ?_, hx50.2, ?_, hx66, hx70, Int.le_refl _, Or.inl rfl⟩
                    · clear hx50 hx66 hx70 hx62
                      omega
                    · clear hx50 hx66 hx70 hx62
                      omega
                    · rw [← hx56.2.2, ← hx59.2.2]
                      exact hx62
                  · exact br_e (br_u br1 (up_f hU48) (fun j hj => up_g hU48 (fun z => hj z.2.2))) (fun e a b => or_congr Iff.rfl ⟨fun z => Or.inl ⟨z, by clear hx50 hx66 hx70 hx62; omega⟩, fun z => z.elim And.left (fun w => absurd (Int.lt_of_le_of_lt w.1 w.2) (Int.lt_irrefl _))⟩)
            · refine hK 153 _ [] T1 ?_
              refine j_blx (F := fX6) tb_X6 (nn_ _) bk_X6_blockDays_f_153 bs_X6_blockDays_f_153 hz (fun K hK => ?_)
              refine rg_i (by omega) ?_
              refine hK 10 [some (vR 106 0), some (vR 102 p), some (vI (k + 1)), some (vR 102 k), none, none, none] [] T1 ?_
              refine j_drq [some (vR 106 0), some (vR 102 p), some (vI (k + 1)), none, none, none, none] (drq_s (drq_s (drq_s (drq_n (drq_n (drq_n (drq_n drq_0))))))) ?_
              refine ih_10 _ ?_ (k + 1) T1 (Nat.le_refl _) ?_ ?_ ?_
              · have hm_10 := hm_10 (); omega
              · exact fr_t (fr_0 _ _) (fr_s hf_10 rfl)
              · omega
              · exact br_e br1 (fun e a b => by
                  rw [bkn_s (by omega)]
                  exact ⟨Or.inl, fun z => z.elim id (fun y => absurd y (by
                    unfold SAH_ SAG_ sqH_ hqH_ rsH_ abH_
                    dsimp only
                    omega))⟩)
  refine j_blx (F := fX6) tb_X6 (nn_ _) bk_X6_blockDays_f_0 bs_X6_blockDays_f_0 hz (fun K hK => ?_)
  refine hK 5 _ [vI 0, vR 535 0] T ?_
  refine j_callS (y := yJ7_fill_53178) (Yc := zJ7_fill_53178) (rest := []) [vR 535 0, vI 0] (ct_J7_fill_535 (T := T) (by omega)) cl_X6_150 (qd_c (by decide +kernel)) (nn_ _) rfl (rf_of rfl) (Nat.le_of_ble_eq_true rfl) (Nat.le_of_ble_eq_true rfl) (Nat.le_of_ble_eq_true rfl) rfl ?_
  rintro U72 _ ⟨rfl, fU72, qU72o, qU72⟩
  show J_ zX6_blockDays T (po_X6_blockDays_f T p) 0 0 8 _ [] U72
  refine j_blx (F := fX6) tb_X6 (nn_ _) bk_X6_blockDays_f_8 bs_X6_blockDays_f_8 hz (fun K hK => ?_)
  refine hK 10 [some (vR 106 0), some (vR 102 p), some (vI 0), none, none, none, none] [] U72 ?_
  refine c_10 _ 0 U72 (Nat.le_refl _) ?_ ?_ ?_
  · exact fr_t (fr_0 _ _) (fr_s fU72 rfl)
  · omega
  · exact fun d a b => Or.inr ⟨qU72 d a (by omega), bkn_0⟩
theorem bk_X6_goBehind_f_10 : ck_ fX6 (some .boolean) cX6_goBehind 10 [.iload 4, .iconst 999, .if_icmp .gt 52, .aload 0, .tableswitch 0 6 15 #[], .iload 4, .iaload, .ifCond .ne 46, .aload 0, .tableswitch 0 6 14 #[], .iload 3, .aload 1, .tableswitch 0 2 5 #[], .iastore, .aload 1, .iload 4, .tableswitch 1 2 5 #[], .iconst 1, .ireturn] 46 = true := qck_r (nn_ _) (by decide +kernel)
theorem bs_X6_goBehind_f_10 {P : Zt → Option Zv → Prop} (K : Int → Zl → List Zv → Zt → Prop) : sx_ K P [.iload 4, .iconst 999, .if_icmp .gt 52, .aload 0, .tableswitch 0 6 15 #[], .iload 4, .iaload, .ifCond .ne 46, .aload 0, .tableswitch 0 6 14 #[], .iload 3, .aload 1, .tableswitch 0 2 5 #[], .iastore, .aload 1, .iload 4, .tableswitch 1 2 5 #[], .iconst 1, .ireturn] 46 = x_iload 4 (x_iconst 999 (x_if_icmp .gt 52 K (x_aload 0 (x_g1 106 535 (x_iload 4 (x_iaload (x_ifCond .ne 46 K (x_aload 0 (x_g1 106 534 (x_iload 3 (x_aload 1 (x_g0 102 5 0 999 (x_iastore (x_aload 1 (x_iload 4 (x_p 102 5 0 999 (x_iconst 1 (x_ireturn P)))))))))))))))))) := ((xe_iload 4).trans (congrArg (x_iload 4) ((xe_iconst 999).trans (congrArg (x_iconst 999) ((xe_if_icmp .gt 52).trans (congrArg (x_if_icmp .gt 52 K) ((xe_aload 0).trans (congrArg (x_aload 0) ((xe_g1 (kk := 106) rfl tl_6_15).trans (congrArg (x_g1 106 535) ((xe_iload 4).trans (congrArg (x_iload 4) ((xe_iaload).trans (congrArg (x_iaload) ((xe_ifCond .ne 46).trans (congrArg (x_ifCond .ne 46 K) ((xe_aload 0).trans (congrArg (x_aload 0) ((xe_g1 (kk := 106) rfl tl_6_14).trans (congrArg (x_g1 106 534) ((xe_iload 3).trans (congrArg (x_iload 3) ((xe_aload 1).trans (congrArg (x_aload 1) ((xe_g0 (kk := 102) rfl tl_2_5).trans (congrArg (x_g0 102 5 0 999) ((xe_iastore).trans (congrArg (x_iastore) ((xe_aload 1).trans (congrArg (x_aload 1) ((xe_iload 4).trans (congrArg (x_iload 4) ((xe_p (kk := 102) rfl tl_2_5).trans (congrArg (x_p 102 5 0 999) ((xe_iconst 1).trans (congrArg (x_iconst 1) (xe_ireturn)))))))))))))))))))))))))))))))))))))
theorem bk_X6_goBehind_f_52 : ck_ fX6 (some .boolean) cX6_goBehind 52 [.iconst 0, .ireturn] 54 = true := qck_r (nn_ _) (by decide +kernel)
theorem bs_X6_goBehind_f_52 {P : Zt → Option Zv → Prop} (K : Int → Zl → List Zv → Zt → Prop) : sx_ K P [.iconst 0, .ireturn] 54 = x_iconst 0 (x_ireturn P) := ((xe_iconst 0).trans (congrArg (x_iconst 0) (xe_ireturn)))
theorem bk_X6_goBehind_f_46 : ck_ fX6 (some .boolean) cX6_goBehind 46 [.iinc 4 1, .goto 10] 52 = true := qck_r (nn_ _) (by decide +kernel)
theorem bs_X6_goBehind_f_46 {P : Zt → Option Zv → Prop} (K : Int → Zl → List Zv → Zt → Prop) : sx_ K P [.iinc 4 1, .goto 10] 52 = x_iinc 4 1 (x_goto 10 K) := ((xe_iinc 4 1).trans (congrArg (x_iinc 4 1) (xe_goto 10)))
theorem bk_X6_goBehind_f_0 : ck_ fX6 (some .boolean) cX6_goBehind 0 [.aload 0, .aload 1] 2 = true := qck_r (nn_ _) (by decide +kernel)
theorem bs_X6_goBehind_f_0 {P : Zt → Option Zv → Prop} (K : Int → Zl → List Zv → Zt → Prop) : sx_ K P [.aload 0, .aload 1] 2 = x_aload 0 (x_aload 1 (K 2)) := ((xe_aload 0).trans (congrArg (x_aload 0) ((xe_aload 1).trans (congrArg (x_aload 1) xe_nil))))
theorem bk_X6_goBehind_f_5 : ck_ fX6 (some .boolean) cX6_goBehind 5 [.iload 2, .iconst 1, .iadd, .istore 4] 10 = true := qck_r (nn_ _) (by decide +kernel)
theorem bs_X6_goBehind_f_5 {P : Zt → Option Zv → Prop} (K : Int → Zl → List Zv → Zt → Prop) : sx_ K P [.iload 2, .iconst 1, .iadd, .istore 4] 10 = x_iload 2 (x_iconst 1 (x_iadd (x_istore 4 (K 10)))) := ((xe_iload 2).trans (congrArg (x_iload 2) ((xe_iconst 1).trans (congrArg (x_iconst 1) ((xe_iadd).trans (congrArg (x_iadd) ((xe_istore 4).trans (congrArg (x_istore 4) xe_nil))))))))
abbrev po_X6_goBehind_f (T : Zt) (p : Int) (d k : Int) : Zt → Option Zv → Prop := fun T' r => ∃ x : Int, r = some (vI x) ∧ fr_ [(535, []), (534, []), (102, [5])] T T' ∧ (GOB_ T T' p d k x)
set_option maxHeartbeats 4000000 in
theorem ct_X6_goBehind_f {T : Zt} {p : Int} {d k : Int} (hka : KA_ T) (hkm : KM_ T) (hp : 0 ≤ p ∧ p < T 106 0 4) (hab : T 102 p 6 = -1) (hd : 0 ≤ d ∧ d ≤ 999) (hk : 0 ≤ k ∧ k < 400) : Ct_ yX6_goBehind zX6_goBehind T [vR 106 0, vR 102 p, vI d, vI k] (po_X6_goBehind_f T p d k) := by
  refine ct_of pn_6 rfl rfl (Nat.le_of_ble_eq_true rfl) (fun hT hav => ?_)
  have hr_d : -2147483648 ≤ d ∧ d ≤ 2147483647 := hav (vI d) (List.mem_cons_of_mem _ (List.mem_cons_of_mem _ List.mem_cons_self))
  have hr_k : -2147483648 ≤ k ∧ k ≤ 2147483647 := hav (vI k) (List.mem_cons_of_mem _ (List.mem_cons_of_mem _ (List.mem_cons_of_mem _ List.mem_cons_self)))
  have hz : zX6_goBehind.2.2.2.1 = some .boolean → ∀ (T' : Zt) (x : Int), po_X6_goBehind_f T p d k T' (some (vI x)) → 0 ≤ x ∧ x ≤ 1 := fun _ T' x h => by obtain ⟨y, e, -, hy⟩ := h; cases e; rcases hy with z | z <;> (have := z.1; omega)
  have hb_matchCount : 0 ≤ T 106 0 4 ∧ T 106 0 4 ≤ 400 := bd_f hT 106 4 tl_6_4 0
  show J_ zX6_goBehind T (po_X6_goBehind_f T p d k) 0 0 0 [some (vR 106 0), some (vR 102 p), some (vI d), some (vI k), none] [] T
  have c_10 : ∀ (nn : Nat) (i : Int) (T1 : Zt), ((1000 - i).toNat) ≤ nn → (fr_ [(535, [])] T T1) → (d + 1 ≤ i ∧ (i = d + 1 ∨ i ≤ 1000)) → (BR_ (fun e => T1 535 0 e) (BKH_ T (fun m => T 102 m 5) p)) → (ffd_ (BKH_ T (fun m => T 102 m 5) p) (999 - d).toNat (d + 1) = ffd_ (BKH_ T (fun m => T 102 m 5) p) (1000 - i).toNat i) → J_ zX6_goBehind T (po_X6_goBehind_f T p d k) 0 0 10 [some (vR 106 0), some (vR 102 p), some (vI d), some (vI k), some (vI i)] [] T1 := by
    intro nn
    induction nn using Nat.strongRecOn with
    | _ nn ih_10 =>
      intro i T1 hm_10 hf_10 i1 br1 ff1
      replace hm_10 := fun (_ : Unit) => hm_10
      refine j_blx (F := fX6) tb_X6 (nn_ _) bk_X6_goBehind_f_10 bs_X6_goBehind_f_10 hz (fun K hK => ?_)
      refine And.intro (fun c1 => ?_) (fun c1 => ?_)
      · refine hK 52 _ [] T1 ?_
        refine j_blx (F := fX6) tb_X6 (nn_ _) bk_X6_goBehind_f_52 bs_X6_goBehind_f_52 hz (fun K hK => ?_)
        refine (show po_X6_goBehind_f T p d k T1 (some (vI 0)) from ?_)
        have e9 : ffd_ (BKH_ T (fun m => T 102 m 5) p) (999 - d).toNat (d + 1) = -1 := by rw [ff1, show (1000 - i).toNat = 0 by omega]; rfl
        exact ⟨_, rfl, fr_t (fr_0 _ _) (fr_s hf_10 rfl), Or.inl ⟨rfl, e9, fun a b => hf_10 102 a b rfl, fun b => hf_10 534 0 b rfl⟩⟩
      · refine ix_i (by omega) ?_
        intro b2 b2b
        refine And.intro (fun c3 => ?_) (fun c3 => ?_)
        · refine hK 46 _ [] T1 ?_
          refine j_blx (F := fX6) tb_X6 (nn_ _) bk_X6_goBehind_f_46 bs_X6_goBehind_f_46 hz (fun K hK => ?_)
          refine rg_i (by omega) ?_
          refine hK 10 [some (vR 106 0), some (vR 102 p), some (vI d), some (vI k), some (vI (i + 1))] [] T1 ?_
          refine ih_10 _ ?_ (i + 1) T1 (Nat.le_refl _) ?_ ?_ ?_ ?_
          · have hm_10 := hm_10 (); omega
          · exact fr_t (fr_0 _ _) (fr_s hf_10 rfl)
          · omega
          · exact br1
          · rw [ff1, show (1000 - i).toNat = (1000 - (i + 1)).toNat + 1 by omega]
            exact ffd_t ((br1 i (by omega) (by omega)).elim (fun z => z.2) (fun z => absurd z.1 (by omega)))
        · intro b4 b4b
          have e5 : T1 102 p 5 = T 102 p 5 := hf_10 102 p 5 rfl
          rw [e5] at b4 b4b ⊢
          refine iy_i (by omega) (by omega) ?_
          refine x_nm (fun U6 hU6 => ?_)
          have e7 := up_f hU6
          refine bd_i (by omega) ?_
          refine x_nm (fun U8 hU8 => ?_)
          have e9 := up_f hU8
          refine (show po_X6_goBehind_f T p d k U8 (some (vI 1)) from ?_)
          have e9 : ffd_ (BKH_ T (fun m => T 102 m 5) p) (999 - d).toNat (d + 1) = i := by
            rw [ff1, show (1000 - i).toNat = (1000 - (i + 1)).toNat + 1 by omega]
            refine ffd_f ?_
            rcases br1 i (by omega) (by omega) with z | z
            · have z1 : T1 535 0 i = 1 := z.1
              exfalso; omega
            · exact z.2
          exact ⟨_, rfl, fr_u (fr_u (fr_t (fr_0 _ _) (fr_s hf_10 rfl)) hU6 rfl) hU8 rfl, Or.inr ⟨rfl, by omega, by rw [e9]; exact up_f hU8, (up_k hU8 (by exact Nat.ne_of_beq_eq_false rfl) _ _).trans (up_f hU6), fun a b hn => (up_g hU8 (fun z => hn z.2)).trans ((up_k hU6 (by exact Nat.ne_of_beq_eq_false rfl) _ _).trans (hf_10 102 a b rfl)), fun b hb => (up_k hU8 (by exact Nat.ne_of_beq_eq_false rfl) _ _).trans ((up_g hU6 (fun z => hb z.2.2)).trans (hf_10 534 0 b rfl))⟩⟩
  refine j_blx (F := fX6) tb_X6 (nn_ _) bk_X6_goBehind_f_0 bs_X6_goBehind_f_0 hz (fun K hK => ?_)
  refine hK 2 _ [vR 102 p, vR 106 0] T ?_
  refine j_callV (y := yX6_blockDays) (Yc := zX6_blockDays) (rest := []) [vR 102 p] (ct_X6_blockDays_f (T := T) (hka) (hkm) (by omega) (by omega)) cl_X6_146 (qd_c (by decide +kernel)) (nn_ _) rfl (rf_of rfl) (Nat.le_of_ble_eq_true rfl) (Nat.le_of_ble_eq_true rfl) (Nat.le_of_ble_eq_true rfl) rfl ?_
  rintro U10 _ ⟨rfl, fU10, brU10⟩
  show J_ zX6_goBehind T (po_X6_goBehind_f T p d k) 0 0 5 _ [] U10
  refine j_blx (F := fX6) tb_X6 (nn_ _) bk_X6_goBehind_f_5 bs_X6_goBehind_f_5 hz (fun K hK => ?_)
  refine rg_i (by omega) ?_
  refine hK 10 [some (vR 106 0), some (vR 102 p), some (vI d), some (vI k), some (vI (d + 1))] [] U10 ?_
  refine c_10 _ (d + 1) U10 (Nat.le_refl _) ?_ ?_ ?_ ?_
  · exact fr_t (fr_0 _ _) (fr_s fU10 rfl)
  · omega
  · exact brU10
  · rw [show (1000 - (d + 1)).toNat = (999 - d).toNat by omega]
theorem bk_X6_putOff_f_71 : ck_ fX6 (some .int) cX6_putOff 71 [.iload 6, .iload 5, .if_icmp .ge 106, .aload 0, .tableswitch 0 6 3 #[], .aload 0, .tableswitch 0 6 13 #[], .iload 6, .iaload, .aaload, .aload 0, .tableswitch 0 6 14 #[], .iload 6, .iaload, .tableswitch 1 2 5 #[], .iinc 6 1, .goto 71] 106 = true := qck_r (nn_ _) (by decide +kernel)
theorem bs_X6_putOff_f_71 {P : Zt → Option Zv → Prop} (K : Int → Zl → List Zv → Zt → Prop) : sx_ K P [.iload 6, .iload 5, .if_icmp .ge 106, .aload 0, .tableswitch 0 6 3 #[], .aload 0, .tableswitch 0 6 13 #[], .iload 6, .iaload, .aaload, .aload 0, .tableswitch 0 6 14 #[], .iload 6, .iaload, .tableswitch 1 2 5 #[], .iinc 6 1, .goto 71] 106 = x_iload 6 (x_iload 5 (x_if_icmp .ge 106 K (x_aload 0 (x_g1 106 523 (x_aload 0 (x_g1 106 533 (x_iload 6 (x_iaload (x_aaload (x_aload 0 (x_g1 106 534 (x_iload 6 (x_iaload (x_p 102 5 0 999 (x_iinc 6 1 (x_goto 71 K)))))))))))))))) := ((xe_iload 6).trans (congrArg (x_iload 6) ((xe_iload 5).trans (congrArg (x_iload 5) ((xe_if_icmp .ge 106).trans (congrArg (x_if_icmp .ge 106 K) ((xe_aload 0).trans (congrArg (x_aload 0) ((xe_g1 (kk := 106) rfl tl_6_3).trans (congrArg (x_g1 106 523) ((xe_aload 0).trans (congrArg (x_aload 0) ((xe_g1 (kk := 106) rfl tl_6_13).trans (congrArg (x_g1 106 533) ((xe_iload 6).trans (congrArg (x_iload 6) ((xe_iaload).trans (congrArg (x_iaload) ((xe_aaload).trans (congrArg (x_aaload) ((xe_aload 0).trans (congrArg (x_aload 0) ((xe_g1 (kk := 106) rfl tl_6_14).trans (congrArg (x_g1 106 534) ((xe_iload 6).trans (congrArg (x_iload 6) ((xe_iaload).trans (congrArg (x_iaload) ((xe_p (kk := 102) rfl tl_2_5).trans (congrArg (x_p 102 5 0 999) ((xe_iinc 6 1).trans (congrArg (x_iinc 6 1) (xe_goto 71)))))))))))))))))))))))))))))))))
theorem bk_X6_putOff_f_106 : ck_ fX6 (some .int) cX6_putOff 106 [.aload 1, .iload 3, .tableswitch 1 2 5 #[], .iconst (-4), .ireturn] 114 = true := qck_r (nn_ _) (by decide +kernel)
theorem bs_X6_putOff_f_106 {P : Zt → Option Zv → Prop} (K : Int → Zl → List Zv → Zt → Prop) : sx_ K P [.aload 1, .iload 3, .tableswitch 1 2 5 #[], .iconst (-4), .ireturn] 114 = x_aload 1 (x_iload 3 (x_p 102 5 0 999 (x_iconst (-4) (x_ireturn P)))) := ((xe_aload 1).trans (congrArg (x_aload 1) ((xe_iload 3).trans (congrArg (x_iload 3) ((xe_p (kk := 102) rfl tl_2_5).trans (congrArg (x_p 102 5 0 999) ((xe_iconst (-4)).trans (congrArg (x_iconst (-4)) (xe_ireturn)))))))))
theorem bk_X6_putOff_f_117 : ck_ fX6 (some .int) cX6_putOff 117 [.iload 6, .iload 4, .if_icmp .ge 144, .aload 0, .tableswitch 0 6 11 #[], .iload 6, .aload 0, .tableswitch 0 6 13 #[], .iload 6, .iaload, .iastore, .iinc 6 1, .goto 117] 144 = true := qck_r (nn_ _) (by decide +kernel)
theorem bs_X6_putOff_f_117 {P : Zt → Option Zv → Prop} (K : Int → Zl → List Zv → Zt → Prop) : sx_ K P [.iload 6, .iload 4, .if_icmp .ge 144, .aload 0, .tableswitch 0 6 11 #[], .iload 6, .aload 0, .tableswitch 0 6 13 #[], .iload 6, .iaload, .iastore, .iinc 6 1, .goto 117] 144 = x_iload 6 (x_iload 4 (x_if_icmp .ge 144 K (x_aload 0 (x_g1 106 531 (x_iload 6 (x_aload 0 (x_g1 106 533 (x_iload 6 (x_iaload (x_iastore (x_iinc 6 1 (x_goto 117 K)))))))))))) := ((xe_iload 6).trans (congrArg (x_iload 6) ((xe_iload 4).trans (congrArg (x_iload 4) ((xe_if_icmp .ge 144).trans (congrArg (x_if_icmp .ge 144 K) ((xe_aload 0).trans (congrArg (x_aload 0) ((xe_g1 (kk := 106) rfl tl_6_11).trans (congrArg (x_g1 106 531) ((xe_iload 6).trans (congrArg (x_iload 6) ((xe_aload 0).trans (congrArg (x_aload 0) ((xe_g1 (kk := 106) rfl tl_6_13).trans (congrArg (x_g1 106 533) ((xe_iload 6).trans (congrArg (x_iload 6) ((xe_iaload).trans (congrArg (x_iaload) ((xe_iastore).trans (congrArg (x_iastore) ((xe_iinc 6 1).trans (congrArg (x_iinc 6 1) (xe_goto 117)))))))))))))))))))))))))
theorem bk_X6_putOff_f_144 : ck_ fX6 (some .int) cX6_putOff 144 [.aload 0, .iload 4, .tableswitch 1 6 12 #[], .iload 4, .ireturn] 153 = true := qck_r (nn_ _) (by decide +kernel)
theorem bs_X6_putOff_f_144 {P : Zt → Option Zv → Prop} (K : Int → Zl → List Zv → Zt → Prop) : sx_ K P [.aload 0, .iload 4, .tableswitch 1 6 12 #[], .iload 4, .ireturn] 153 = x_aload 0 (x_iload 4 (x_p 106 12 0 400 (x_iload 4 (x_ireturn P)))) := ((xe_aload 0).trans (congrArg (x_aload 0) ((xe_iload 4).trans (congrArg (x_iload 4) ((xe_p (kk := 106) rfl tl_6_12).trans (congrArg (x_p 106 12 0 400) ((xe_iload 4).trans (congrArg (x_iload 4) (xe_ireturn)))))))))
theorem bk_X6_putOff_f_20 : ck_ fX6 (some .int) cX6_putOff 20 [.iload 5, .iload 4, .if_icmp .ge 55, .aload 0, .aload 0, .tableswitch 0 6 3 #[], .aload 0, .tableswitch 0 6 13 #[], .iload 5, .iaload, .aaload, .iload 2, .iload 5] 43 = true := qck_r (nn_ _) (by decide +kernel)
theorem bs_X6_putOff_f_20 {P : Zt → Option Zv → Prop} (K : Int → Zl → List Zv → Zt → Prop) : sx_ K P [.iload 5, .iload 4, .if_icmp .ge 55, .aload 0, .aload 0, .tableswitch 0 6 3 #[], .aload 0, .tableswitch 0 6 13 #[], .iload 5, .iaload, .aaload, .iload 2, .iload 5] 43 = x_iload 5 (x_iload 4 (x_if_icmp .ge 55 K (x_aload 0 (x_aload 0 (x_g1 106 523 (x_aload 0 (x_g1 106 533 (x_iload 5 (x_iaload (x_aaload (x_iload 2 (x_iload 5 (K 43))))))))))))) := ((xe_iload 5).trans (congrArg (x_iload 5) ((xe_iload 4).trans (congrArg (x_iload 4) ((xe_if_icmp .ge 55).trans (congrArg (x_if_icmp .ge 55 K) ((xe_aload 0).trans (congrArg (x_aload 0) ((xe_aload 0).trans (congrArg (x_aload 0) ((xe_g1 (kk := 106) rfl tl_6_3).trans (congrArg (x_g1 106 523) ((xe_aload 0).trans (congrArg (x_aload 0) ((xe_g1 (kk := 106) rfl tl_6_13).trans (congrArg (x_g1 106 533) ((xe_iload 5).trans (congrArg (x_iload 5) ((xe_iaload).trans (congrArg (x_iaload) ((xe_aaload).trans (congrArg (x_aaload) ((xe_iload 2).trans (congrArg (x_iload 2) ((xe_iload 5).trans (congrArg (x_iload 5) xe_nil))))))))))))))))))))))))))
theorem bk_X6_putOff_f_55 : ck_ fX6 (some .int) cX6_putOff 55 [.iload 4, .iconst (-1), .if_icmp .eq 68, .iload 5, .iload 4, .if_icmp .ge 114, .iconst 0, .istore 6] 71 = true := qck_r (nn_ _) (by decide +kernel)
theorem bs_X6_putOff_f_55 {P : Zt → Option Zv → Prop} (K : Int → Zl → List Zv → Zt → Prop) : sx_ K P [.iload 4, .iconst (-1), .if_icmp .eq 68, .iload 5, .iload 4, .if_icmp .ge 114, .iconst 0, .istore 6] 71 = x_iload 4 (x_iconst (-1) (x_if_icmp .eq 68 K (x_iload 5 (x_iload 4 (x_if_icmp .ge 114 K (x_iconst 0 (x_istore 6 (K 71)))))))) := ((xe_iload 4).trans (congrArg (x_iload 4) ((xe_iconst (-1)).trans (congrArg (x_iconst (-1)) ((xe_if_icmp .eq 68).trans (congrArg (x_if_icmp .eq 68 K) ((xe_iload 5).trans (congrArg (x_iload 5) ((xe_iload 4).trans (congrArg (x_iload 4) ((xe_if_icmp .ge 114).trans (congrArg (x_if_icmp .ge 114 K) ((xe_iconst 0).trans (congrArg (x_iconst 0) ((xe_istore 6).trans (congrArg (x_istore 6) xe_nil))))))))))))))))
theorem bk_X6_putOff_f_68 : ck_ fX6 (some .int) cX6_putOff 68 [.iconst 0, .istore 6] 71 = true := qck_r (nn_ _) (by decide +kernel)
theorem bs_X6_putOff_f_68 {P : Zt → Option Zv → Prop} (K : Int → Zl → List Zv → Zt → Prop) : sx_ K P [.iconst 0, .istore 6] 71 = x_iconst 0 (x_istore 6 (K 71)) := ((xe_iconst 0).trans (congrArg (x_iconst 0) ((xe_istore 6).trans (congrArg (x_istore 6) xe_nil))))
theorem bk_X6_putOff_f_114 : ck_ fX6 (some .int) cX6_putOff 114 [.iconst 0, .istore 6] 117 = true := qck_r (nn_ _) (by decide +kernel)
theorem bs_X6_putOff_f_114 {P : Zt → Option Zv → Prop} (K : Int → Zl → List Zv → Zt → Prop) : sx_ K P [.iconst 0, .istore 6] 117 = x_iconst 0 (x_istore 6 (K 117)) := ((xe_iconst 0).trans (congrArg (x_iconst 0) ((xe_istore 6).trans (congrArg (x_istore 6) xe_nil))))
theorem bk_X6_putOff_f_46 : ck_ fX6 (some .int) cX6_putOff 46 [.ifCond .eq 55, .iinc 5 1, .goto 20] 55 = true := qck_r (nn_ _) (by decide +kernel)
theorem bs_X6_putOff_f_46 {P : Zt → Option Zv → Prop} (K : Int → Zl → List Zv → Zt → Prop) : sx_ K P [.ifCond .eq 55, .iinc 5 1, .goto 20] 55 = x_ifCond .eq 55 K (x_iinc 5 1 (x_goto 20 K)) := ((xe_ifCond .eq 55).trans (congrArg (x_ifCond .eq 55 K) ((xe_iinc 5 1).trans (congrArg (x_iinc 5 1) (xe_goto 20)))))
theorem bk_X6_putOff_f_0 : ck_ fX6 (some .int) cX6_putOff 0 [.aload 1, .tableswitch 0 2 5 #[], .istore 3, .aload 1, .iload 2, .tableswitch 1 2 5 #[], .aload 0, .aload 1] 12 = true := qck_r (nn_ _) (by decide +kernel)
theorem bs_X6_putOff_f_0 {P : Zt → Option Zv → Prop} (K : Int → Zl → List Zv → Zt → Prop) : sx_ K P [.aload 1, .tableswitch 0 2 5 #[], .istore 3, .aload 1, .iload 2, .tableswitch 1 2 5 #[], .aload 0, .aload 1] 12 = x_aload 1 (x_g0 102 5 0 999 (x_istore 3 (x_aload 1 (x_iload 2 (x_p 102 5 0 999 (x_aload 0 (x_aload 1 (K 12)))))))) := ((xe_aload 1).trans (congrArg (x_aload 1) ((xe_g0 (kk := 102) rfl tl_2_5).trans (congrArg (x_g0 102 5 0 999) ((xe_istore 3).trans (congrArg (x_istore 3) ((xe_aload 1).trans (congrArg (x_aload 1) ((xe_iload 2).trans (congrArg (x_iload 2) ((xe_p (kk := 102) rfl tl_2_5).trans (congrArg (x_p 102 5 0 999) ((xe_aload 0).trans (congrArg (x_aload 0) ((xe_aload 1).trans (congrArg (x_aload 1) xe_nil))))))))))))))))
theorem bk_X6_putOff_f_15 : ck_ fX6 (some .int) cX6_putOff 15 [.istore 4, .iconst 0, .istore 5] 20 = true := qck_r (nn_ _) (by decide +kernel)
theorem bs_X6_putOff_f_15 {P : Zt → Option Zv → Prop} (K : Int → Zl → List Zv → Zt → Prop) : sx_ K P [.istore 4, .iconst 0, .istore 5] 20 = x_istore 4 (x_iconst 0 (x_istore 5 (K 20))) := ((xe_istore 4).trans (congrArg (x_istore 4) ((xe_iconst 0).trans (congrArg (x_iconst 0) ((xe_istore 5).trans (congrArg (x_istore 5) xe_nil))))))
abbrev po_X6_putOff_f (T : Zt) (p : Int) (d : Int) : Zt → Option Zv → Prop := fun T' r => ∃ x : Int, r = some (vI x) ∧ fr_ [(535, []), (534, []), (102, [5]), (533, []), (531, []), (106, [12])] T T' ∧ (PTO_ T T' p d x)
set_option maxHeartbeats 4000000 in
theorem ct_X6_putOff_f {T : Zt} {p : Int} {d : Int} (hka : KA_ T) (hkm : KM_ T) (hp : 0 ≤ p ∧ p < T 106 0 4) (hab : T 102 p 6 = -1) (hd : 0 ≤ d ∧ d ≤ 999) : Ct_ yX6_putOff zX6_putOff T [vR 106 0, vR 102 p, vI d] (po_X6_putOff_f T p d) := by
  refine ct_of pn_6 rfl rfl (Nat.le_of_ble_eq_true rfl) (fun hT hav => ?_)
  have hr_d : -2147483648 ≤ d ∧ d ≤ 2147483647 := hav (vI d) (List.mem_cons_of_mem _ (List.mem_cons_of_mem _ List.mem_cons_self))
  have hz : zX6_putOff.2.2.2.1 = some .boolean → ∀ (T' : Zt) (x : Int), po_X6_putOff_f T p d T' (some (vI x)) → 0 ≤ x ∧ x ≤ 1 := fun h => by cases h
  have hb_matchCount : 0 ≤ T 106 0 4 ∧ T 106 0 4 ≤ 400 := bd_f hT 106 4 tl_6_4 0
  have hdt : 0 ≤ T 102 p 5 ∧ T 102 p 5 ≤ 999 := bd_f hT 102 5 tl_2_5 p
  show J_ zX6_putOff T (po_X6_putOff_f T p d) 0 0 0 [some (vR 106 0), some (vR 102 p), some (vI d), none, none, none, none] [] T
  have c_20 : ∀ (nn : Nat) (n : Int) (g : Int) (T1 : Zt), ((400 - g).toNat) ≤ nn → (fr_ [(535, []), (534, []), (102, [5]), (533, []), (531, []), (106, [12])] T T1) → (0 ≤ g ∧ -1 ≤ n ∧ n ≤ 400 ∧ (g ≤ n ∨ g = 0)) → (kpo_ T T1) → (∀ j : Int, 0 ≤ j → j < n → 0 ≤ T1 533 0 j ∧ T1 533 0 j < T 106 0 4) → ((n = -1 ∧ NTL_ T p d) ∨ (0 ≤ n ∧ (∀ k, 0 ≤ k → k < T 106 0 4 → AGH_ T p d k → TLD_ T k) ∧ LHD_ (fun _ => 0) (AGH_ T p d) (fun j => T1 533 0 j) 0 (T 106 0 4) 400 n)) → (∀ j, 0 ≤ j → j < n → T 102 (T1 533 0 j) 6 = -1) → (0 ≤ n → ∀ K, KKG_ (fun j => T1 533 0 j) g n (T 106 0 4) K → (mvH_ T p d K).2 = 1 ∧ ∀ i, T1 102 i 5 = (mvH_ T p d K).1 i) → (∀ j, 0 ≤ j → j < g → T1 534 0 j = T 102 (T1 533 0 j) 5) → (RVF_ T T1 (fun j => T1 533 0 j) p g 0) → ((∀ j, T1 531 0 j = T 531 0 j) ∧ T1 106 0 12 = T 106 0 12) → J_ zX6_putOff T (po_X6_putOff_f T p d) 0 0 20 [some (vR 106 0), some (vR 102 p), some (vI d), some (vI (T 102 p 5)), some (vI n), some (vI g), none] [] T1 := by
    intro nn
    induction nn using Nat.strongRecOn with
    | _ nn ih_20 =>
      intro n g T1 hm_20 hf_20 i1 kp1 li1 la1 al1 mv1 db1 rv1 mk1
      replace hm_20 := fun (_ : Unit) => hm_20
      have c_71 : ∀ (nn : Nat) (i : Int) (T2 : Zt), ((400 - i).toNat) ≤ nn → (fr_ [(535, []), (534, []), (102, [5]), (533, []), (531, []), (106, [12])] T T2) → (0 ≤ i ∧ (i = 0 ∨ i ≤ g) ∧ g ≤ n + 1 ∧ n ≤ 400 ∧ (g ≤ n ∨ g ≤ 0)) → (kpo_ T T2) → (∀ j : Int, 0 ≤ j → j < n → 0 ≤ T2 533 0 j ∧ T2 533 0 j < T 106 0 4) → (∀ j, 0 ≤ j → j < g → T2 534 0 j = T 102 (T2 533 0 j) 5) → (RVF_ T T2 (fun j => T2 533 0 j) p g i) → (¬ ((∀ k, 0 ≤ k → k < T 106 0 4 → AGH_ T p d k → TLD_ T k) ∧ (mvH_ T p d (T 106 0 4)).2 = 1)) → ((∀ j, T2 531 0 j = T 531 0 j) ∧ T2 106 0 12 = T 106 0 12) → J_ zX6_putOff T (po_X6_putOff_f T p d) 0 0 71 [some (vR 106 0), some (vR 102 p), some (vI d), some (vI (T 102 p 5)), some (vI n), some (vI g), some (vI i)] [] T2 := by
        intro nn
        induction nn using Nat.strongRecOn with
        | _ nn ih_71 =>
          intro i T2 hm_71 hf_71 i2 kp2 li2 db2 rv2 bad2 mk2
          replace hm_71 := fun (_ : Unit) => hm_71
          refine j_blx (F := fX6) tb_X6 (nn_ _) bk_X6_putOff_f_71 bs_X6_putOff_f_71 hz (fun K hK => ?_)
          refine And.intro (fun c1 => ?_) (fun c1 => ?_)
          · refine hK 106 _ [] T2 ?_
            refine j_blx (F := fX6) tb_X6 (nn_ _) bk_X6_putOff_f_106 bs_X6_putOff_f_106 hz (fun K hK => ?_)
            refine bd_i (by omega) ?_
            refine x_nm (fun U2 hU2 => ?_)
            have e3 := up_f hU2
            refine (show po_X6_putOff_f T p d U2 (some (vI (-4))) from ?_)
            have dz : ∀ a j, U2 102 a j = T 102 a j := fun a j => by
              by_cases z : a = p ∧ j = 5
              · rw [z.1, z.2]; exact up_f hU2
              · rw [up_g hU2 (fun q => z q.2)]
                by_cases y : j = 5
                · rw [y]; exact rv2 a (fun w => z ⟨w, y⟩) (fun t t1 t2 => by omega)
                · exact kp2.1 a j y
            exact ⟨_, rfl, fr_u (fr_t (fr_0 _ _) (fr_s hf_71 rfl)) hU2 rfl, Or.inl ⟨rfl, bad2, dz, fun j => (up_k hU2 (by exact Nat.ne_of_beq_eq_false rfl) 0 j).trans (mk2.1 j), (up_k hU2 (by exact Nat.ne_of_beq_eq_false rfl) 0 12).trans mk2.2⟩⟩
          · refine ix_i (by omega) ?_
            intro b4 b4b
            refine ix_i (by omega) ?_
            have e6 : T2 523 0 (T2 533 0 i) = T 523 0 (T2 533 0 i) := hf_71 523 0 (T2 533 0 i) rfl
            refine And.intro (fun c5 => ?_) (fun c5 => ?_)
            · have y9 := li2 i (by omega) (by omega)
              exact absurd (show T 523 0 (T2 533 0 i) = 0 from Int.le_antisymm (by omega) (by omega)) (hka.2 _ (by omega) (by omega))
            · refine ix_i (by omega) ?_
              intro b7 b7b
              refine bd_i (by omega) ?_
              refine x_nm (fun U8 hU8 => ?_)
              have e9 := up_f hU8
              refine rg_i (by omega) ?_
              refine hK 71 [some (vR 106 0), some (vR 102 p), some (vI d), some (vI (T 102 p 5)), some (vI n), some (vI g), some (vI (i + 1))] [] U8 ?_
              have e10 : U8 106 0 12 = T2 106 0 12 := up_k hU8 (by exact Nat.ne_of_beq_eq_false rfl) 0 12
              refine ih_71 _ ?_ (i + 1) U8 (Nat.le_refl _) ?_ ?_ ?_ ?_ ?_ ?_ ?_ ?_
              · have hm_71 := hm_71 (); omega
              · exact fr_u (fr_t (fr_0 _ _) (fr_s hf_71 rfl)) hU8 rfl
              · omega
              · exact kpo_t kp2 ⟨fun a j hj => up_g hU8 (fun z => hj z.2.2), fun c => up_k hU8 (by exact Nat.ne_of_beq_eq_false rfl) _ _, fun j => up_k hU8 (by exact Nat.ne_of_beq_eq_false rfl) _ _, up_k hU8 (by exact Nat.ne_of_beq_eq_false rfl) _ _⟩
              · intro j a b
                rw [up_k hU8 (by exact Nat.ne_of_beq_eq_false rfl)]
                exact li2 j a b
              · intro j a b
                rw [up_k hU8 (by exact Nat.ne_of_beq_eq_false rfl), up_k hU8 (by exact Nat.ne_of_beq_eq_false rfl)]
                exact db2 j a b
              · have e9 := rvf_s (L := fun j => T2 533 0 j) rv2 (db2 i (by omega) (by omega)) hU8
                exact fun x a b => e9 x a (fun j c e => by show T2 533 0 j ≠ x; rw [← up_k hU8 (by exact Nat.ne_of_beq_eq_false rfl) 0 j]; exact b j c e)
              · exact bad2
              · exact ⟨fun j => (up_k hU8 (by exact Nat.ne_of_beq_eq_false rfl) 0 j).trans (mk2.1 j), (up_k hU8 (by exact Nat.ne_of_beq_eq_false rfl) 0 12).trans mk2.2⟩
      have c_117 : ∀ (nn : Nat) (i : Int) (T3 : Zt), ((400 - i).toNat) ≤ nn → (fr_ [(535, []), (534, []), (102, [5]), (533, []), (531, []), (106, [12])] T T3) → (0 ≤ i ∧ 0 ≤ n ∧ n ≤ 400 ∧ (i = 0 ∨ i ≤ n) ∧ n ≤ g) → (∀ i j, T3 102 i j = T1 102 i j) → (∀ j, T3 533 0 j = T1 533 0 j) → (∀ j, 0 ≤ j → j < i → T3 531 0 j = T1 533 0 j) → J_ zX6_putOff T (po_X6_putOff_f T p d) 0 0 117 [some (vR 106 0), some (vR 102 p), some (vI d), some (vI (T 102 p 5)), some (vI n), some (vI g), some (vI i)] [] T3 := by
        intro nn
        induction nn using Nat.strongRecOn with
        | _ nn ih_117 =>
          intro i T3 hm_117 hf_117 i3 dy3 ls3 mm3
          replace hm_117 := fun (_ : Unit) => hm_117
          refine j_blx (F := fX6) tb_X6 (nn_ _) bk_X6_putOff_f_117 bs_X6_putOff_f_117 hz (fun K hK => ?_)
          refine And.intro (fun c11 => ?_) (fun c11 => ?_)
          · refine hK 144 _ [] T3 ?_
            refine j_blx (F := fX6) tb_X6 (nn_ _) bk_X6_putOff_f_144 bs_X6_putOff_f_144 hz (fun K hK => ?_)
            refine bd_i (by omega) ?_
            refine x_nm (fun U12 hU12 => ?_)
            have e13 := up_f hU12
            refine (show po_X6_putOff_f T p d U12 (some (vI n)) from ?_)
            have z := (la1.resolve_left (fun y => by omega))
            have w := mv1 (by omega) (T 106 0 4) (Or.inr ⟨by omega, rfl⟩)
            have lm : LHD_ (fun _ => 0) (AGH_ T p d) (fun j => U12 531 0 j) 0 (T 106 0 4) 400 n := lhd_e z.2.2 (fun j a b => (up_k hU12 (by exact Nat.ne_of_beq_eq_false rfl) 0 j).trans (mm3 j a (by omega)))
            exact ⟨_, rfl, fr_u (fr_t (fr_0 _ _) (fr_s hf_117 rfl)) hU12 rfl, Or.inr ⟨by omega, z.2.1, w.1, fun i => ((up_k hU12 (by exact Nat.ne_of_beq_eq_false rfl) i 5).trans (dy3 i 5)).trans (w.2 i), fun i j hj => ((up_k hU12 (by exact Nat.ne_of_beq_eq_false rfl) i j).trans (dy3 i j)).trans (kp1.1 i j hj), lm, up_f hU12⟩⟩
          · refine ix_i (by omega) ?_
            intro b14 b14b
            refine iy_i (by omega) (by omega) ?_
            refine x_nm (fun U15 hU15 => ?_)
            have e16 := up_f hU15
            refine rg_i (by omega) ?_
            refine hK 117 [some (vR 106 0), some (vR 102 p), some (vI d), some (vI (T 102 p 5)), some (vI n), some (vI g), some (vI (i + 1))] [] U15 ?_
            refine ih_117 _ ?_ (i + 1) U15 (Nat.le_refl _) ?_ ?_ ?_ ?_ ?_
            · have hm_117 := hm_117 (); omega
            · exact fr_u (fr_t (fr_0 _ _) (fr_s hf_117 rfl)) hU15 rfl
            · omega
            · exact fun i j => (up_k hU15 (by exact Nat.ne_of_beq_eq_false rfl) i j).trans (dy3 i j)
            · exact fun j => (up_k hU15 (by exact Nat.ne_of_beq_eq_false rfl) 0 j).trans (ls3 j)
            · intro j a b
              by_cases z : j = i
              · rw [z, up_f hU15]; exact ls3 i
              · rw [up_g hU15 (fun q => z q.2.2)]; exact mm3 j a (by omega)
      refine j_blx (F := fX6) tb_X6 (nn_ _) bk_X6_putOff_f_20 bs_X6_putOff_f_20 hz (fun K hK => ?_)
      refine And.intro (fun c17 => ?_) (fun c17 => ?_)
      · refine hK 55 _ [] T1 ?_
        refine j_blx (F := fX6) tb_X6 (nn_ _) bk_X6_putOff_f_55 bs_X6_putOff_f_55 hz (fun K hK => ?_)
        refine And.intro (fun c18 => ?_) (fun c18 => ?_)
        · refine hK 68 _ [] T1 ?_
          refine j_blx (F := fX6) tb_X6 (nn_ _) bk_X6_putOff_f_68 bs_X6_putOff_f_68 hz (fun K hK => ?_)
          refine hK 71 [some (vR 106 0), some (vR 102 p), some (vI d), some (vI (T 102 p 5)), some (vI n), some (vI g), some (vI 0)] [] T1 ?_
          refine c_71 _ 0 T1 (Nat.le_refl _) ?_ ?_ ?_ ?_ ?_ ?_ ?_ ?_
          · exact fr_t (fr_0 _ _) (fr_s hf_20 rfl)
          · omega
          · exact kp1
          · exact li1
          · exact db1
          · exact rv1
          · rcases la1 with z | z
            · obtain ⟨z1, k, k0, k1, k2, k3⟩ := z
              exact fun c => k3 (c.1 k k0 k1 k2)
            · omega
          · exact mk1
        · refine And.intro (fun c19 => ?_) (fun c19 => ?_)
          · refine hK 114 [some (vR 106 0), some (vR 102 p), some (vI d), some (vI (T 102 p 5)), some (vI n), some (vI g), none] [] T1 ?_
            refine j_blx (F := fX6) tb_X6 (nn_ _) bk_X6_putOff_f_114 bs_X6_putOff_f_114 hz (fun K hK => ?_)
            refine hK 117 [some (vR 106 0), some (vR 102 p), some (vI d), some (vI (T 102 p 5)), some (vI n), some (vI g), some (vI 0)] [] T1 ?_
            refine c_117 _ 0 T1 (Nat.le_refl _) ?_ ?_ ?_ ?_ ?_
            · exact fr_t (fr_0 _ _) (fr_s hf_20 rfl)
            · omega
            · exact fun i j => rfl
            · exact fun j => rfl
            · intro j a b; omega
          · refine hK 71 _ [] T1 ?_
            refine c_71 _ 0 T1 (Nat.le_refl _) ?_ ?_ ?_ ?_ ?_ ?_ ?_ ?_
            · exact fr_t (fr_0 _ _) (fr_s hf_20 rfl)
            · omega
            · exact kp1
            · exact li1
            · exact db1
            · exact rv1
            · rcases la1 with z | z
              · obtain ⟨z1, k, k0, k1, k2, k3⟩ := z
                exact fun c => k3 (c.1 k k0 k1 k2)
              · omega
            · exact mk1
      · refine ix_i (by omega) ?_
        intro b20 b20b
        refine ix_i (by omega) ?_
        have e22 : T1 523 0 (T1 533 0 g) = T 523 0 (T1 533 0 g) := hf_20 523 0 (T1 533 0 g) rfl
        refine And.intro (fun c21 => ?_) (fun c21 => ?_)
        · have y9 := li1 g (by omega) (by omega)
          exact absurd (show T 523 0 (T1 533 0 g) = 0 from Int.le_antisymm (by omega) (by omega)) (hka.2 _ (by omega) (by omega))
        · refine hK 43 _ [vI g, vI d, vR 102 (T1 533 0 g), vR 106 0] T1 ?_
          refine j_callV (y := yX6_goBehind) (Yc := zX6_goBehind) (rest := []) [vR 102 (T1 533 0 g), vI d, vI g] (ct_X6_goBehind_f (T := T1) (KA__f (ws := [(535, []), (534, []), (102, [5]), (533, []), (531, []), (106, [12])]) hka (fr_t (fr_0 _ _) (fr_s hf_20 rfl)) ⟨fun _ => rfl, fun _ => rfl, rfl, rfl, trivial⟩) (KM__f (ws := [(535, []), (534, []), (102, [5]), (533, []), (531, []), (106, [12])]) hkm (fr_t (fr_0 _ _) (fr_s hf_20 rfl)) ⟨rfl, rfl, rfl, rfl, trivial⟩) (by have y9 := li1 g (by omega) (by omega); have y8 : T1 106 0 4 = T 106 0 4 := hf_20 106 0 4 rfl; omega) (by have y9 := al1 g (by omega) (by omega); have y8 := kp1.1 (T1 533 0 g) 6 (by decide); omega) (by omega) (by omega)) cl_X6_102 (qd_c (by decide +kernel)) (nn_ _) rfl (rf_of rfl) (Nat.le_of_ble_eq_true rfl) (Nat.le_of_ble_eq_true rfl) (Nat.le_of_ble_eq_true rfl) rfl ?_
          rintro U23 _ ⟨x24, rfl, fU23, gU23⟩
          show J_ zX6_putOff T (po_X6_putOff_f T p d) 0 0 46 _ [vI x24] U23
          refine j_blx (F := fX6) tb_X6 (nn_ _) bk_X6_putOff_f_46 bs_X6_putOff_f_46 hz (fun K hK => ?_)
          refine And.intro (fun c25 => ?_) (fun c25 => ?_)
          · refine hK 55 _ [] U23 ?_
            refine j_blx (F := fX6) tb_X6 (nn_ _) bk_X6_putOff_f_55 bs_X6_putOff_f_55 hz (fun K hK => ?_)
            refine And.intro (fun c26 => ?_) (fun c26 => ?_)
            · refine hK 68 _ [] U23 ?_
              refine j_blx (F := fX6) tb_X6 (nn_ _) bk_X6_putOff_f_68 bs_X6_putOff_f_68 hz (fun K hK => ?_)
              refine hK 71 [some (vR 106 0), some (vR 102 p), some (vI d), some (vI (T 102 p 5)), some (vI n), some (vI g), some (vI 0)] [] U23 ?_
              have e27 : U23 106 0 12 = T1 106 0 12 := fU23 106 0 12 rfl
              refine c_71 _ 0 U23 (Nat.le_refl _) ?_ ?_ ?_ ?_ ?_ ?_ ?_ ?_
              · exact fr_t (fr_t (fr_0 _ _) (fr_s hf_20 rfl)) (fr_s fU23 rfl)
              · omega
              · have z := gU23.resolve_right (fun y => by have := y.1; omega)
                exact kpo_t kp1 ⟨fun a j hj => z.2.2.1 a j, fun c => fU23 401 c 8 rfl, fun j => fU23 560 0 j rfl, fU23 106 0 4 rfl⟩
              · intro j a b
                rw [fU23 533 0 j rfl]
                exact li1 j a b
              · intro j a b
                have z := gU23.resolve_right (fun y => by have := y.1; omega)
                rw [fU23 533 0 j rfl, z.2.2.2 j]
                exact db1 j a b
              · intro x a b
                have z := gU23.resolve_right (fun y => by have := y.1; omega)
                rw [z.2.2.1 x 5]
                exact rv1 x a (fun j c e => by show T1 533 0 j ≠ x; rw [← fU23 533 0 j rfl]; exact b j c e)
              · have z := gU23.resolve_right (fun y => by have := y.1; omega)
                have q := (la1.resolve_left (fun y => by omega))
                have y := q.2.2.1 g (by omega) (by omega)
                have y9 := li1 g (by omega) (by omega)
                have w := mv1 (by omega) (T1 533 0 g) (Or.inl ⟨by omega, rfl⟩)
                exact fun c => mvH_x (by omega) w.1 y.2.2.1 kp1 w.2 z.2.1 (by omega) c.2
              · exact ⟨fun j => (fU23 531 0 j rfl).trans (mk1.1 j), (fU23 106 0 12 rfl).trans mk1.2⟩
            · refine And.intro (fun c28 => ?_) (fun c28 => ?_)
              · refine hK 114 [some (vR 106 0), some (vR 102 p), some (vI d), some (vI (T 102 p 5)), some (vI n), some (vI g), none] [] U23 ?_
                refine j_blx (F := fX6) tb_X6 (nn_ _) bk_X6_putOff_f_114 bs_X6_putOff_f_114 hz (fun K hK => ?_)
                refine hK 117 [some (vR 106 0), some (vR 102 p), some (vI d), some (vI (T 102 p 5)), some (vI n), some (vI g), some (vI 0)] [] U23 ?_
                refine c_117 _ 0 U23 (Nat.le_refl _) ?_ ?_ ?_ ?_ ?_
                · exact fr_t (fr_t (fr_0 _ _) (fr_s hf_20 rfl)) (fr_s fU23 rfl)
                · omega
                · exfalso; omega
                · exfalso; omega
                · exfalso; omega
              · refine hK 71 _ [] U23 ?_
                have e29 : U23 106 0 12 = T1 106 0 12 := fU23 106 0 12 rfl
                refine c_71 _ 0 U23 (Nat.le_refl _) ?_ ?_ ?_ ?_ ?_ ?_ ?_ ?_
                · exact fr_t (fr_t (fr_0 _ _) (fr_s hf_20 rfl)) (fr_s fU23 rfl)
                · omega
                · have z := gU23.resolve_right (fun y => by have := y.1; omega)
                  exact kpo_t kp1 ⟨fun a j hj => z.2.2.1 a j, fun c => fU23 401 c 8 rfl, fun j => fU23 560 0 j rfl, fU23 106 0 4 rfl⟩
                · intro j a b
                  rw [fU23 533 0 j rfl]
                  exact li1 j a b
                · intro j a b
                  have z := gU23.resolve_right (fun y => by have := y.1; omega)
                  rw [fU23 533 0 j rfl, z.2.2.2 j]
                  exact db1 j a b
                · intro x a b
                  have z := gU23.resolve_right (fun y => by have := y.1; omega)
                  rw [z.2.2.1 x 5]
                  exact rv1 x a (fun j c e => by show T1 533 0 j ≠ x; rw [← fU23 533 0 j rfl]; exact b j c e)
                · have z := gU23.resolve_right (fun y => by have := y.1; omega)
                  have q := (la1.resolve_left (fun y => by omega))
                  have y := q.2.2.1 g (by omega) (by omega)
                  have y9 := li1 g (by omega) (by omega)
                  have w := mv1 (by omega) (T1 533 0 g) (Or.inl ⟨by omega, rfl⟩)
                  exact fun c => mvH_x (by omega) w.1 y.2.2.1 kp1 w.2 z.2.1 (by omega) c.2
                · exact ⟨fun j => (fU23 531 0 j rfl).trans (mk1.1 j), (fU23 106 0 12 rfl).trans mk1.2⟩
          · refine rg_i (by omega) ?_
            refine hK 20 [some (vR 106 0), some (vR 102 p), some (vI d), some (vI (T 102 p 5)), some (vI n), some (vI (g + 1)), none] [] U23 ?_
            have e30 : U23 106 0 12 = T1 106 0 12 := fU23 106 0 12 rfl
            refine ih_20 _ ?_ n (g + 1) U23 (Nat.le_refl _) ?_ ?_ ?_ ?_ ?_ ?_ ?_ ?_ ?_ ?_
            · have hm_20 := hm_20 (); omega
            · exact fr_t (fr_t (fr_0 _ _) (fr_s hf_20 rfl)) (fr_s fU23 rfl)
            · omega
            · rcases gU23 with z | z
              · exact kpo_t kp1 ⟨fun a j hj => z.2.2.1 a j, fun c => fU23 401 c 8 rfl, fun j => fU23 560 0 j rfl, fU23 106 0 4 rfl⟩
              · exact kpo_t kp1 ⟨fun a j hj => z.2.2.2.2.1 a j (fun y => hj y.2), fun c => fU23 401 c 8 rfl, fun j => fU23 560 0 j rfl, fU23 106 0 4 rfl⟩
            · intro j a b
              rw [fU23 533 0 j rfl]
              exact li1 j a b
            · rcases la1 with z | z
              · exact Or.inl z
              · exact Or.inr ⟨z.1, z.2.1, lhd_e z.2.2 (fun j _ _ => fU23 533 0 j rfl)⟩
            · intro j a b
              rw [fU23 533 0 j rfl]
              exact al1 j a b
            · intro hn K hK
              have z := (la1.resolve_left (fun y => by omega))
              have hK2 : KKG_ (fun j => T1 533 0 j) (g + 1) n (T 106 0 4) K := by
                rcases hK with ⟨a, b⟩ | ⟨a, b⟩
                · exact Or.inl ⟨a, b.trans (fU23 533 0 _ rfl)⟩
                · exact Or.inr ⟨a, b⟩
              have y := z.2.2.1 g (by omega) (by omega)
              have w := mv1 hn (T1 533 0 g) (Or.inl ⟨by omega, rfl⟩)
              have q := gU23.resolve_left (fun y => by have := y.1; omega)
              have e1 := mvH_y (by omega) w.1 y.2.2.1 kp1 w.2 q.2.1
              have kl := kk_l z.2.2 (by omega) (by omega) hK2
              have kb := kk_b z.2.2 (by omega) (by omega) hK2
              have e2 := mvH_i (T := T) (p := p) (d := d) (A := T1 533 0 g + 1) (B := K) (by omega) kl (fun k a b => kk_s z.2.2 (by omega) (by omega) hK2 (by omega) k a b (by omega))
              rw [e2, e1]
              refine ⟨rfl, fun i => ?_⟩
              show _ = u1_ _ _ _ i
              by_cases zi : i = T1 533 0 g
              · rw [zi, u1_s]; exact q.2.2.1
              · rw [u1_n zi, q.2.2.2.2.1 i 5 (fun y => zi y.1)]; exact w.2 i
            · intro j a b
              have q := gU23.resolve_left (fun y => by have := y.1; omega)
              have z := (la1.resolve_left (fun y => by omega))
              have w := mv1 (by omega) (T1 533 0 g) (Or.inl ⟨by omega, rfl⟩)
              rw [fU23 533 0 j rfl]
              by_cases zj : j = g
              · rw [zj, q.2.2.2.1, w.2]
                have y := z.2.2.1 g (by omega) (by omega)
                have np : T1 533 0 g ≠ p := fun u => y.2.2.1.1 u.symm
                have m9 := mv_k (bk := BKH_ T) (ag := AGH_ T p d) (d := d) (day := u1_ (fun m => T 102 m 5) p d) (j := T1 533 0 g) (T1 533 0 g).toNat (Or.inr (Or.inl (by omega)))
                have m8 : (mvH_ T p d (T1 533 0 g)).1 (T1 533 0 g) = u1_ (fun m => T 102 m 5) p d (T1 533 0 g) := m9
                rw [m8, u1_n np]
              · rw [q.2.2.2.2.2 j zj]; exact db1 j a (by omega)
            · intro x a b
              have q := gU23.resolve_left (fun y => by have := y.1; omega)
              have nx : x ≠ T1 533 0 g := fun u => b g (by omega) (by omega) (by show U23 533 0 g = x; rw [fU23 533 0 g rfl]; exact u.symm)
              rw [q.2.2.2.2.1 x 5 (fun y => nx y.1)]
              exact rv1 x a (fun j c e => by show T1 533 0 j ≠ x; rw [← fU23 533 0 j rfl]; exact b j c (by omega))
            · exact ⟨fun j => (fU23 531 0 j rfl).trans (mk1.1 j), (fU23 106 0 12 rfl).trans mk1.2⟩
  refine j_blx (F := fX6) tb_X6 (nn_ _) bk_X6_putOff_f_0 bs_X6_putOff_f_0 hz (fun K hK => ?_)
  intro b31 b31b
  refine bd_i (by omega) ?_
  refine x_nm (fun U32 hU32 => ?_)
  have e33 := up_f hU32
  refine hK 12 [some (vR 106 0), some (vR 102 p), some (vI d), some (vI (T 102 p 5)), none, none, none] [vR 102 p, vR 106 0] U32 ?_
  refine j_callV (y := yX6_listAgainst) (Yc := zX6_listAgainst) (rest := []) [vR 102 p] (ct_X6_listAgainst_f (T := U32) (KA__f (ws := [(102, [5])]) hka (fr_u (fr_0 _ _) hU32 rfl) ⟨fun _ => rfl, fun _ => rfl, rfl, rfl, trivial⟩) (KM__f (ws := [(102, [5])]) hkm (fr_u (fr_0 _ _) hU32 rfl) ⟨rfl, rfl, rfl, rfl, trivial⟩) (by rw [up_k hU32 (by exact Nat.ne_of_beq_eq_false rfl)]; omega)) cl_X6_98 (qd_c (by decide +kernel)) (nn_ _) rfl (rf_of rfl) (Nat.le_of_ble_eq_true rfl) (Nat.le_of_ble_eq_true rfl) (Nat.le_of_ble_eq_true rfl) rfl ?_
  rintro U34 _ ⟨x35, rfl, fU34, bU34, vU34, gU34⟩
  show J_ zX6_putOff T (po_X6_putOff_f T p d) 0 0 15 _ [vI x35] U34
  have kpU : kpo_ T U34 := ⟨fun a j hj => (fU34 102 a j rfl).trans (up_g hU32 (fun z => hj z.2.2)), fun c => (fU34 401 c 8 rfl).trans (up_k hU32 (by exact Nat.ne_of_beq_eq_false rfl) _ _), fun j => (fU34 560 0 j rfl).trans (up_k hU32 (by exact Nat.ne_of_beq_eq_false rfl) _ _), (fU34 106 0 4 rfl).trans (up_k hU32 (by exact Nat.ne_of_beq_eq_false rfl) _ _)⟩
  have kpP : kpo_ T U32 := ⟨fun a j hj => up_g hU32 (fun z => hj z.2.2), fun c => up_k hU32 (by exact Nat.ne_of_beq_eq_false rfl) _ _, fun j => up_k hU32 (by exact Nat.ne_of_beq_eq_false rfl) _ _, up_k hU32 (by exact Nat.ne_of_beq_eq_false rfl) _ _⟩
  have agP : ∀ k, SAH_ U32 (fun m => U32 102 m 5) p k (U32 102 p 5) ↔ AGH_ T p d k := fun k => by
    rw [sah_k kpP, up_f hU32]
    by_cases z : k = p
    · rw [z]; exact ⟨fun y => absurd rfl y.1, fun y => absurd rfl y.1⟩
    · exact sah_d (up_g hU32 (fun q => z q.2.1))
  have nP : U32 106 0 4 = T 106 0 4 := kpP.2.2.2
  have dyU : ∀ i, U34 102 i 5 = u1_ (fun m => T 102 m 5) p d i := fun i => by
    rw [fU34 102 i 5 rfl]
    by_cases z : i = p
    · rw [z, u1_s]; exact up_f hU32
    · rw [u1_n z]; exact up_g hU32 (fun q => z q.2.1)
  have la9 : (x35 = -1 ∧ NTL_ T p d) ∨ (0 ≤ x35 ∧ (∀ k, 0 ≤ k → k < T 106 0 4 → AGH_ T p d k → TLD_ T k) ∧ LHD_ (fun _ => 0) (AGH_ T p d) (fun j => U34 533 0 j) 0 (T 106 0 4) 400 x35) := by
    have t6 : ∀ k, U32 102 k 6 = T 102 k 6 := fun k => kpP.1 k 6 (by decide)
    have t10 : ∀ k, U32 102 k 10 = T 102 k 10 := fun k => kpP.1 k 10 (by decide)
    rcases gU34 with ⟨z, k, a, b, c, e⟩ | ⟨z, a, b⟩
    · exact Or.inl ⟨z, ntl_i a (by rw [← nP]; exact b) ((agP k).mp c) (fun y => e (by rw [t6, t10]; exact y))⟩
    · refine Or.inr ⟨z, fun k k0 k1 k2 => ?_, ?_⟩
      · have y := a k k0 (by rw [nP]; exact k1) ((agP k).mpr k2)
        rw [t6, t10] at y
        exact y
      · rw [nP] at b
        refine ⟨fun j j0 j1 => ?_, b.2.1, fun q q0 q1 q2 q3 => b.2.2 q q0 q1 ((agP q).mpr q2) q3⟩
        have y := b.1 j j0 j1
        exact ⟨y.1, y.2.1, (agP _).mp y.2.2.1, y.2.2.2⟩
  refine j_blx (F := fX6) tb_X6 (nn_ _) bk_X6_putOff_f_15 bs_X6_putOff_f_15 hz (fun K hK => ?_)
  refine hK 20 [some (vR 106 0), some (vR 102 p), some (vI d), some (vI (T 102 p 5)), some (vI x35), some (vI 0), none] [] U34 ?_
  have e36 : U34 106 0 12 = T 106 0 12 := (fU34 106 0 12 rfl).trans (up_k hU32 (by exact Nat.ne_of_beq_eq_false rfl) 0 12)
  refine c_20 _ x35 0 U34 (Nat.le_refl _) ?_ ?_ ?_ ?_ ?_ ?_ ?_ ?_ ?_ ?_
  · exact fr_t (fr_u (fr_0 _ _) hU32 rfl) (fr_s fU34 rfl)
  · omega
  · exact kpU
  · intro j a b
    have y9 := vU34 j a (by omega)
    omega
  · exact la9
  · intro j a b
    rcases la9 with z | z
    · omega
    · have y := z.2.2.1 j a b
      have w := z.2.1 _ y.1 (by omega) y.2.2.1
      exact w.1
  · intro hn K hK
    have z := (la9.resolve_left (fun y => by omega))
    have kb := kk_b z.2.2 (Int.le_refl 0) (by omega) hK
    have e := mvH_i (T := T) (p := p) (d := d) (A := 0) (B := K) (Int.le_refl 0) kb.1 (fun k a b => kk_0 z.2.2 hK z.1 (by omega) k a b (by omega))
    rw [e]
    exact ⟨rfl, dyU⟩
  · intro j a b; omega
  · exact fun x a _ => by rw [dyU x, u1_n a]
  · exact ⟨fun j => (fU34 531 0 j rfl).trans (up_k hU32 (by exact Nat.ne_of_beq_eq_false rfl) 0 j), (fU34 106 0 12 rfl).trans (up_k hU32 (by exact Nat.ne_of_beq_eq_false rfl) 0 12)⟩
theorem bk_X10_postpone_f_0 : ck_ fX10 (some .int) cX10_postpone 0 [.aload 0, .iload 1] 2 = true := qck_r (nn_ _) (by decide +kernel)
theorem bs_X10_postpone_f_0 {P : Zt → Option Zv → Prop} (K : Int → Zl → List Zv → Zt → Prop) : sx_ K P [.aload 0, .iload 1] 2 = x_aload 0 (x_iload 1 (K 2)) := ((xe_aload 0).trans (congrArg (x_aload 0) ((xe_iload 1).trans (congrArg (x_iload 1) xe_nil))))
theorem bk_X10_postpone_f_5 : ck_ fX10 (some .int) cX10_postpone 5 [.ifCond .ne 11, .iconst (-2), .ireturn] 11 = true := qck_r (nn_ _) (by decide +kernel)
theorem bs_X10_postpone_f_5 {P : Zt → Option Zv → Prop} (K : Int → Zl → List Zv → Zt → Prop) : sx_ K P [.ifCond .ne 11, .iconst (-2), .ireturn] 11 = x_ifCond .ne 11 K (x_iconst (-2) (x_ireturn P)) := ((xe_ifCond .ne 11).trans (congrArg (x_ifCond .ne 11 K) ((xe_iconst (-2)).trans (congrArg (x_iconst (-2)) (xe_ireturn)))))
theorem bk_X10_postpone_f_11 : ck_ fX10 (some .int) cX10_postpone 11 [.iload 2] 12 = true := qck_r (nn_ _) (by decide +kernel)
theorem bs_X10_postpone_f_11 {P : Zt → Option Zv → Prop} (K : Int → Zl → List Zv → Zt → Prop) : sx_ K P [.iload 2] 12 = x_iload 2 (K 12) := ((xe_iload 2).trans (congrArg (x_iload 2) xe_nil))
theorem bk_X10_postpone_f_15 : ck_ fX10 (some .int) cX10_postpone 15 [.ifCond .eq 29, .iload 2, .aload 0, .tableswitch 0 10 1 #[], .tableswitch 0 8 13 #[], .if_icmp .gt 32, .iconst (-3), .ireturn] 32 = true := qck_r (nn_ _) (by decide +kernel)
theorem bs_X10_postpone_f_15 {P : Zt → Option Zv → Prop} (K : Int → Zl → List Zv → Zt → Prop) : sx_ K P [.ifCond .eq 29, .iload 2, .aload 0, .tableswitch 0 10 1 #[], .tableswitch 0 8 13 #[], .if_icmp .gt 32, .iconst (-3), .ireturn] 32 = x_ifCond .eq 29 K (x_iload 2 (x_aload 0 (x_g1 110 108 (x_g0 108 13 0 999 (x_if_icmp .gt 32 K (x_iconst (-3) (x_ireturn P))))))) := ((xe_ifCond .eq 29).trans (congrArg (x_ifCond .eq 29 K) ((xe_iload 2).trans (congrArg (x_iload 2) ((xe_aload 0).trans (congrArg (x_aload 0) ((xe_g1 (kk := 110) rfl tl_10_1).trans (congrArg (x_g1 110 108) ((xe_g0 (kk := 108) rfl tl_8_13).trans (congrArg (x_g0 108 13 0 999) ((xe_if_icmp .gt 32).trans (congrArg (x_if_icmp .gt 32 K) ((xe_iconst (-3)).trans (congrArg (x_iconst (-3)) (xe_ireturn)))))))))))))))
theorem bk_X10_postpone_f_29 : ck_ fX10 (some .int) cX10_postpone 29 [.iconst (-3), .ireturn] 32 = true := qck_r (nn_ _) (by decide +kernel)
theorem bs_X10_postpone_f_29 {P : Zt → Option Zv → Prop} (K : Int → Zl → List Zv → Zt → Prop) : sx_ K P [.iconst (-3), .ireturn] 32 = x_iconst (-3) (x_ireturn P) := ((xe_iconst (-3)).trans (congrArg (x_iconst (-3)) (xe_ireturn)))
theorem bk_X10_postpone_f_32 : ck_ fX10 (some .int) cX10_postpone 32 [.aload 0, .tableswitch 0 10 2 #[], .tableswitch 0 6 3 #[], .iload 1, .aaload, .astore 3, .aload 3] 43 = true := qck_r (nn_ _) (by decide +kernel)
theorem bs_X10_postpone_f_32 {P : Zt → Option Zv → Prop} (K : Int → Zl → List Zv → Zt → Prop) : sx_ K P [.aload 0, .tableswitch 0 10 2 #[], .tableswitch 0 6 3 #[], .iload 1, .aaload, .astore 3, .aload 3] 43 = x_aload 0 (x_g1 110 106 (x_g1 106 523 (x_iload 1 (x_aaload (x_astore 3 (x_aload 3 (K 43))))))) := ((xe_aload 0).trans (congrArg (x_aload 0) ((xe_g1 (kk := 110) rfl tl_10_2).trans (congrArg (x_g1 110 106) ((xe_g1 (kk := 106) rfl tl_6_3).trans (congrArg (x_g1 106 523) ((xe_iload 1).trans (congrArg (x_iload 1) ((xe_aaload).trans (congrArg (x_aaload) ((xe_astore 3).trans (congrArg (x_astore 3) ((xe_aload 3).trans (congrArg (x_aload 3) xe_nil))))))))))))))
theorem bk_X10_postpone_f_46 : ck_ fX10 (some .int) cX10_postpone 46 [.ifCond .ne 57, .aload 3, .tableswitch 0 2 5 #[], .iload 2, .if_icmp .ne 60, .iconst (-4), .ireturn] 60 = true := qck_r (nn_ _) (by decide +kernel)
theorem bs_X10_postpone_f_46 {P : Zt → Option Zv → Prop} (K : Int → Zl → List Zv → Zt → Prop) : sx_ K P [.ifCond .ne 57, .aload 3, .tableswitch 0 2 5 #[], .iload 2, .if_icmp .ne 60, .iconst (-4), .ireturn] 60 = x_ifCond .ne 57 K (x_aload 3 (x_g0 102 5 0 999 (x_iload 2 (x_if_icmp .ne 60 K (x_iconst (-4) (x_ireturn P)))))) := ((xe_ifCond .ne 57).trans (congrArg (x_ifCond .ne 57 K) ((xe_aload 3).trans (congrArg (x_aload 3) ((xe_g0 (kk := 102) rfl tl_2_5).trans (congrArg (x_g0 102 5 0 999) ((xe_iload 2).trans (congrArg (x_iload 2) ((xe_if_icmp .ne 60).trans (congrArg (x_if_icmp .ne 60 K) ((xe_iconst (-4)).trans (congrArg (x_iconst (-4)) (xe_ireturn)))))))))))))
theorem bk_X10_postpone_f_57 : ck_ fX10 (some .int) cX10_postpone 57 [.iconst (-4), .ireturn] 60 = true := qck_r (nn_ _) (by decide +kernel)
theorem bs_X10_postpone_f_57 {P : Zt → Option Zv → Prop} (K : Int → Zl → List Zv → Zt → Prop) : sx_ K P [.iconst (-4), .ireturn] 60 = x_iconst (-4) (x_ireturn P) := ((xe_iconst (-4)).trans (congrArg (x_iconst (-4)) (xe_ireturn)))
theorem bk_X10_postpone_f_60 : ck_ fX10 (some .int) cX10_postpone 60 [.aload 0, .tableswitch 0 10 2 #[], .aload 3, .iload 2] 66 = true := qck_r (nn_ _) (by decide +kernel)
theorem bs_X10_postpone_f_60 {P : Zt → Option Zv → Prop} (K : Int → Zl → List Zv → Zt → Prop) : sx_ K P [.aload 0, .tableswitch 0 10 2 #[], .aload 3, .iload 2] 66 = x_aload 0 (x_g1 110 106 (x_aload 3 (x_iload 2 (K 66)))) := ((xe_aload 0).trans (congrArg (x_aload 0) ((xe_g1 (kk := 110) rfl tl_10_2).trans (congrArg (x_g1 110 106) ((xe_aload 3).trans (congrArg (x_aload 3) ((xe_iload 2).trans (congrArg (x_iload 2) xe_nil))))))))
theorem bk_X10_postpone_f_69 : ck_ fX10 (some .int) cX10_postpone 69 [.ireturn] 70 = true := qck_r (nn_ _) (by decide +kernel)
theorem bs_X10_postpone_f_69 {P : Zt → Option Zv → Prop} (K : Int → Zl → List Zv → Zt → Prop) : sx_ K P [.ireturn] 70 = x_ireturn P := (xe_ireturn)
abbrev po_X10_postpone_f (T : Zt) (m d : Int) : Zt → Option Zv → Prop := fun T' r => ∃ x : Int, r = some (vI x) ∧ fr_ [(535, []), (534, []), (102, [5]), (533, []), (531, []), (106, [12])] T T' ∧ ((x = -2 ∧ ¬ (0 ≤ m ∧ m < T 106 0 4) ∧ T = T') ∨ ((0 ≤ m ∧ m < T 106 0 4) ∧ ((x = -3 ∧ ¬ (T 108 0 13 < d ∧ d ≤ 999 ∧ 0 ≤ d) ∧ T = T') ∨ ((T 108 0 13 < d ∧ d ≤ 999 ∧ 0 ≤ d) ∧ ((x = -4 ∧ ¬ ((T 102 m 6 = -1 ∧ T 102 m 10 = 0) ∧ T 102 m 5 ≠ d) ∧ T = T') ∨ (((T 102 m 6 = -1 ∧ T 102 m 10 = 0) ∧ T 102 m 5 ≠ d) ∧ PTO_ T T' m d x))))))
set_option maxHeartbeats 4000000 in
theorem ct_X10_postpone_f {T : Zt} {m d : Int} (hka : KA_ T) (hkm : KM_ T) : Ct_ yX10_postpone zX10_postpone T [vR 110 0, vI m, vI d] (po_X10_postpone_f T m d) := by
  refine ct_of pn_10 rfl rfl (Nat.le_of_ble_eq_true rfl) (fun hT hav => ?_)
  have hr_m : -2147483648 ≤ m ∧ m ≤ 2147483647 := hav (vI m) (List.mem_cons_of_mem _ List.mem_cons_self)
  have hr_d : -2147483648 ≤ d ∧ d ≤ 2147483647 := hav (vI d) (List.mem_cons_of_mem _ (List.mem_cons_of_mem _ List.mem_cons_self))
  have hz : zX10_postpone.2.2.2.1 = some .boolean → ∀ (T' : Zt) (x : Int), po_X10_postpone_f T m d T' (some (vI x)) → 0 ≤ x ∧ x ≤ 1 := fun h => by cases h
  have hb_matchCount : 0 ≤ T 106 0 4 ∧ T 106 0 4 ≤ 400 := bd_f hT 106 4 tl_6_4 0
  show J_ zX10_postpone T (po_X10_postpone_f T m d) 0 0 0 [some (vR 110 0), some (vI m), some (vI d), none] [] T
  refine j_blx (F := fX10) tb_X10 (nn_ _) bk_X10_postpone_f_0 bs_X10_postpone_f_0 hz (fun K hK => ?_)
  refine hK 2 _ [vI m, vR 110 0] T ?_
  refine j_callV (y := yX10_isMatch) (Yc := zX10_isMatch) (rest := []) [vI m] (ct_X10_isMatch (T := T)) cl_X10_195 (qd_c (by decide +kernel)) (nn_ _) rfl (rf_of rfl) (Nat.le_of_ble_eq_true rfl) (Nat.le_of_ble_eq_true rfl) (Nat.le_of_ble_eq_true rfl) rfl ?_
  rintro _ _ ⟨rfl, x1, rfl, hx1⟩
  show J_ zX10_postpone T (po_X10_postpone_f T m d) 0 0 5 _ [vI x1] T
  refine j_blx (F := fX10) tb_X10 (nn_ _) bk_X10_postpone_f_5 bs_X10_postpone_f_5 hz (fun K hK => ?_)
  refine And.intro (fun c2 => ?_) (fun c2 => ?_)
  · replace hx1 := hx1.resolve_right (fun z => c2 z.1)
    clear c2
    refine hK 11 _ [] T ?_
    refine j_blx (F := fX10) tb_X10 (nn_ _) bk_X10_postpone_f_11 bs_X10_postpone_f_11 hz (fun K hK => ?_)
    refine hK 12 _ [vI d] T ?_
    refine j_callS (y := yX10_isDay) (Yc := zX10_isDay) (rest := []) [vI d] (ct_X10_isDay (T := T)) cl_X10_140 (qd_c (by decide +kernel)) (nn_ _) rfl (rf_of rfl) (Nat.le_of_ble_eq_true rfl) (Nat.le_of_ble_eq_true rfl) (Nat.le_of_ble_eq_true rfl) rfl ?_
    rintro _ _ ⟨rfl, x3, rfl, hx3⟩
    show J_ zX10_postpone T (po_X10_postpone_f T m d) 0 0 15 _ [vI x3] T
    refine j_blx (F := fX10) tb_X10 (nn_ _) bk_X10_postpone_f_15 bs_X10_postpone_f_15 hz (fun K hK => ?_)
    refine And.intro (fun c4 => ?_) (fun c4 => ?_)
    · replace hx3 := hx3.resolve_left (fun z => absurd (c4.symm.trans z.1) (by decide))
      clear c4
      refine hK 29 _ [] T ?_
      refine j_blx (F := fX10) tb_X10 (nn_ _) bk_X10_postpone_f_29 bs_X10_postpone_f_29 hz (fun K hK => ?_)
      refine (show po_X10_postpone_f T m d T (some (vI (-3))) from ?_)
      exact ⟨_, rfl, fr_0 _ _, Or.inr ⟨by omega, Or.inl ⟨rfl, by omega, rfl⟩⟩⟩
    · replace hx3 := hx3.resolve_right (fun z => c4 z.1)
      clear c4
      intro b5 b5b
      refine And.intro (fun c6 => ?_) (fun c6 => ?_)
      · refine hK 32 _ [] T ?_
        refine j_blx (F := fX10) tb_X10 (nn_ _) bk_X10_postpone_f_32 bs_X10_postpone_f_32 hz (fun K hK => ?_)
        refine ix_i (by omega) ?_
        refine And.intro (fun c7 => ?_) (fun c7 => ?_)
        · exact absurd (show T 523 0 (m) = 0 from Int.le_antisymm (by omega) (by omega)) (hka.2 _ (by omega) (by omega))
        · refine hK 43 [some (vR 110 0), some (vI m), some (vI d), some (vR 102 m)] [vR 102 m] T ?_
          refine j_callV (y := yX2_phaseOfLife) (Yc := zX2_phaseOfLife) (rest := []) [] (ct_X2_phaseOfLife_e (T := T)) cl_X10_223 (qd_c (by decide +kernel)) (nn_ _) rfl (rf_of rfl) (Nat.le_of_ble_eq_true rfl) (Nat.le_of_ble_eq_true rfl) (Nat.le_of_ble_eq_true rfl) rfl ?_
          rintro _ _ ⟨rfl, x8, rfl, hx8⟩
          show J_ zX10_postpone T (po_X10_postpone_f T m d) 0 0 46 _ [vI x8] T
          refine j_blx (F := fX10) tb_X10 (nn_ _) bk_X10_postpone_f_46 bs_X10_postpone_f_46 hz (fun K hK => ?_)
          refine And.intro (fun c9 => ?_) (fun c9 => ?_)
          · refine hK 57 _ [] T ?_
            refine j_blx (F := fX10) tb_X10 (nn_ _) bk_X10_postpone_f_57 bs_X10_postpone_f_57 hz (fun K hK => ?_)
            refine (show po_X10_postpone_f T m d T (some (vI (-4))) from ?_)
            exact ⟨_, rfl, fr_0 _ _, Or.inr ⟨by omega, Or.inr ⟨by omega, Or.inl ⟨rfl, by omega, rfl⟩⟩⟩⟩
          · intro b10 b10b
            refine And.intro (fun c11 => ?_) (fun c11 => ?_)
            · refine hK 60 _ [] T ?_
              refine j_blx (F := fX10) tb_X10 (nn_ _) bk_X10_postpone_f_60 bs_X10_postpone_f_60 hz (fun K hK => ?_)
              refine hK 66 _ [vI d, vR 102 m, vR 106 0] T ?_
              refine j_callV (y := yX6_putOff) (Yc := zX6_putOff) (rest := []) [vR 102 m, vI d] (ct_X6_putOff_f (T := T) hka hkm (by omega) (by omega) (by omega)) cl_X10_234 (qd_c (by decide +kernel)) (nn_ _) rfl (rf_of rfl) (Nat.le_of_ble_eq_true rfl) (Nat.le_of_ble_eq_true rfl) (Nat.le_of_ble_eq_true rfl) rfl ?_
              rintro U12 _ ⟨x13, rfl, fU12, gU12⟩
              show J_ zX10_postpone T (po_X10_postpone_f T m d) 0 0 69 _ [vI x13] U12
              refine j_blx (F := fX10) tb_X10 (nn_ _) bk_X10_postpone_f_69 bs_X10_postpone_f_69 hz (fun K hK => ?_)
              refine (show po_X10_postpone_f T m d U12 (some (vI x13)) from ?_)
              exact ⟨_, rfl, fr_t (fr_0 _ _) (fr_s fU12 rfl), Or.inr ⟨by omega, Or.inr ⟨by omega, Or.inr ⟨by omega, gU12⟩⟩⟩⟩
            · refine (show po_X10_postpone_f T m d T (some (vI (-4))) from ?_)
              exact ⟨_, rfl, fr_0 _ _, Or.inr ⟨by omega, Or.inr ⟨by omega, Or.inl ⟨rfl, by omega, rfl⟩⟩⟩⟩
      · refine (show po_X10_postpone_f T m d T (some (vI (-3))) from ?_)
        exact ⟨_, rfl, fr_0 _ _, Or.inr ⟨by omega, Or.inl ⟨rfl, by omega, rfl⟩⟩⟩
  · replace hx1 := hx1.resolve_left (fun z => absurd (c2.symm.trans z.1) (by decide))
    clear c2
    refine (show po_X10_postpone_f T m d T (some (vI (-2))) from ?_)
    exact ⟨_, rfl, fr_0 _ _, Or.inl ⟨rfl, by omega, rfl⟩⟩
theorem bk_X11_shareClub_f_0 : ck_ fX11 (some .boolean) cX11_shareClub 0 [.aload 0, .tableswitch 0 11 32 #[], .iload 1, .iaload, .aload 0, .tableswitch 0 11 32 #[], .iload 2, .iaload, .if_icmp .eq 60, .aload 0, .tableswitch 0 11 32 #[], .iload 1, .iaload, .aload 0, .tableswitch 0 11 33 #[], .iload 2, .iaload, .if_icmp .eq 60, .aload 0, .tableswitch 0 11 33 #[], .iload 1, .iaload, .aload 0, .tableswitch 0 11 32 #[], .iload 2, .iaload, .if_icmp .eq 60, .aload 0, .tableswitch 0 11 33 #[], .iload 1, .iaload, .aload 0, .tableswitch 0 11 33 #[], .iload 2, .iaload, .if_icmp .ne 64, .iconst 1, .goto 65] 64 = true := qck_r (nn_ _) (by decide +kernel)
theorem bs_X11_shareClub_f_0 {P : Zt → Option Zv → Prop} (K : Int → Zl → List Zv → Zt → Prop) : sx_ K P [.aload 0, .tableswitch 0 11 32 #[], .iload 1, .iaload, .aload 0, .tableswitch 0 11 32 #[], .iload 2, .iaload, .if_icmp .eq 60, .aload 0, .tableswitch 0 11 32 #[], .iload 1, .iaload, .aload 0, .tableswitch 0 11 33 #[], .iload 2, .iaload, .if_icmp .eq 60, .aload 0, .tableswitch 0 11 33 #[], .iload 1, .iaload, .aload 0, .tableswitch 0 11 32 #[], .iload 2, .iaload, .if_icmp .eq 60, .aload 0, .tableswitch 0 11 33 #[], .iload 1, .iaload, .aload 0, .tableswitch 0 11 33 #[], .iload 2, .iaload, .if_icmp .ne 64, .iconst 1, .goto 65] 64 = x_aload 0 (x_g1 111 232 (x_iload 1 (x_iaload (x_aload 0 (x_g1 111 232 (x_iload 2 (x_iaload (x_if_icmp .eq 60 K (x_aload 0 (x_g1 111 232 (x_iload 1 (x_iaload (x_aload 0 (x_g1 111 233 (x_iload 2 (x_iaload (x_if_icmp .eq 60 K (x_aload 0 (x_g1 111 233 (x_iload 1 (x_iaload (x_aload 0 (x_g1 111 232 (x_iload 2 (x_iaload (x_if_icmp .eq 60 K (x_aload 0 (x_g1 111 233 (x_iload 1 (x_iaload (x_aload 0 (x_g1 111 233 (x_iload 2 (x_iaload (x_if_icmp .ne 64 K (x_iconst 1 (x_goto 65 K))))))))))))))))))))))))))))))))))))) := ((xe_aload 0).trans (congrArg (x_aload 0) ((xe_g1 (kk := 111) rfl tl_11_32).trans (congrArg (x_g1 111 232) ((xe_iload 1).trans (congrArg (x_iload 1) ((xe_iaload).trans (congrArg (x_iaload) ((xe_aload 0).trans (congrArg (x_aload 0) ((xe_g1 (kk := 111) rfl tl_11_32).trans (congrArg (x_g1 111 232) ((xe_iload 2).trans (congrArg (x_iload 2) ((xe_iaload).trans (congrArg (x_iaload) ((xe_if_icmp .eq 60).trans (congrArg (x_if_icmp .eq 60 K) ((xe_aload 0).trans (congrArg (x_aload 0) ((xe_g1 (kk := 111) rfl tl_11_32).trans (congrArg (x_g1 111 232) ((xe_iload 1).trans (congrArg (x_iload 1) ((xe_iaload).trans (congrArg (x_iaload) ((xe_aload 0).trans (congrArg (x_aload 0) ((xe_g1 (kk := 111) rfl tl_11_33).trans (congrArg (x_g1 111 233) ((xe_iload 2).trans (congrArg (x_iload 2) ((xe_iaload).trans (congrArg (x_iaload) ((xe_if_icmp .eq 60).trans (congrArg (x_if_icmp .eq 60 K) ((xe_aload 0).trans (congrArg (x_aload 0) ((xe_g1 (kk := 111) rfl tl_11_33).trans (congrArg (x_g1 111 233) ((xe_iload 1).trans (congrArg (x_iload 1) ((xe_iaload).trans (congrArg (x_iaload) ((xe_aload 0).trans (congrArg (x_aload 0) ((xe_g1 (kk := 111) rfl tl_11_32).trans (congrArg (x_g1 111 232) ((xe_iload 2).trans (congrArg (x_iload 2) ((xe_iaload).trans (congrArg (x_iaload) ((xe_if_icmp .eq 60).trans (congrArg (x_if_icmp .eq 60 K) ((xe_aload 0).trans (congrArg (x_aload 0) ((xe_g1 (kk := 111) rfl tl_11_33).trans (congrArg (x_g1 111 233) ((xe_iload 1).trans (congrArg (x_iload 1) ((xe_iaload).trans (congrArg (x_iaload) ((xe_aload 0).trans (congrArg (x_aload 0) ((xe_g1 (kk := 111) rfl tl_11_33).trans (congrArg (x_g1 111 233) ((xe_iload 2).trans (congrArg (x_iload 2) ((xe_iaload).trans (congrArg (x_iaload) ((xe_if_icmp .ne 64).trans (congrArg (x_if_icmp .ne 64 K) ((xe_iconst 1).trans (congrArg (x_iconst 1) (xe_goto 65)))))))))))))))))))))))))))))))))))))))))))))))))))))))))))))))))))))))))))
theorem bk_X11_shareClub_f_60 : ck_ fX11 (some .boolean) cX11_shareClub 60 [.iconst 1, .goto 65] 64 = true := qck_r (nn_ _) (by decide +kernel)
theorem bs_X11_shareClub_f_60 {P : Zt → Option Zv → Prop} (K : Int → Zl → List Zv → Zt → Prop) : sx_ K P [.iconst 1, .goto 65] 64 = x_iconst 1 (x_goto 65 K) := ((xe_iconst 1).trans (congrArg (x_iconst 1) (xe_goto 65)))
theorem bk_X11_shareClub_f_65 : ck_ fX11 (some .boolean) cX11_shareClub 65 [.ireturn] 66 = true := qck_r (nn_ _) (by decide +kernel)
theorem bs_X11_shareClub_f_65 {P : Zt → Option Zv → Prop} (K : Int → Zl → List Zv → Zt → Prop) : sx_ K P [.ireturn] 66 = x_ireturn P := (xe_ireturn)
theorem bk_X11_shareClub_f_64 : ck_ fX11 (some .boolean) cX11_shareClub 64 [.iconst 0, .ireturn] 66 = true := qck_r (nn_ _) (by decide +kernel)
theorem bs_X11_shareClub_f_64 {P : Zt → Option Zv → Prop} (K : Int → Zl → List Zv → Zt → Prop) : sx_ K P [.iconst 0, .ireturn] 66 = x_iconst 0 (x_ireturn P) := ((xe_iconst 0).trans (congrArg (x_iconst 0) (xe_ireturn)))
abbrev po_X11_shareClub_f (T : Zt) (a b : Int) : Zt → Option Zv → Prop := fun T' r => T = T' ∧ ∃ x : Int, r = some (vI x) ∧ ((x = 1 ∧ (T 232 0 a = T 232 0 b ∨ T 232 0 a = T 233 0 b ∨ T 233 0 a = T 232 0 b ∨ T 233 0 a = T 233 0 b)) ∨ (x = 0 ∧ ¬ (T 232 0 a = T 232 0 b ∨ T 232 0 a = T 233 0 b ∨ T 233 0 a = T 232 0 b ∨ T 233 0 a = T 233 0 b)))
set_option maxHeartbeats 4000000 in
theorem ct_X11_shareClub_f {T : Zt} {a b : Int} (h1 : 0 ≤ a ∧ a < 400) (h2 : 0 ≤ b ∧ b < 400) : Ct_ yX11_shareClub zX11_shareClub T [vR 111 0, vI a, vI b] (po_X11_shareClub_f T a b) := by
  refine ct_of pn_11 rfl rfl (Nat.le_of_ble_eq_true rfl) (fun hT hav => ?_)
  have hr_a : -2147483648 ≤ a ∧ a ≤ 2147483647 := hav (vI a) (List.mem_cons_of_mem _ List.mem_cons_self)
  have hr_b : -2147483648 ≤ b ∧ b ≤ 2147483647 := hav (vI b) (List.mem_cons_of_mem _ (List.mem_cons_of_mem _ List.mem_cons_self))
  have hz : zX11_shareClub.2.2.2.1 = some .boolean → ∀ (T' : Zt) (x : Int), po_X11_shareClub_f T a b T' (some (vI x)) → 0 ≤ x ∧ x ≤ 1 := fun _ T' x h => by obtain ⟨-, y, e, hy⟩ := h; cases e; omega
  show J_ zX11_shareClub T (po_X11_shareClub_f T a b) 0 0 0 [some (vR 111 0), some (vI a), some (vI b)] [] T
  refine j_blx (F := fX11) tb_X11 (nn_ _) bk_X11_shareClub_f_0 bs_X11_shareClub_f_0 hz (fun K hK => ?_)
  refine ix_i (by omega) ?_
  intro b1 b1b
  refine ix_i (by omega) ?_
  intro b2 b2b
  refine And.intro (fun c3 => ?_) (fun c3 => ?_)
  · refine hK 60 _ [] T ?_
    refine j_blx (F := fX11) tb_X11 (nn_ _) bk_X11_shareClub_f_60 bs_X11_shareClub_f_60 hz (fun K hK => ?_)
    refine hK 65 _ [vI 1] T ?_
    refine j_blx (F := fX11) tb_X11 (nn_ _) bk_X11_shareClub_f_65 bs_X11_shareClub_f_65 hz (fun K hK => ?_)
    refine (show po_X11_shareClub_f T a b T (some (vI 1)) from ?_)
    exact ⟨rfl, _, rfl, Or.inl ⟨rfl, by omega⟩⟩
  · refine ix_i (by omega) ?_
    intro b4 b4b
    refine ix_i (by omega) ?_
    intro b5 b5b
    refine And.intro (fun c6 => ?_) (fun c6 => ?_)
    · refine hK 60 _ [] T ?_
      refine j_blx (F := fX11) tb_X11 (nn_ _) bk_X11_shareClub_f_60 bs_X11_shareClub_f_60 hz (fun K hK => ?_)
      refine hK 65 _ [vI 1] T ?_
      refine j_blx (F := fX11) tb_X11 (nn_ _) bk_X11_shareClub_f_65 bs_X11_shareClub_f_65 hz (fun K hK => ?_)
      refine (show po_X11_shareClub_f T a b T (some (vI 1)) from ?_)
      exact ⟨rfl, _, rfl, Or.inl ⟨rfl, by omega⟩⟩
    · refine ix_i (by omega) ?_
      intro b7 b7b
      refine ix_i (by omega) ?_
      intro b8 b8b
      refine And.intro (fun c9 => ?_) (fun c9 => ?_)
      · refine hK 60 _ [] T ?_
        refine j_blx (F := fX11) tb_X11 (nn_ _) bk_X11_shareClub_f_60 bs_X11_shareClub_f_60 hz (fun K hK => ?_)
        refine hK 65 _ [vI 1] T ?_
        refine j_blx (F := fX11) tb_X11 (nn_ _) bk_X11_shareClub_f_65 bs_X11_shareClub_f_65 hz (fun K hK => ?_)
        refine (show po_X11_shareClub_f T a b T (some (vI 1)) from ?_)
        exact ⟨rfl, _, rfl, Or.inl ⟨rfl, by omega⟩⟩
      · refine ix_i (by omega) ?_
        intro b10 b10b
        refine ix_i (by omega) ?_
        intro b11 b11b
        refine And.intro (fun c12 => ?_) (fun c12 => ?_)
        · refine hK 64 _ [] T ?_
          refine j_blx (F := fX11) tb_X11 (nn_ _) bk_X11_shareClub_f_64 bs_X11_shareClub_f_64 hz (fun K hK => ?_)
          refine (show po_X11_shareClub_f T a b T (some (vI 0)) from ?_)
          exact ⟨rfl, _, rfl, Or.inr ⟨rfl, by omega⟩⟩
        · refine hK 65 _ [vI 1] T ?_
          refine j_blx (F := fX11) tb_X11 (nn_ _) bk_X11_shareClub_f_65 bs_X11_shareClub_f_65 hz (fun K hK => ?_)
          refine (show po_X11_shareClub_f T a b T (some (vI 1)) from ?_)
          exact ⟨rfl, _, rfl, Or.inl ⟨rfl, by omega⟩⟩
theorem bk_X11_standAgainst_f_126 : ck_ fX11 (some .boolean) cX11_standAgainst 126 [.istore 4, .iload 4, .iload 3, .if_icmp .ge 143, .aload 0, .iload 1, .iload 2] 137 = true := qck_r (nn_ _) (by decide +kernel)
theorem bs_X11_standAgainst_f_126 {P : Zt → Option Zv → Prop} (K : Int → Zl → List Zv → Zt → Prop) : sx_ K P [.istore 4, .iload 4, .iload 3, .if_icmp .ge 143, .aload 0, .iload 1, .iload 2] 137 = x_istore 4 (x_iload 4 (x_iload 3 (x_if_icmp .ge 143 K (x_aload 0 (x_iload 1 (x_iload 2 (K 137))))))) := ((xe_istore 4).trans (congrArg (x_istore 4) ((xe_iload 4).trans (congrArg (x_iload 4) ((xe_iload 3).trans (congrArg (x_iload 3) ((xe_if_icmp .ge 143).trans (congrArg (x_if_icmp .ge 143 K) ((xe_aload 0).trans (congrArg (x_aload 0) ((xe_iload 1).trans (congrArg (x_iload 1) ((xe_iload 2).trans (congrArg (x_iload 2) xe_nil))))))))))))))
theorem bk_X11_standAgainst_f_143 : ck_ fX11 (some .boolean) cX11_standAgainst 143 [.iload 4, .ifCond .ne 177, .aload 0, .tableswitch 0 11 13 #[], .aload 0, .tableswitch 0 11 32 #[], .iload 1, .iaload, .iaload, .aload 0, .tableswitch 0 11 13 #[], .aload 0, .tableswitch 0 11 32 #[], .iload 2, .iaload, .iaload, .if_icmp .ne 177, .iconst 1, .goto 178] 177 = true := qck_r (nn_ _) (by decide +kernel)
theorem bs_X11_standAgainst_f_143 {P : Zt → Option Zv → Prop} (K : Int → Zl → List Zv → Zt → Prop) : sx_ K P [.iload 4, .ifCond .ne 177, .aload 0, .tableswitch 0 11 13 #[], .aload 0, .tableswitch 0 11 32 #[], .iload 1, .iaload, .iaload, .aload 0, .tableswitch 0 11 13 #[], .aload 0, .tableswitch 0 11 32 #[], .iload 2, .iaload, .iaload, .if_icmp .ne 177, .iconst 1, .goto 178] 177 = x_iload 4 (x_ifCond .ne 177 K (x_aload 0 (x_g1 111 213 (x_aload 0 (x_g1 111 232 (x_iload 1 (x_iaload (x_iaload (x_aload 0 (x_g1 111 213 (x_aload 0 (x_g1 111 232 (x_iload 2 (x_iaload (x_iaload (x_if_icmp .ne 177 K (x_iconst 1 (x_goto 178 K)))))))))))))))))) := ((xe_iload 4).trans (congrArg (x_iload 4) ((xe_ifCond .ne 177).trans (congrArg (x_ifCond .ne 177 K) ((xe_aload 0).trans (congrArg (x_aload 0) ((xe_g1 (kk := 111) rfl tl_11_13).trans (congrArg (x_g1 111 213) ((xe_aload 0).trans (congrArg (x_aload 0) ((xe_g1 (kk := 111) rfl tl_11_32).trans (congrArg (x_g1 111 232) ((xe_iload 1).trans (congrArg (x_iload 1) ((xe_iaload).trans (congrArg (x_iaload) ((xe_iaload).trans (congrArg (x_iaload) ((xe_aload 0).trans (congrArg (x_aload 0) ((xe_g1 (kk := 111) rfl tl_11_13).trans (congrArg (x_g1 111 213) ((xe_aload 0).trans (congrArg (x_aload 0) ((xe_g1 (kk := 111) rfl tl_11_32).trans (congrArg (x_g1 111 232) ((xe_iload 2).trans (congrArg (x_iload 2) ((xe_iaload).trans (congrArg (x_iaload) ((xe_iaload).trans (congrArg (x_iaload) ((xe_if_icmp .ne 177).trans (congrArg (x_if_icmp .ne 177 K) ((xe_iconst 1).trans (congrArg (x_iconst 1) (xe_goto 178)))))))))))))))))))))))))))))))))))))
theorem bk_X11_standAgainst_f_177 : ck_ fX11 (some .boolean) cX11_standAgainst 177 [.iconst 0, .ireturn] 179 = true := qck_r (nn_ _) (by decide +kernel)
theorem bs_X11_standAgainst_f_177 {P : Zt → Option Zv → Prop} (K : Int → Zl → List Zv → Zt → Prop) : sx_ K P [.iconst 0, .ireturn] 179 = x_iconst 0 (x_ireturn P) := ((xe_iconst 0).trans (congrArg (x_iconst 0) (xe_ireturn)))
theorem bk_X11_standAgainst_f_178 : ck_ fX11 (some .boolean) cX11_standAgainst 178 [.ireturn] 179 = true := qck_r (nn_ _) (by decide +kernel)
theorem bs_X11_standAgainst_f_178 {P : Zt → Option Zv → Prop} (K : Int → Zl → List Zv → Zt → Prop) : sx_ K P [.ireturn] 179 = x_ireturn P := (xe_ireturn)
theorem bk_X11_standAgainst_f_140 : ck_ fX11 (some .boolean) cX11_standAgainst 140 [.ifCond .ne 173, .iload 4, .ifCond .ne 177, .aload 0, .tableswitch 0 11 13 #[], .aload 0, .tableswitch 0 11 32 #[], .iload 1, .iaload, .iaload, .aload 0, .tableswitch 0 11 13 #[], .aload 0, .tableswitch 0 11 32 #[], .iload 2, .iaload, .iaload, .if_icmp .ne 177, .iconst 1, .goto 178] 177 = true := qck_r (nn_ _) (by decide +kernel)
theorem bs_X11_standAgainst_f_140 {P : Zt → Option Zv → Prop} (K : Int → Zl → List Zv → Zt → Prop) : sx_ K P [.ifCond .ne 173, .iload 4, .ifCond .ne 177, .aload 0, .tableswitch 0 11 13 #[], .aload 0, .tableswitch 0 11 32 #[], .iload 1, .iaload, .iaload, .aload 0, .tableswitch 0 11 13 #[], .aload 0, .tableswitch 0 11 32 #[], .iload 2, .iaload, .iaload, .if_icmp .ne 177, .iconst 1, .goto 178] 177 = x_ifCond .ne 173 K (x_iload 4 (x_ifCond .ne 177 K (x_aload 0 (x_g1 111 213 (x_aload 0 (x_g1 111 232 (x_iload 1 (x_iaload (x_iaload (x_aload 0 (x_g1 111 213 (x_aload 0 (x_g1 111 232 (x_iload 2 (x_iaload (x_iaload (x_if_icmp .ne 177 K (x_iconst 1 (x_goto 178 K))))))))))))))))))) := ((xe_ifCond .ne 173).trans (congrArg (x_ifCond .ne 173 K) ((xe_iload 4).trans (congrArg (x_iload 4) ((xe_ifCond .ne 177).trans (congrArg (x_ifCond .ne 177 K) ((xe_aload 0).trans (congrArg (x_aload 0) ((xe_g1 (kk := 111) rfl tl_11_13).trans (congrArg (x_g1 111 213) ((xe_aload 0).trans (congrArg (x_aload 0) ((xe_g1 (kk := 111) rfl tl_11_32).trans (congrArg (x_g1 111 232) ((xe_iload 1).trans (congrArg (x_iload 1) ((xe_iaload).trans (congrArg (x_iaload) ((xe_iaload).trans (congrArg (x_iaload) ((xe_aload 0).trans (congrArg (x_aload 0) ((xe_g1 (kk := 111) rfl tl_11_13).trans (congrArg (x_g1 111 213) ((xe_aload 0).trans (congrArg (x_aload 0) ((xe_g1 (kk := 111) rfl tl_11_32).trans (congrArg (x_g1 111 232) ((xe_iload 2).trans (congrArg (x_iload 2) ((xe_iaload).trans (congrArg (x_iaload) ((xe_iaload).trans (congrArg (x_iaload) ((xe_if_icmp .ne 177).trans (congrArg (x_if_icmp .ne 177 K) ((xe_iconst 1).trans (congrArg (x_iconst 1) (xe_goto 178)))))))))))))))))))))))))))))))))))))))
theorem bk_X11_standAgainst_f_173 : ck_ fX11 (some .boolean) cX11_standAgainst 173 [.iconst 1, .goto 178] 177 = true := qck_r (nn_ _) (by decide +kernel)
theorem bs_X11_standAgainst_f_173 {P : Zt → Option Zv → Prop} (K : Int → Zl → List Zv → Zt → Prop) : sx_ K P [.iconst 1, .goto 178] 177 = x_iconst 1 (x_goto 178 K) := ((xe_iconst 1).trans (congrArg (x_iconst 1) (xe_goto 178)))
theorem bk_X11_standAgainst_f_81 : ck_ fX11 (some .boolean) cX11_standAgainst 81 [.istore 3, .aload 0, .tableswitch 0 11 34 #[], .iload 1, .iaload, .aload 0, .tableswitch 0 11 34 #[], .iload 2, .iaload, .if_icmp .le 113, .aload 0, .tableswitch 0 11 34 #[], .iload 1, .iaload, .aload 0, .tableswitch 0 11 34 #[], .iload 2, .iaload, .isub, .goto 126] 113 = true := qck_r (nn_ _) (by decide +kernel)
theorem bs_X11_standAgainst_f_81 {P : Zt → Option Zv → Prop} (K : Int → Zl → List Zv → Zt → Prop) : sx_ K P [.istore 3, .aload 0, .tableswitch 0 11 34 #[], .iload 1, .iaload, .aload 0, .tableswitch 0 11 34 #[], .iload 2, .iaload, .if_icmp .le 113, .aload 0, .tableswitch 0 11 34 #[], .iload 1, .iaload, .aload 0, .tableswitch 0 11 34 #[], .iload 2, .iaload, .isub, .goto 126] 113 = x_istore 3 (x_aload 0 (x_g1 111 234 (x_iload 1 (x_iaload (x_aload 0 (x_g1 111 234 (x_iload 2 (x_iaload (x_if_icmp .le 113 K (x_aload 0 (x_g1 111 234 (x_iload 1 (x_iaload (x_aload 0 (x_g1 111 234 (x_iload 2 (x_iaload (x_isub (x_goto 126 K))))))))))))))))))) := ((xe_istore 3).trans (congrArg (x_istore 3) ((xe_aload 0).trans (congrArg (x_aload 0) ((xe_g1 (kk := 111) rfl tl_11_34).trans (congrArg (x_g1 111 234) ((xe_iload 1).trans (congrArg (x_iload 1) ((xe_iaload).trans (congrArg (x_iaload) ((xe_aload 0).trans (congrArg (x_aload 0) ((xe_g1 (kk := 111) rfl tl_11_34).trans (congrArg (x_g1 111 234) ((xe_iload 2).trans (congrArg (x_iload 2) ((xe_iaload).trans (congrArg (x_iaload) ((xe_if_icmp .le 113).trans (congrArg (x_if_icmp .le 113 K) ((xe_aload 0).trans (congrArg (x_aload 0) ((xe_g1 (kk := 111) rfl tl_11_34).trans (congrArg (x_g1 111 234) ((xe_iload 1).trans (congrArg (x_iload 1) ((xe_iaload).trans (congrArg (x_iaload) ((xe_aload 0).trans (congrArg (x_aload 0) ((xe_g1 (kk := 111) rfl tl_11_34).trans (congrArg (x_g1 111 234) ((xe_iload 2).trans (congrArg (x_iload 2) ((xe_iaload).trans (congrArg (x_iaload) ((xe_isub).trans (congrArg (x_isub) (xe_goto 126)))))))))))))))))))))))))))))))))))))))
theorem bk_X11_standAgainst_f_113 : ck_ fX11 (some .boolean) cX11_standAgainst 113 [.aload 0, .tableswitch 0 11 34 #[], .iload 2, .iaload, .aload 0, .tableswitch 0 11 34 #[], .iload 1, .iaload, .isub] 126 = true := qck_r (nn_ _) (by decide +kernel)
theorem bs_X11_standAgainst_f_113 {P : Zt → Option Zv → Prop} (K : Int → Zl → List Zv → Zt → Prop) : sx_ K P [.aload 0, .tableswitch 0 11 34 #[], .iload 2, .iaload, .aload 0, .tableswitch 0 11 34 #[], .iload 1, .iaload, .isub] 126 = x_aload 0 (x_g1 111 234 (x_iload 2 (x_iaload (x_aload 0 (x_g1 111 234 (x_iload 1 (x_iaload (x_isub (K 126))))))))) := ((xe_aload 0).trans (congrArg (x_aload 0) ((xe_g1 (kk := 111) rfl tl_11_34).trans (congrArg (x_g1 111 234) ((xe_iload 2).trans (congrArg (x_iload 2) ((xe_iaload).trans (congrArg (x_iaload) ((xe_aload 0).trans (congrArg (x_aload 0) ((xe_g1 (kk := 111) rfl tl_11_34).trans (congrArg (x_g1 111 234) ((xe_iload 1).trans (congrArg (x_iload 1) ((xe_iaload).trans (congrArg (x_iaload) ((xe_isub).trans (congrArg (x_isub) xe_nil))))))))))))))))))
theorem bk_X11_standAgainst_f_0 : ck_ fX11 (some .boolean) cX11_standAgainst 0 [.iload 1, .iload 2, .if_icmp .eq 25, .aload 0, .tableswitch 0 11 35 #[], .iload 1, .iaload, .iconst 3, .if_icmp .eq 25, .aload 0, .tableswitch 0 11 35 #[], .iload 2, .iaload, .iconst 3, .if_icmp .ne 27, .iconst 0, .ireturn] 27 = true := qck_r (nn_ _) (by decide +kernel)
theorem bs_X11_standAgainst_f_0 {P : Zt → Option Zv → Prop} (K : Int → Zl → List Zv → Zt → Prop) : sx_ K P [.iload 1, .iload 2, .if_icmp .eq 25, .aload 0, .tableswitch 0 11 35 #[], .iload 1, .iaload, .iconst 3, .if_icmp .eq 25, .aload 0, .tableswitch 0 11 35 #[], .iload 2, .iaload, .iconst 3, .if_icmp .ne 27, .iconst 0, .ireturn] 27 = x_iload 1 (x_iload 2 (x_if_icmp .eq 25 K (x_aload 0 (x_g1 111 235 (x_iload 1 (x_iaload (x_iconst 3 (x_if_icmp .eq 25 K (x_aload 0 (x_g1 111 235 (x_iload 2 (x_iaload (x_iconst 3 (x_if_icmp .ne 27 K (x_iconst 0 (x_ireturn P)))))))))))))))) := ((xe_iload 1).trans (congrArg (x_iload 1) ((xe_iload 2).trans (congrArg (x_iload 2) ((xe_if_icmp .eq 25).trans (congrArg (x_if_icmp .eq 25 K) ((xe_aload 0).trans (congrArg (x_aload 0) ((xe_g1 (kk := 111) rfl tl_11_35).trans (congrArg (x_g1 111 235) ((xe_iload 1).trans (congrArg (x_iload 1) ((xe_iaload).trans (congrArg (x_iaload) ((xe_iconst 3).trans (congrArg (x_iconst 3) ((xe_if_icmp .eq 25).trans (congrArg (x_if_icmp .eq 25 K) ((xe_aload 0).trans (congrArg (x_aload 0) ((xe_g1 (kk := 111) rfl tl_11_35).trans (congrArg (x_g1 111 235) ((xe_iload 2).trans (congrArg (x_iload 2) ((xe_iaload).trans (congrArg (x_iaload) ((xe_iconst 3).trans (congrArg (x_iconst 3) ((xe_if_icmp .ne 27).trans (congrArg (x_if_icmp .ne 27 K) ((xe_iconst 0).trans (congrArg (x_iconst 0) (xe_ireturn)))))))))))))))))))))))))))))))))
theorem bk_X11_standAgainst_f_25 : ck_ fX11 (some .boolean) cX11_standAgainst 25 [.iconst 0, .ireturn] 27 = true := qck_r (nn_ _) (by decide +kernel)
theorem bs_X11_standAgainst_f_25 {P : Zt → Option Zv → Prop} (K : Int → Zl → List Zv → Zt → Prop) : sx_ K P [.iconst 0, .ireturn] 27 = x_iconst 0 (x_ireturn P) := ((xe_iconst 0).trans (congrArg (x_iconst 0) (xe_ireturn)))
theorem bk_X11_standAgainst_f_27 : ck_ fX11 (some .boolean) cX11_standAgainst 27 [.aload 0, .aload 0, .tableswitch 0 11 30 #[], .iload 1, .iaload, .iconst 8] 36 = true := qck_r (nn_ _) (by decide +kernel)
theorem bs_X11_standAgainst_f_27 {P : Zt → Option Zv → Prop} (K : Int → Zl → List Zv → Zt → Prop) : sx_ K P [.aload 0, .aload 0, .tableswitch 0 11 30 #[], .iload 1, .iaload, .iconst 8] 36 = x_aload 0 (x_aload 0 (x_g1 111 230 (x_iload 1 (x_iaload (x_iconst 8 (K 36)))))) := ((xe_aload 0).trans (congrArg (x_aload 0) ((xe_aload 0).trans (congrArg (x_aload 0) ((xe_g1 (kk := 111) rfl tl_11_30).trans (congrArg (x_g1 111 230) ((xe_iload 1).trans (congrArg (x_iload 1) ((xe_iaload).trans (congrArg (x_iaload) ((xe_iconst 8).trans (congrArg (x_iconst 8) xe_nil))))))))))))
theorem bk_X11_standAgainst_f_39 : ck_ fX11 (some .boolean) cX11_standAgainst 39 [.aload 0, .aload 0, .tableswitch 0 11 30 #[], .iload 2, .iaload, .iconst 8] 48 = true := qck_r (nn_ _) (by decide +kernel)
theorem bs_X11_standAgainst_f_39 {P : Zt → Option Zv → Prop} (K : Int → Zl → List Zv → Zt → Prop) : sx_ K P [.aload 0, .aload 0, .tableswitch 0 11 30 #[], .iload 2, .iaload, .iconst 8] 48 = x_aload 0 (x_aload 0 (x_g1 111 230 (x_iload 2 (x_iaload (x_iconst 8 (K 48)))))) := ((xe_aload 0).trans (congrArg (x_aload 0) ((xe_aload 0).trans (congrArg (x_aload 0) ((xe_g1 (kk := 111) rfl tl_11_30).trans (congrArg (x_g1 111 230) ((xe_iload 2).trans (congrArg (x_iload 2) ((xe_iaload).trans (congrArg (x_iaload) ((xe_iconst 8).trans (congrArg (x_iconst 8) xe_nil))))))))))))
theorem bk_X11_standAgainst_f_51 : ck_ fX11 (some .boolean) cX11_standAgainst 51 [.if_icmp .le 69, .aload 0, .aload 0, .tableswitch 0 11 30 #[], .iload 1, .iaload, .iconst 8] 63 = true := qck_r (nn_ _) (by decide +kernel)
theorem bs_X11_standAgainst_f_51 {P : Zt → Option Zv → Prop} (K : Int → Zl → List Zv → Zt → Prop) : sx_ K P [.if_icmp .le 69, .aload 0, .aload 0, .tableswitch 0 11 30 #[], .iload 1, .iaload, .iconst 8] 63 = x_if_icmp .le 69 K (x_aload 0 (x_aload 0 (x_g1 111 230 (x_iload 1 (x_iaload (x_iconst 8 (K 63))))))) := ((xe_if_icmp .le 69).trans (congrArg (x_if_icmp .le 69 K) ((xe_aload 0).trans (congrArg (x_aload 0) ((xe_aload 0).trans (congrArg (x_aload 0) ((xe_g1 (kk := 111) rfl tl_11_30).trans (congrArg (x_g1 111 230) ((xe_iload 1).trans (congrArg (x_iload 1) ((xe_iaload).trans (congrArg (x_iaload) ((xe_iconst 8).trans (congrArg (x_iconst 8) xe_nil))))))))))))))
theorem bk_X11_standAgainst_f_69 : ck_ fX11 (some .boolean) cX11_standAgainst 69 [.aload 0, .aload 0, .tableswitch 0 11 30 #[], .iload 2, .iaload, .iconst 8] 78 = true := qck_r (nn_ _) (by decide +kernel)
theorem bs_X11_standAgainst_f_69 {P : Zt → Option Zv → Prop} (K : Int → Zl → List Zv → Zt → Prop) : sx_ K P [.aload 0, .aload 0, .tableswitch 0 11 30 #[], .iload 2, .iaload, .iconst 8] 78 = x_aload 0 (x_aload 0 (x_g1 111 230 (x_iload 2 (x_iaload (x_iconst 8 (K 78)))))) := ((xe_aload 0).trans (congrArg (x_aload 0) ((xe_aload 0).trans (congrArg (x_aload 0) ((xe_g1 (kk := 111) rfl tl_11_30).trans (congrArg (x_g1 111 230) ((xe_iload 2).trans (congrArg (x_iload 2) ((xe_iaload).trans (congrArg (x_iaload) ((xe_iconst 8).trans (congrArg (x_iconst 8) xe_nil))))))))))))
theorem bk_X11_standAgainst_f_66 : ck_ fX11 (some .boolean) cX11_standAgainst 66 [.goto 81] 69 = true := qck_r (nn_ _) (by decide +kernel)
theorem bs_X11_standAgainst_f_66 {P : Zt → Option Zv → Prop} (K : Int → Zl → List Zv → Zt → Prop) : sx_ K P [.goto 81] 69 = x_goto 81 K := (xe_goto 81)
abbrev po_X11_standAgainst_f (T : Zt) (a b : Int) : Zt → Option Zv → Prop := fun T' r => T = T' ∧ ∃ x : Int, r = some (vI x) ∧ ((x = 1 ∧ SAR_ T (fun m => T 234 0 m) a b (T 234 0 a)) ∨ (x = 0 ∧ ¬ SAR_ T (fun m => T 234 0 m) a b (T 234 0 a)))
set_option maxHeartbeats 4000000 in
theorem ct_X11_standAgainst_f {T : Zt} {a b : Int} (h1 : 0 ≤ a ∧ a < 400) (h2 : 0 ≤ b ∧ b < 400) : Ct_ yX11_standAgainst zX11_standAgainst T [vR 111 0, vI a, vI b] (po_X11_standAgainst_f T a b) := by
  refine ct_of pn_11 rfl rfl (Nat.le_of_ble_eq_true rfl) (fun hT hav => ?_)
  have hr_a : -2147483648 ≤ a ∧ a ≤ 2147483647 := hav (vI a) (List.mem_cons_of_mem _ List.mem_cons_self)
  have hr_b : -2147483648 ≤ b ∧ b ≤ 2147483647 := hav (vI b) (List.mem_cons_of_mem _ (List.mem_cons_of_mem _ List.mem_cons_self))
  have hz : zX11_standAgainst.2.2.2.1 = some .boolean → ∀ (T' : Zt) (x : Int), po_X11_standAgainst_f T a b T' (some (vI x)) → 0 ≤ x ∧ x ≤ 1 := fun _ T' x h => by obtain ⟨-, y, e, hy⟩ := h; cases e; omega
  show J_ zX11_standAgainst T (po_X11_standAgainst_f T a b) 0 0 0 [some (vR 111 0), some (vI a), some (vI b), none, none] [] T
  have c_81 : ∀ (rs : Int), (a ≠ b ∧ T 235 0 a ≠ 3 ∧ T 235 0 b ≠ 3) → ((rs = T 205 0 (23 * T 230 0 a + 8) ∨ rs = T 205 0 (23 * T 230 0 b + 8)) ∧ T 205 0 (23 * T 230 0 a + 8) ≤ rs ∧ T 205 0 (23 * T 230 0 b + 8) ≤ rs) → J_ zX11_standAgainst T (po_X11_standAgainst_f T a b) 0 0 81 [some (vR 111 0), some (vI a), some (vI b), none, none] [vI rs] T := by
    intro rs r0 r1
    have c_126 : ∀ (fa : Int), ((fa = T 234 0 a - T 234 0 b ∨ fa = T 234 0 b - T 234 0 a) ∧ 0 ≤ fa) → J_ zX11_standAgainst T (po_X11_standAgainst_f T a b) 0 0 126 [some (vR 111 0), some (vI a), some (vI b), some (vI rs), none] [vI fa] T := by
      intro fa f1
      refine j_blx (F := fX11) tb_X11 (nn_ _) bk_X11_standAgainst_f_126 bs_X11_standAgainst_f_126 hz (fun K hK => ?_)
      refine And.intro (fun c1 => ?_) (fun c1 => ?_)
      · refine hK 143 [some (vR 111 0), some (vI a), some (vI b), some (vI rs), some (vI fa)] [] T ?_
        refine j_blx (F := fX11) tb_X11 (nn_ _) bk_X11_standAgainst_f_143 bs_X11_standAgainst_f_143 hz (fun K hK => ?_)
        refine And.intro (fun c2 => ?_) (fun c2 => ?_)
        · refine hK 177 _ [] T ?_
          refine j_blx (F := fX11) tb_X11 (nn_ _) bk_X11_standAgainst_f_177 bs_X11_standAgainst_f_177 hz (fun K hK => ?_)
          refine (show po_X11_standAgainst_f T a b T (some (vI 0)) from ?_)
          exact ⟨rfl, _, rfl, Or.inr ⟨rfl, by unfold SAR_ SAG_ sqR_ hqR_ rsR_ abR_; dsimp only; omega⟩⟩
        · refine ix_i (by omega) ?_
          intro b3 b3b
          refine ix_i (by omega) ?_
          intro b4 b4b
          refine ix_i (by omega) ?_
          intro b5 b5b
          refine ix_i (by omega) ?_
          intro b6 b6b
          refine And.intro (fun c7 => ?_) (fun c7 => ?_)
          · refine hK 177 _ [] T ?_
            refine j_blx (F := fX11) tb_X11 (nn_ _) bk_X11_standAgainst_f_177 bs_X11_standAgainst_f_177 hz (fun K hK => ?_)
            refine (show po_X11_standAgainst_f T a b T (some (vI 0)) from ?_)
            exact ⟨rfl, _, rfl, Or.inr ⟨rfl, by unfold SAR_ SAG_ sqR_ hqR_ rsR_ abR_; dsimp only; omega⟩⟩
          · refine hK 178 _ [vI 1] T ?_
            refine j_blx (F := fX11) tb_X11 (nn_ _) bk_X11_standAgainst_f_178 bs_X11_standAgainst_f_178 hz (fun K hK => ?_)
            refine (show po_X11_standAgainst_f T a b T (some (vI 1)) from ?_)
            exact ⟨rfl, _, rfl, Or.inl ⟨rfl, by unfold SAR_ SAG_ sqR_ hqR_ rsR_ abR_; dsimp only; omega⟩⟩
      · refine hK 137 _ [vI b, vI a, vR 111 0] T ?_
        refine j_callV (y := yX11_shareClub) (Yc := zX11_shareClub) (rest := []) [vI a, vI b] (ct_X11_shareClub_f (T := T) (by omega) (by omega)) cl_X11_350 (qd_c (by decide +kernel)) (nn_ _) rfl (rf_of rfl) (Nat.le_of_ble_eq_true rfl) (Nat.le_of_ble_eq_true rfl) (Nat.le_of_ble_eq_true rfl) rfl ?_
        rintro _ _ ⟨rfl, x8, rfl, hx8⟩
        show J_ zX11_standAgainst T (po_X11_standAgainst_f T a b) 0 0 140 _ [vI x8] T
        refine j_blx (F := fX11) tb_X11 (nn_ _) bk_X11_standAgainst_f_140 bs_X11_standAgainst_f_140 hz (fun K hK => ?_)
        refine And.intro (fun c9 => ?_) (fun c9 => ?_)
        · replace hx8 := hx8.resolve_right (fun z => c9 z.1)
          clear c9
          refine hK 173 _ [] T ?_
          refine j_blx (F := fX11) tb_X11 (nn_ _) bk_X11_standAgainst_f_173 bs_X11_standAgainst_f_173 hz (fun K hK => ?_)
          refine hK 178 _ [vI 1] T ?_
          refine j_blx (F := fX11) tb_X11 (nn_ _) bk_X11_standAgainst_f_178 bs_X11_standAgainst_f_178 hz (fun K hK => ?_)
          refine (show po_X11_standAgainst_f T a b T (some (vI 1)) from ?_)
          exact ⟨rfl, _, rfl, Or.inl ⟨rfl, by unfold SAR_ SAG_ sqR_ hqR_ rsR_ abR_; dsimp only; omega⟩⟩
        · replace hx8 := hx8.resolve_left (fun z => absurd (c9.symm.trans z.1) (by decide))
          clear c9
          refine And.intro (fun c10 => ?_) (fun c10 => ?_)
          · refine hK 177 _ [] T ?_
            refine j_blx (F := fX11) tb_X11 (nn_ _) bk_X11_standAgainst_f_177 bs_X11_standAgainst_f_177 hz (fun K hK => ?_)
            refine (show po_X11_standAgainst_f T a b T (some (vI 0)) from ?_)
            exact ⟨rfl, _, rfl, Or.inr ⟨rfl, by unfold SAR_ SAG_ sqR_ hqR_ rsR_ abR_; dsimp only; omega⟩⟩
          · refine ix_i (by omega) ?_
            intro b11 b11b
            refine ix_i (by omega) ?_
            intro b12 b12b
            refine ix_i (by omega) ?_
            intro b13 b13b
            refine ix_i (by omega) ?_
            intro b14 b14b
            refine And.intro (fun c15 => ?_) (fun c15 => ?_)
            · refine hK 177 _ [] T ?_
              refine j_blx (F := fX11) tb_X11 (nn_ _) bk_X11_standAgainst_f_177 bs_X11_standAgainst_f_177 hz (fun K hK => ?_)
              refine (show po_X11_standAgainst_f T a b T (some (vI 0)) from ?_)
              exact ⟨rfl, _, rfl, Or.inr ⟨rfl, by unfold SAR_ SAG_ sqR_ hqR_ rsR_ abR_; dsimp only; omega⟩⟩
            · refine hK 178 _ [vI 1] T ?_
              refine j_blx (F := fX11) tb_X11 (nn_ _) bk_X11_standAgainst_f_178 bs_X11_standAgainst_f_178 hz (fun K hK => ?_)
              refine (show po_X11_standAgainst_f T a b T (some (vI 1)) from ?_)
              exact ⟨rfl, _, rfl, Or.inl ⟨rfl, by unfold SAR_ SAG_ sqR_ hqR_ rsR_ abR_; dsimp only; omega⟩⟩
    refine j_blx (F := fX11) tb_X11 (nn_ _) bk_X11_standAgainst_f_81 bs_X11_standAgainst_f_81 hz (fun K hK => ?_)
    refine ix_i (by omega) ?_
    intro b16 b16b
    refine ix_i (by omega) ?_
    intro b17 b17b
    refine And.intro (fun c18 => ?_) (fun c18 => ?_)
    · refine hK 113 [some (vR 111 0), some (vI a), some (vI b), some (vI rs), none] [] T ?_
      refine j_blx (F := fX11) tb_X11 (nn_ _) bk_X11_standAgainst_f_113 bs_X11_standAgainst_f_113 hz (fun K hK => ?_)
      refine ix_i (by omega) ?_
      intro b19 b19b
      refine ix_i (by omega) ?_
      intro b20 b20b
      refine rg_i (by omega) ?_
      refine hK 126 _ [vI ((T 234 0 b) - (T 234 0 a))] T ?_
      refine c_126 ((T 234 0 b) - (T 234 0 a)) ?_
      · omega
    · refine ix_i (by omega) ?_
      intro b21 b21b
      refine ix_i (by omega) ?_
      intro b22 b22b
      refine rg_i (by omega) ?_
      refine hK 126 _ [vI ((T 234 0 a) - (T 234 0 b))] T ?_
      refine c_126 ((T 234 0 a) - (T 234 0 b)) ?_
      · omega
  refine j_blx (F := fX11) tb_X11 (nn_ _) bk_X11_standAgainst_f_0 bs_X11_standAgainst_f_0 hz (fun K hK => ?_)
  refine And.intro (fun c23 => ?_) (fun c23 => ?_)
  · refine hK 25 _ [] T ?_
    refine j_blx (F := fX11) tb_X11 (nn_ _) bk_X11_standAgainst_f_25 bs_X11_standAgainst_f_25 hz (fun K hK => ?_)
    refine (show po_X11_standAgainst_f T a b T (some (vI 0)) from ?_)
    exact ⟨rfl, _, rfl, Or.inr ⟨rfl, by unfold SAR_ SAG_ sqR_ hqR_ rsR_ abR_; dsimp only; omega⟩⟩
  · refine ix_i (by omega) ?_
    intro b24 b24b
    refine And.intro (fun c25 => ?_) (fun c25 => ?_)
    · refine hK 25 _ [] T ?_
      refine j_blx (F := fX11) tb_X11 (nn_ _) bk_X11_standAgainst_f_25 bs_X11_standAgainst_f_25 hz (fun K hK => ?_)
      refine (show po_X11_standAgainst_f T a b T (some (vI 0)) from ?_)
      exact ⟨rfl, _, rfl, Or.inr ⟨rfl, by unfold SAR_ SAG_ sqR_ hqR_ rsR_ abR_; dsimp only; omega⟩⟩
    · refine ix_i (by omega) ?_
      intro b26 b26b
      refine And.intro (fun c27 => ?_) (fun c27 => ?_)
      · refine hK 27 _ [] T ?_
        refine j_blx (F := fX11) tb_X11 (nn_ _) bk_X11_standAgainst_f_27 bs_X11_standAgainst_f_27 hz (fun K hK => ?_)
        refine ix_i (by omega) ?_
        intro b28 b28b
        refine hK 36 _ [vI 8, vI (T 230 0 a), vR 111 0] T ?_
        refine j_callV (y := yX11_rule0) (Yc := zX11_rule0) (rest := []) [vI (T 230 0 a), vI 8] (ct_X11_rule0 (T := T) (by omega) (by omega)) cl_X11_321 (qd_c (by decide +kernel)) (nn_ _) rfl (rf_of rfl) (Nat.le_of_ble_eq_true rfl) (Nat.le_of_ble_eq_true rfl) (Nat.le_of_ble_eq_true rfl) rfl ?_
        rintro _ _ ⟨rfl, rfl⟩
        show J_ zX11_standAgainst T (po_X11_standAgainst_f T a b) 0 0 39 _ [vI (T 205 0 (23 * (T 230 0 a) + 8))] T
        refine j_blx (F := fX11) tb_X11 (nn_ _) bk_X11_standAgainst_f_39 bs_X11_standAgainst_f_39 hz (fun K hK => ?_)
        refine ix_i (by omega) ?_
        intro b29 b29b
        refine hK 48 _ [vI 8, vI (T 230 0 b), vR 111 0, vI (T 205 0 (23 * (T 230 0 a) + 8))] T ?_
        refine j_callV (y := yX11_rule0) (Yc := zX11_rule0) (rest := [vI (T 205 0 (23 * (T 230 0 a) + 8))]) [vI (T 230 0 b), vI 8] (ct_X11_rule0 (T := T) (by omega) (by omega)) cl_X11_321 (qd_c (by decide +kernel)) (nn_ _) rfl (rf_of rfl) (Nat.le_of_ble_eq_true rfl) (Nat.le_of_ble_eq_true rfl) (Nat.le_of_ble_eq_true rfl) rfl ?_
        rintro _ _ ⟨rfl, rfl⟩
        show J_ zX11_standAgainst T (po_X11_standAgainst_f T a b) 0 0 51 _ [vI (T 205 0 (23 * (T 230 0 b) + 8)), vI (T 205 0 (23 * (T 230 0 a) + 8))] T
        refine j_blx (F := fX11) tb_X11 (nn_ _) bk_X11_standAgainst_f_51 bs_X11_standAgainst_f_51 hz (fun K hK => ?_)
        refine And.intro (fun c30 => ?_) (fun c30 => ?_)
        · refine hK 69 _ [] T ?_
          refine j_blx (F := fX11) tb_X11 (nn_ _) bk_X11_standAgainst_f_69 bs_X11_standAgainst_f_69 hz (fun K hK => ?_)
          refine ix_i (by omega) ?_
          intro b31 b31b
          refine hK 78 _ [vI 8, vI (T 230 0 b), vR 111 0] T ?_
          refine j_callV (y := yX11_rule0) (Yc := zX11_rule0) (rest := []) [vI (T 230 0 b), vI 8] (ct_X11_rule0 (T := T) (by omega) (by omega)) cl_X11_321 (qd_c (by decide +kernel)) (nn_ _) rfl (rf_of rfl) (Nat.le_of_ble_eq_true rfl) (Nat.le_of_ble_eq_true rfl) (Nat.le_of_ble_eq_true rfl) rfl ?_
          rintro _ _ ⟨rfl, rfl⟩
          show J_ zX11_standAgainst T (po_X11_standAgainst_f T a b) 0 0 81 _ [vI (T 205 0 (23 * (T 230 0 b) + 8))] T
          refine c_81 (T 205 0 (23 * (T 230 0 b) + 8)) ?_ ?_
          · omega
          · omega
        · refine ix_i (by omega) ?_
          intro b32 b32b
          refine hK 63 _ [vI 8, vI (T 230 0 a), vR 111 0] T ?_
          refine j_callV (y := yX11_rule0) (Yc := zX11_rule0) (rest := []) [vI (T 230 0 a), vI 8] (ct_X11_rule0 (T := T) (by omega) (by omega)) cl_X11_321 (qd_c (by decide +kernel)) (nn_ _) rfl (rf_of rfl) (Nat.le_of_ble_eq_true rfl) (Nat.le_of_ble_eq_true rfl) (Nat.le_of_ble_eq_true rfl) rfl ?_
          rintro _ _ ⟨rfl, rfl⟩
          show J_ zX11_standAgainst T (po_X11_standAgainst_f T a b) 0 0 66 _ [vI (T 205 0 (23 * (T 230 0 a) + 8))] T
          refine j_blx (F := fX11) tb_X11 (nn_ _) bk_X11_standAgainst_f_66 bs_X11_standAgainst_f_66 hz (fun K hK => ?_)
          refine hK 81 _ [vI (T 205 0 (23 * (T 230 0 a) + 8))] T ?_
          refine c_81 (T 205 0 (23 * (T 230 0 a) + 8)) ?_ ?_
          · omega
          · omega
      · refine (show po_X11_standAgainst_f T a b T (some (vI 0)) from ?_)
        exact ⟨rfl, _, rfl, Or.inr ⟨rfl, by unfold SAR_ SAG_ sqR_ hqR_ rsR_ abR_; dsimp only; omega⟩⟩
theorem bk_X11_nothingAgainst_f_4 : ck_ fX11 (some .boolean) cX11_nothingAgainst 4 [.iload 3, .aload 0, .tableswitch 0 11 29 #[], .if_icmp .ge 37, .iload 2, .ifCond .eq 37, .aload 0, .iload 1, .iload 3] 19 = true := qck_r (nn_ _) (by decide +kernel)
theorem bs_X11_nothingAgainst_f_4 {P : Zt → Option Zv → Prop} (K : Int → Zl → List Zv → Zt → Prop) : sx_ K P [.iload 3, .aload 0, .tableswitch 0 11 29 #[], .if_icmp .ge 37, .iload 2, .ifCond .eq 37, .aload 0, .iload 1, .iload 3] 19 = x_iload 3 (x_aload 0 (x_g0 111 29 0 400 (x_if_icmp .ge 37 K (x_iload 2 (x_ifCond .eq 37 K (x_aload 0 (x_iload 1 (x_iload 3 (K 19))))))))) := ((xe_iload 3).trans (congrArg (x_iload 3) ((xe_aload 0).trans (congrArg (x_aload 0) ((xe_g0 (kk := 111) rfl tl_11_29).trans (congrArg (x_g0 111 29 0 400) ((xe_if_icmp .ge 37).trans (congrArg (x_if_icmp .ge 37 K) ((xe_iload 2).trans (congrArg (x_iload 2) ((xe_ifCond .eq 37).trans (congrArg (x_ifCond .eq 37 K) ((xe_aload 0).trans (congrArg (x_aload 0) ((xe_iload 1).trans (congrArg (x_iload 1) ((xe_iload 3).trans (congrArg (x_iload 3) xe_nil))))))))))))))))))
theorem bk_X11_nothingAgainst_f_37 : ck_ fX11 (some .boolean) cX11_nothingAgainst 37 [.iload 2, .ireturn] 39 = true := qck_r (nn_ _) (by decide +kernel)
theorem bs_X11_nothingAgainst_f_37 {P : Zt → Option Zv → Prop} (K : Int → Zl → List Zv → Zt → Prop) : sx_ K P [.iload 2, .ireturn] 39 = x_iload 2 (x_ireturn P) := ((xe_iload 2).trans (congrArg (x_iload 2) (xe_ireturn)))
theorem bk_X11_nothingAgainst_f_22 : ck_ fX11 (some .boolean) cX11_nothingAgainst 22 [.ifCond .ne 29, .iconst 1, .goto 30] 29 = true := qck_r (nn_ _) (by decide +kernel)
theorem bs_X11_nothingAgainst_f_22 {P : Zt → Option Zv → Prop} (K : Int → Zl → List Zv → Zt → Prop) : sx_ K P [.ifCond .ne 29, .iconst 1, .goto 30] 29 = x_ifCond .ne 29 K (x_iconst 1 (x_goto 30 K)) := ((xe_ifCond .ne 29).trans (congrArg (x_ifCond .ne 29 K) ((xe_iconst 1).trans (congrArg (x_iconst 1) (xe_goto 30)))))
theorem bk_X11_nothingAgainst_f_29 : ck_ fX11 (some .boolean) cX11_nothingAgainst 29 [.iconst 0, .istore 2, .iinc 3 1, .goto 4] 37 = true := qck_r (nn_ _) (by decide +kernel)
theorem bs_X11_nothingAgainst_f_29 {P : Zt → Option Zv → Prop} (K : Int → Zl → List Zv → Zt → Prop) : sx_ K P [.iconst 0, .istore 2, .iinc 3 1, .goto 4] 37 = x_iconst 0 (x_istore 2 (x_iinc 3 1 (x_goto 4 K))) := ((xe_iconst 0).trans (congrArg (x_iconst 0) ((xe_istore 2).trans (congrArg (x_istore 2) ((xe_iinc 3 1).trans (congrArg (x_iinc 3 1) (xe_goto 4)))))))
theorem bk_X11_nothingAgainst_f_30 : ck_ fX11 (some .boolean) cX11_nothingAgainst 30 [.istore 2, .iinc 3 1, .goto 4] 37 = true := qck_r (nn_ _) (by decide +kernel)
theorem bs_X11_nothingAgainst_f_30 {P : Zt → Option Zv → Prop} (K : Int → Zl → List Zv → Zt → Prop) : sx_ K P [.istore 2, .iinc 3 1, .goto 4] 37 = x_istore 2 (x_iinc 3 1 (x_goto 4 K)) := ((xe_istore 2).trans (congrArg (x_istore 2) ((xe_iinc 3 1).trans (congrArg (x_iinc 3 1) (xe_goto 4)))))
theorem bk_X11_nothingAgainst_f_0 : ck_ fX11 (some .boolean) cX11_nothingAgainst 0 [.iconst 1, .istore 2, .iconst 0, .istore 3] 4 = true := qck_r (nn_ _) (by decide +kernel)
theorem bs_X11_nothingAgainst_f_0 {P : Zt → Option Zv → Prop} (K : Int → Zl → List Zv → Zt → Prop) : sx_ K P [.iconst 1, .istore 2, .iconst 0, .istore 3] 4 = x_iconst 1 (x_istore 2 (x_iconst 0 (x_istore 3 (K 4)))) := ((xe_iconst 1).trans (congrArg (x_iconst 1) ((xe_istore 2).trans (congrArg (x_istore 2) ((xe_iconst 0).trans (congrArg (x_iconst 0) ((xe_istore 3).trans (congrArg (x_istore 3) xe_nil))))))))
abbrev po_X11_nothingAgainst_f (T : Zt) (m : Int) : Zt → Option Zv → Prop := fun T' r => T = T' ∧ ∃ x : Int, r = some (vI x) ∧ ((x = 1 ∧ ¬ BKR_ T (fun m => T 234 0 m) m (T 234 0 m)) ∨ (x = 0 ∧ BKR_ T (fun m => T 234 0 m) m (T 234 0 m)))
set_option maxHeartbeats 4000000 in
theorem ct_X11_nothingAgainst_f {T : Zt} {m : Int} (h1 : 0 ≤ m ∧ m < 400) : Ct_ yX11_nothingAgainst zX11_nothingAgainst T [vR 111 0, vI m] (po_X11_nothingAgainst_f T m) := by
  refine ct_of pn_11 rfl rfl (Nat.le_of_ble_eq_true rfl) (fun hT hav => ?_)
  have hr_m : -2147483648 ≤ m ∧ m ≤ 2147483647 := hav (vI m) (List.mem_cons_of_mem _ List.mem_cons_self)
  have hz : zX11_nothingAgainst.2.2.2.1 = some .boolean → ∀ (T' : Zt) (x : Int), po_X11_nothingAgainst_f T m T' (some (vI x)) → 0 ≤ x ∧ x ≤ 1 := fun _ T' x h => by obtain ⟨-, y, e, hy⟩ := h; cases e; rcases hy with z | z <;> (have := z.1; omega)
  have hb_29 : 0 ≤ T 111 0 29 ∧ T 111 0 29 ≤ 400 := bd_f hT 111 29 tl_11_29 0
  show J_ zX11_nothingAgainst T (po_X11_nothingAgainst_f T m) 0 0 0 [some (vR 111 0), some (vI m), none, none] [] T
  have c_4 : ∀ (nn : Nat) (no : Int) (k : Int), ((400 - k).toNat) ≤ nn → (0 ≤ k ∧ (k = 0 ∨ k ≤ T 111 0 29) ∧ 0 ≤ no ∧ no ≤ 1) → ((no = 1 ∧ (∀ j, 0 ≤ j → j < k → ¬ SAR_ T (fun m => T 234 0 m) m j (T 234 0 m))) ∨ (no = 0 ∧ BKR_ T (fun m => T 234 0 m) m (T 234 0 m))) → J_ zX11_nothingAgainst T (po_X11_nothingAgainst_f T m) 0 0 4 [some (vR 111 0), some (vI m), some (vI no), some (vI k)] [] T := by
    intro nn
    induction nn using Nat.strongRecOn with
    | _ nn ih_4 =>
      intro no k hm_4 i1 n1
      replace hm_4 := fun (_ : Unit) => hm_4
      refine j_blx (F := fX11) tb_X11 (nn_ _) bk_X11_nothingAgainst_f_4 bs_X11_nothingAgainst_f_4 hz (fun K hK => ?_)
      intro b1 b1b
      refine And.intro (fun c2 => ?_) (fun c2 => ?_)
      · refine hK 37 _ [] T ?_
        refine j_blx (F := fX11) tb_X11 (nn_ _) bk_X11_nothingAgainst_f_37 bs_X11_nothingAgainst_f_37 hz (fun K hK => ?_)
        refine (show po_X11_nothingAgainst_f T m T (some (vI no)) from ?_)
        refine ⟨rfl, _, rfl, ?_⟩
        rcases n1 with z | z
        · exact Or.inl ⟨z.1, fun ⟨j, a, b, c⟩ => z.2 j a (by omega) c⟩
        · exact Or.inr z
      · refine And.intro (fun c3 => ?_) (fun c3 => ?_)
        · refine hK 37 _ [] T ?_
          refine j_blx (F := fX11) tb_X11 (nn_ _) bk_X11_nothingAgainst_f_37 bs_X11_nothingAgainst_f_37 hz (fun K hK => ?_)
          refine (show po_X11_nothingAgainst_f T m T (some (vI no)) from ?_)
          refine ⟨rfl, _, rfl, ?_⟩
          rcases n1 with z | z
          · exact Or.inl ⟨z.1, fun ⟨j, a, b, c⟩ => z.2 j a (by omega) c⟩
          · exact Or.inr z
        · refine hK 19 _ [vI k, vI m, vR 111 0] T ?_
          refine j_callV (y := yX11_standAgainst) (Yc := zX11_standAgainst) (rest := []) [vI m, vI k] (ct_X11_standAgainst_f (T := T) (by omega) (by omega)) cl_X11_353 (qd_c (by decide +kernel)) (nn_ _) rfl (rf_of rfl) (Nat.le_of_ble_eq_true rfl) (Nat.le_of_ble_eq_true rfl) (Nat.le_of_ble_eq_true rfl) rfl ?_
          rintro _ _ ⟨rfl, x4, rfl, hx4⟩
          have bx4 : 0 ≤ x4 ∧ x4 ≤ 1 := by rcases hx4 with z | z <;> (have := z.1; omega)
          show J_ zX11_nothingAgainst T (po_X11_nothingAgainst_f T m) 0 0 22 _ [vI x4] T
          refine j_blx (F := fX11) tb_X11 (nn_ _) bk_X11_nothingAgainst_f_22 bs_X11_nothingAgainst_f_22 hz (fun K hK => ?_)
          refine And.intro (fun c5 => ?_) (fun c5 => ?_)
          · refine hK 29 _ [] T ?_
            refine j_blx (F := fX11) tb_X11 (nn_ _) bk_X11_nothingAgainst_f_29 bs_X11_nothingAgainst_f_29 hz (fun K hK => ?_)
            refine rg_i (by omega) ?_
            refine hK 4 [some (vR 111 0), some (vI m), some (vI 0), some (vI (k + 1))] [] T ?_
            refine ih_4 _ ?_ 0 (k + 1) (Nat.le_refl _) ?_ ?_
            · have hm_4 := hm_4 (); omega
            · omega
            · refine Or.inr ⟨rfl, k, by omega, by omega, ?_⟩
              rcases hx4 with y | y
              · exact y.2
              · omega
          · refine hK 30 [some (vR 111 0), some (vI m), some (vI no), some (vI k)] [vI 1] T ?_
            refine j_blx (F := fX11) tb_X11 (nn_ _) bk_X11_nothingAgainst_f_30 bs_X11_nothingAgainst_f_30 hz (fun K hK => ?_)
            refine rg_i (by omega) ?_
            refine hK 4 [some (vR 111 0), some (vI m), some (vI 1), some (vI (k + 1))] [] T ?_
            refine ih_4 _ ?_ 1 (k + 1) (Nat.le_refl _) ?_ ?_
            · have hm_4 := hm_4 (); omega
            · omega
            · refine Or.inl ⟨rfl, fun j a b c => ?_⟩
              by_cases z : j = k
              · rw [z] at c
                rcases hx4 with y | y
                · omega
                · exact y.2 c
              · exact (n1.resolve_right (fun y => by have := y.1; omega)).2 j a (by omega) c
  refine j_blx (F := fX11) tb_X11 (nn_ _) bk_X11_nothingAgainst_f_0 bs_X11_nothingAgainst_f_0 hz (fun K hK => ?_)
  refine hK 4 [some (vR 111 0), some (vI m), some (vI 1), some (vI 0)] [] T ?_
  refine c_4 _ 1 0 (Nat.le_refl _) ?_ ?_
  · omega
  · exact Or.inl ⟨rfl, fun j a b => by omega⟩
theorem bk_X11_postpone_f_259 : ck_ fX11 (some .int) cX11_postpone 259 [.iload 5, .aload 0, .tableswitch 0 11 73 #[], .if_icmp .ge 293, .aload 0, .tableswitch 0 11 34 #[], .aload 0, .tableswitch 0 11 71 #[], .iload 5, .iaload, .aload 0, .tableswitch 0 11 72 #[], .iload 5, .iaload, .iastore, .iinc 5 1, .goto 259] 293 = true := qck_r (nn_ _) (by decide +kernel)
theorem bs_X11_postpone_f_259 {P : Zt → Option Zv → Prop} (K : Int → Zl → List Zv → Zt → Prop) : sx_ K P [.iload 5, .aload 0, .tableswitch 0 11 73 #[], .if_icmp .ge 293, .aload 0, .tableswitch 0 11 34 #[], .aload 0, .tableswitch 0 11 71 #[], .iload 5, .iaload, .aload 0, .tableswitch 0 11 72 #[], .iload 5, .iaload, .iastore, .iinc 5 1, .goto 259] 293 = x_iload 5 (x_aload 0 (x_g0 111 73 0 400 (x_if_icmp .ge 293 K (x_aload 0 (x_g1 111 234 (x_aload 0 (x_g1 111 271 (x_iload 5 (x_iaload (x_aload 0 (x_g1 111 272 (x_iload 5 (x_iaload (x_iastore (x_iinc 5 1 (x_goto 259 K)))))))))))))))) := ((xe_iload 5).trans (congrArg (x_iload 5) ((xe_aload 0).trans (congrArg (x_aload 0) ((xe_g0 (kk := 111) rfl tl_11_73).trans (congrArg (x_g0 111 73 0 400) ((xe_if_icmp .ge 293).trans (congrArg (x_if_icmp .ge 293 K) ((xe_aload 0).trans (congrArg (x_aload 0) ((xe_g1 (kk := 111) rfl tl_11_34).trans (congrArg (x_g1 111 234) ((xe_aload 0).trans (congrArg (x_aload 0) ((xe_g1 (kk := 111) rfl tl_11_71).trans (congrArg (x_g1 111 271) ((xe_iload 5).trans (congrArg (x_iload 5) ((xe_iaload).trans (congrArg (x_iaload) ((xe_aload 0).trans (congrArg (x_aload 0) ((xe_g1 (kk := 111) rfl tl_11_72).trans (congrArg (x_g1 111 272) ((xe_iload 5).trans (congrArg (x_iload 5) ((xe_iaload).trans (congrArg (x_iaload) ((xe_iastore).trans (congrArg (x_iastore) ((xe_iinc 5 1).trans (congrArg (x_iinc 5 1) (xe_goto 259)))))))))))))))))))))))))))))))))
theorem bk_X11_postpone_f_293 : ck_ fX11 (some .int) cX11_postpone 293 [.iconst (-4), .ireturn] 296 = true := qck_r (nn_ _) (by decide +kernel)
theorem bs_X11_postpone_f_293 {P : Zt → Option Zv → Prop} (K : Int → Zl → List Zv → Zt → Prop) : sx_ K P [.iconst (-4), .ireturn] 296 = x_iconst (-4) (x_ireturn P) := ((xe_iconst (-4)).trans (congrArg (x_iconst (-4)) (xe_ireturn)))
theorem bk_X11_postpone_f_307 : ck_ fX11 (some .int) cX11_postpone 307 [.iload 5, .aload 0, .tableswitch 0 11 73 #[], .if_icmp .ge 336, .aload 0, .tableswitch 0 11 74 #[], .iload 5, .aload 0, .tableswitch 0 11 71 #[], .iload 5, .iaload, .iastore, .iinc 5 1, .goto 307] 336 = true := qck_r (nn_ _) (by decide +kernel)
theorem bs_X11_postpone_f_307 {P : Zt → Option Zv → Prop} (K : Int → Zl → List Zv → Zt → Prop) : sx_ K P [.iload 5, .aload 0, .tableswitch 0 11 73 #[], .if_icmp .ge 336, .aload 0, .tableswitch 0 11 74 #[], .iload 5, .aload 0, .tableswitch 0 11 71 #[], .iload 5, .iaload, .iastore, .iinc 5 1, .goto 307] 336 = x_iload 5 (x_aload 0 (x_g0 111 73 0 400 (x_if_icmp .ge 336 K (x_aload 0 (x_g1 111 274 (x_iload 5 (x_aload 0 (x_g1 111 271 (x_iload 5 (x_iaload (x_iastore (x_iinc 5 1 (x_goto 307 K))))))))))))) := ((xe_iload 5).trans (congrArg (x_iload 5) ((xe_aload 0).trans (congrArg (x_aload 0) ((xe_g0 (kk := 111) rfl tl_11_73).trans (congrArg (x_g0 111 73 0 400) ((xe_if_icmp .ge 336).trans (congrArg (x_if_icmp .ge 336 K) ((xe_aload 0).trans (congrArg (x_aload 0) ((xe_g1 (kk := 111) rfl tl_11_74).trans (congrArg (x_g1 111 274) ((xe_iload 5).trans (congrArg (x_iload 5) ((xe_aload 0).trans (congrArg (x_aload 0) ((xe_g1 (kk := 111) rfl tl_11_71).trans (congrArg (x_g1 111 271) ((xe_iload 5).trans (congrArg (x_iload 5) ((xe_iaload).trans (congrArg (x_iaload) ((xe_iastore).trans (congrArg (x_iastore) ((xe_iinc 5 1).trans (congrArg (x_iinc 5 1) (xe_goto 307)))))))))))))))))))))))))))
theorem bk_X11_postpone_f_336 : ck_ fX11 (some .int) cX11_postpone 336 [.aload 0, .tableswitch 0 11 75 #[], .ireturn] 341 = true := qck_r (nn_ _) (by decide +kernel)
theorem bs_X11_postpone_f_336 {P : Zt → Option Zv → Prop} (K : Int → Zl → List Zv → Zt → Prop) : sx_ K P [.aload 0, .tableswitch 0 11 75 #[], .ireturn] 341 = x_aload 0 (x_g0 111 75 0 400 (x_ireturn P)) := ((xe_aload 0).trans (congrArg (x_aload 0) ((xe_g0 (kk := 111) rfl tl_11_75).trans (congrArg (x_g0 111 75 0 400) (xe_ireturn)))))
theorem bk_X11_postpone_f_244 : ck_ fX11 (some .int) cX11_postpone 244 [.iload 4, .ifCond .ne 296, .aload 0, .tableswitch 0 11 34 #[], .iload 1, .iload 3, .iastore, .iconst 0, .istore 5] 259 = true := qck_r (nn_ _) (by decide +kernel)
theorem bs_X11_postpone_f_244 {P : Zt → Option Zv → Prop} (K : Int → Zl → List Zv → Zt → Prop) : sx_ K P [.iload 4, .ifCond .ne 296, .aload 0, .tableswitch 0 11 34 #[], .iload 1, .iload 3, .iastore, .iconst 0, .istore 5] 259 = x_iload 4 (x_ifCond .ne 296 K (x_aload 0 (x_g1 111 234 (x_iload 1 (x_iload 3 (x_iastore (x_iconst 0 (x_istore 5 (K 259))))))))) := ((xe_iload 4).trans (congrArg (x_iload 4) ((xe_ifCond .ne 296).trans (congrArg (x_ifCond .ne 296 K) ((xe_aload 0).trans (congrArg (x_aload 0) ((xe_g1 (kk := 111) rfl tl_11_34).trans (congrArg (x_g1 111 234) ((xe_iload 1).trans (congrArg (x_iload 1) ((xe_iload 3).trans (congrArg (x_iload 3) ((xe_iastore).trans (congrArg (x_iastore) ((xe_iconst 0).trans (congrArg (x_iconst 0) ((xe_istore 5).trans (congrArg (x_istore 5) xe_nil))))))))))))))))))
theorem bk_X11_postpone_f_296 : ck_ fX11 (some .int) cX11_postpone 296 [.aload 0, .aload 0, .tableswitch 0 11 73 #[], .tableswitch 1 11 75 #[], .iconst 0, .istore 5] 307 = true := qck_r (nn_ _) (by decide +kernel)
theorem bs_X11_postpone_f_296 {P : Zt → Option Zv → Prop} (K : Int → Zl → List Zv → Zt → Prop) : sx_ K P [.aload 0, .aload 0, .tableswitch 0 11 73 #[], .tableswitch 1 11 75 #[], .iconst 0, .istore 5] 307 = x_aload 0 (x_aload 0 (x_g0 111 73 0 400 (x_p 111 75 0 400 (x_iconst 0 (x_istore 5 (K 307)))))) := ((xe_aload 0).trans (congrArg (x_aload 0) ((xe_aload 0).trans (congrArg (x_aload 0) ((xe_g0 (kk := 111) rfl tl_11_73).trans (congrArg (x_g0 111 73 0 400) ((xe_p (kk := 111) rfl tl_11_75).trans (congrArg (x_p 111 75 0 400) ((xe_iconst 0).trans (congrArg (x_iconst 0) ((xe_istore 5).trans (congrArg (x_istore 5) xe_nil))))))))))))
theorem bk_X11_postpone_f_198 : ck_ fX11 (some .int) cX11_postpone 198 [.iload 7, .iconst 999, .if_icmp .gt 234, .iload 8, .ifCond .ne 234, .aload 0, .tableswitch 0 11 34 #[], .iload 6, .iload 7, .iastore, .aload 0, .iload 6] 223 = true := qck_r (nn_ _) (by decide +kernel)
theorem bs_X11_postpone_f_198 {P : Zt → Option Zv → Prop} (K : Int → Zl → List Zv → Zt → Prop) : sx_ K P [.iload 7, .iconst 999, .if_icmp .gt 234, .iload 8, .ifCond .ne 234, .aload 0, .tableswitch 0 11 34 #[], .iload 6, .iload 7, .iastore, .aload 0, .iload 6] 223 = x_iload 7 (x_iconst 999 (x_if_icmp .gt 234 K (x_iload 8 (x_ifCond .ne 234 K (x_aload 0 (x_g1 111 234 (x_iload 6 (x_iload 7 (x_iastore (x_aload 0 (x_iload 6 (K 223)))))))))))) := ((xe_iload 7).trans (congrArg (x_iload 7) ((xe_iconst 999).trans (congrArg (x_iconst 999) ((xe_if_icmp .gt 234).trans (congrArg (x_if_icmp .gt 234 K) ((xe_iload 8).trans (congrArg (x_iload 8) ((xe_ifCond .ne 234).trans (congrArg (x_ifCond .ne 234 K) ((xe_aload 0).trans (congrArg (x_aload 0) ((xe_g1 (kk := 111) rfl tl_11_34).trans (congrArg (x_g1 111 234) ((xe_iload 6).trans (congrArg (x_iload 6) ((xe_iload 7).trans (congrArg (x_iload 7) ((xe_iastore).trans (congrArg (x_iastore) ((xe_aload 0).trans (congrArg (x_aload 0) ((xe_iload 6).trans (congrArg (x_iload 6) xe_nil))))))))))))))))))))))))
theorem bk_X11_postpone_f_234 : ck_ fX11 (some .int) cX11_postpone 234 [.iload 8, .istore 4, .iinc 5 1, .goto 167] 244 = true := qck_r (nn_ _) (by decide +kernel)
theorem bs_X11_postpone_f_234 {P : Zt → Option Zv → Prop} (K : Int → Zl → List Zv → Zt → Prop) : sx_ K P [.iload 8, .istore 4, .iinc 5 1, .goto 167] 244 = x_iload 8 (x_istore 4 (x_iinc 5 1 (x_goto 167 K))) := ((xe_iload 8).trans (congrArg (x_iload 8) ((xe_istore 4).trans (congrArg (x_istore 4) ((xe_iinc 5 1).trans (congrArg (x_iinc 5 1) (xe_goto 167)))))))
theorem bk_X11_postpone_f_226 : ck_ fX11 (some .int) cX11_postpone 226 [.istore 8, .iinc 7 1, .goto 198] 234 = true := qck_r (nn_ _) (by decide +kernel)
theorem bs_X11_postpone_f_226 {P : Zt → Option Zv → Prop} (K : Int → Zl → List Zv → Zt → Prop) : sx_ K P [.istore 8, .iinc 7 1, .goto 198] 234 = x_istore 8 (x_iinc 7 1 (x_goto 198 K)) := ((xe_istore 8).trans (congrArg (x_istore 8) ((xe_iinc 7 1).trans (congrArg (x_iinc 7 1) (xe_goto 198)))))
theorem bk_X11_postpone_f_167 : ck_ fX11 (some .int) cX11_postpone 167 [.iload 5, .aload 0, .tableswitch 0 11 73 #[], .if_icmp .ge 244, .iload 4, .ifCond .eq 244, .aload 0, .tableswitch 0 11 71 #[], .iload 5, .iaload, .istore 6, .iload 2, .iconst 1, .iadd, .istore 7, .iconst 0, .istore 8] 198 = true := qck_r (nn_ _) (by decide +kernel)
theorem bs_X11_postpone_f_167 {P : Zt → Option Zv → Prop} (K : Int → Zl → List Zv → Zt → Prop) : sx_ K P [.iload 5, .aload 0, .tableswitch 0 11 73 #[], .if_icmp .ge 244, .iload 4, .ifCond .eq 244, .aload 0, .tableswitch 0 11 71 #[], .iload 5, .iaload, .istore 6, .iload 2, .iconst 1, .iadd, .istore 7, .iconst 0, .istore 8] 198 = x_iload 5 (x_aload 0 (x_g0 111 73 0 400 (x_if_icmp .ge 244 K (x_iload 4 (x_ifCond .eq 244 K (x_aload 0 (x_g1 111 271 (x_iload 5 (x_iaload (x_istore 6 (x_iload 2 (x_iconst 1 (x_iadd (x_istore 7 (x_iconst 0 (x_istore 8 (K 198))))))))))))))))) := ((xe_iload 5).trans (congrArg (x_iload 5) ((xe_aload 0).trans (congrArg (x_aload 0) ((xe_g0 (kk := 111) rfl tl_11_73).trans (congrArg (x_g0 111 73 0 400) ((xe_if_icmp .ge 244).trans (congrArg (x_if_icmp .ge 244 K) ((xe_iload 4).trans (congrArg (x_iload 4) ((xe_ifCond .eq 244).trans (congrArg (x_ifCond .eq 244 K) ((xe_aload 0).trans (congrArg (x_aload 0) ((xe_g1 (kk := 111) rfl tl_11_71).trans (congrArg (x_g1 111 271) ((xe_iload 5).trans (congrArg (x_iload 5) ((xe_iaload).trans (congrArg (x_iaload) ((xe_istore 6).trans (congrArg (x_istore 6) ((xe_iload 2).trans (congrArg (x_iload 2) ((xe_iconst 1).trans (congrArg (x_iconst 1) ((xe_iadd).trans (congrArg (x_iadd) ((xe_istore 7).trans (congrArg (x_istore 7) ((xe_iconst 0).trans (congrArg (x_iconst 0) ((xe_istore 8).trans (congrArg (x_istore 8) xe_nil))))))))))))))))))))))))))))))))))
theorem bk_X11_postpone_f_80 : ck_ fX11 (some .int) cX11_postpone 80 [.iload 5, .aload 0, .tableswitch 0 11 29 #[], .if_icmp .ge 164, .aload 0, .iload 1, .iload 5] 93 = true := qck_r (nn_ _) (by decide +kernel)
theorem bs_X11_postpone_f_80 {P : Zt → Option Zv → Prop} (K : Int → Zl → List Zv → Zt → Prop) : sx_ K P [.iload 5, .aload 0, .tableswitch 0 11 29 #[], .if_icmp .ge 164, .aload 0, .iload 1, .iload 5] 93 = x_iload 5 (x_aload 0 (x_g0 111 29 0 400 (x_if_icmp .ge 164 K (x_aload 0 (x_iload 1 (x_iload 5 (K 93))))))) := ((xe_iload 5).trans (congrArg (x_iload 5) ((xe_aload 0).trans (congrArg (x_aload 0) ((xe_g0 (kk := 111) rfl tl_11_29).trans (congrArg (x_g0 111 29 0 400) ((xe_if_icmp .ge 164).trans (congrArg (x_if_icmp .ge 164 K) ((xe_aload 0).trans (congrArg (x_aload 0) ((xe_iload 1).trans (congrArg (x_iload 1) ((xe_iload 5).trans (congrArg (x_iload 5) xe_nil))))))))))))))
theorem bk_X11_postpone_f_164 : ck_ fX11 (some .int) cX11_postpone 164 [.iconst 0, .istore 5] 167 = true := qck_r (nn_ _) (by decide +kernel)
theorem bs_X11_postpone_f_164 {P : Zt → Option Zv → Prop} (K : Int → Zl → List Zv → Zt → Prop) : sx_ K P [.iconst 0, .istore 5] 167 = x_iconst 0 (x_istore 5 (K 167)) := ((xe_iconst 0).trans (congrArg (x_iconst 0) ((xe_istore 5).trans (congrArg (x_istore 5) xe_nil))))
theorem bk_X11_postpone_f_96 : ck_ fX11 (some .int) cX11_postpone 96 [.ifCond .eq 158, .aload 0, .tableswitch 0 11 71 #[], .aload 0, .tableswitch 0 11 73 #[], .iload 5, .iastore, .aload 0, .tableswitch 0 11 72 #[], .aload 0, .tableswitch 0 11 73 #[], .aload 0, .tableswitch 0 11 34 #[], .iload 5, .iaload, .iastore, .aload 0, .dup, .tableswitch 0 11 73 #[], .iconst 1, .iadd, .tableswitch 1 11 73 #[], .iload 4, .ifCond .eq 155, .aload 0, .tableswitch 0 11 35 #[], .iload 5, .iaload, .ifCond .ne 155, .iconst 1, .goto 156] 155 = true := qck_r (nn_ _) (by decide +kernel)
theorem bs_X11_postpone_f_96 {P : Zt → Option Zv → Prop} (K : Int → Zl → List Zv → Zt → Prop) : sx_ K P [.ifCond .eq 158, .aload 0, .tableswitch 0 11 71 #[], .aload 0, .tableswitch 0 11 73 #[], .iload 5, .iastore, .aload 0, .tableswitch 0 11 72 #[], .aload 0, .tableswitch 0 11 73 #[], .aload 0, .tableswitch 0 11 34 #[], .iload 5, .iaload, .iastore, .aload 0, .dup, .tableswitch 0 11 73 #[], .iconst 1, .iadd, .tableswitch 1 11 73 #[], .iload 4, .ifCond .eq 155, .aload 0, .tableswitch 0 11 35 #[], .iload 5, .iaload, .ifCond .ne 155, .iconst 1, .goto 156] 155 = x_ifCond .eq 158 K (x_aload 0 (x_g1 111 271 (x_aload 0 (x_g0 111 73 0 400 (x_iload 5 (x_iastore (x_aload 0 (x_g1 111 272 (x_aload 0 (x_g0 111 73 0 400 (x_aload 0 (x_g1 111 234 (x_iload 5 (x_iaload (x_iastore (x_aload 0 (x_dup (x_g0 111 73 0 400 (x_iconst 1 (x_iadd (x_p 111 73 0 400 (x_iload 4 (x_ifCond .eq 155 K (x_aload 0 (x_g1 111 235 (x_iload 5 (x_iaload (x_ifCond .ne 155 K (x_iconst 1 (x_goto 156 K)))))))))))))))))))))))))))))) := ((xe_ifCond .eq 158).trans (congrArg (x_ifCond .eq 158 K) ((xe_aload 0).trans (congrArg (x_aload 0) ((xe_g1 (kk := 111) rfl tl_11_71).trans (congrArg (x_g1 111 271) ((xe_aload 0).trans (congrArg (x_aload 0) ((xe_g0 (kk := 111) rfl tl_11_73).trans (congrArg (x_g0 111 73 0 400) ((xe_iload 5).trans (congrArg (x_iload 5) ((xe_iastore).trans (congrArg (x_iastore) ((xe_aload 0).trans (congrArg (x_aload 0) ((xe_g1 (kk := 111) rfl tl_11_72).trans (congrArg (x_g1 111 272) ((xe_aload 0).trans (congrArg (x_aload 0) ((xe_g0 (kk := 111) rfl tl_11_73).trans (congrArg (x_g0 111 73 0 400) ((xe_aload 0).trans (congrArg (x_aload 0) ((xe_g1 (kk := 111) rfl tl_11_34).trans (congrArg (x_g1 111 234) ((xe_iload 5).trans (congrArg (x_iload 5) ((xe_iaload).trans (congrArg (x_iaload) ((xe_iastore).trans (congrArg (x_iastore) ((xe_aload 0).trans (congrArg (x_aload 0) ((xe_dup).trans (congrArg (x_dup) ((xe_g0 (kk := 111) rfl tl_11_73).trans (congrArg (x_g0 111 73 0 400) ((xe_iconst 1).trans (congrArg (x_iconst 1) ((xe_iadd).trans (congrArg (x_iadd) ((xe_p (kk := 111) rfl tl_11_73).trans (congrArg (x_p 111 73 0 400) ((xe_iload 4).trans (congrArg (x_iload 4) ((xe_ifCond .eq 155).trans (congrArg (x_ifCond .eq 155 K) ((xe_aload 0).trans (congrArg (x_aload 0) ((xe_g1 (kk := 111) rfl tl_11_35).trans (congrArg (x_g1 111 235) ((xe_iload 5).trans (congrArg (x_iload 5) ((xe_iaload).trans (congrArg (x_iaload) ((xe_ifCond .ne 155).trans (congrArg (x_ifCond .ne 155 K) ((xe_iconst 1).trans (congrArg (x_iconst 1) (xe_goto 156)))))))))))))))))))))))))))))))))))))))))))))))))))))))))))))
theorem bk_X11_postpone_f_158 : ck_ fX11 (some .int) cX11_postpone 158 [.iinc 5 1, .goto 80] 164 = true := qck_r (nn_ _) (by decide +kernel)
theorem bs_X11_postpone_f_158 {P : Zt → Option Zv → Prop} (K : Int → Zl → List Zv → Zt → Prop) : sx_ K P [.iinc 5 1, .goto 80] 164 = x_iinc 5 1 (x_goto 80 K) := ((xe_iinc 5 1).trans (congrArg (x_iinc 5 1) (xe_goto 80)))
theorem bk_X11_postpone_f_155 : ck_ fX11 (some .int) cX11_postpone 155 [.iconst 0, .istore 4, .iinc 5 1, .goto 80] 164 = true := qck_r (nn_ _) (by decide +kernel)
theorem bs_X11_postpone_f_155 {P : Zt → Option Zv → Prop} (K : Int → Zl → List Zv → Zt → Prop) : sx_ K P [.iconst 0, .istore 4, .iinc 5 1, .goto 80] 164 = x_iconst 0 (x_istore 4 (x_iinc 5 1 (x_goto 80 K))) := ((xe_iconst 0).trans (congrArg (x_iconst 0) ((xe_istore 4).trans (congrArg (x_istore 4) ((xe_iinc 5 1).trans (congrArg (x_iinc 5 1) (xe_goto 80)))))))
theorem bk_X11_postpone_f_156 : ck_ fX11 (some .int) cX11_postpone 156 [.istore 4, .iinc 5 1, .goto 80] 164 = true := qck_r (nn_ _) (by decide +kernel)
theorem bs_X11_postpone_f_156 {P : Zt → Option Zv → Prop} (K : Int → Zl → List Zv → Zt → Prop) : sx_ K P [.istore 4, .iinc 5 1, .goto 80] 164 = x_istore 4 (x_iinc 5 1 (x_goto 80 K)) := ((xe_istore 4).trans (congrArg (x_istore 4) ((xe_iinc 5 1).trans (congrArg (x_iinc 5 1) (xe_goto 80)))))
theorem bk_X11_postpone_f_0 : ck_ fX11 (some .int) cX11_postpone 0 [.iload 1, .aload 0, .tableswitch 0 11 29 #[]] 5 = true := qck_r (nn_ _) (by decide +kernel)
theorem bs_X11_postpone_f_0 {P : Zt → Option Zv → Prop} (K : Int → Zl → List Zv → Zt → Prop) : sx_ K P [.iload 1, .aload 0, .tableswitch 0 11 29 #[]] 5 = x_iload 1 (x_aload 0 (x_g0 111 29 0 400 (K 5))) := ((xe_iload 1).trans (congrArg (x_iload 1) ((xe_aload 0).trans (congrArg (x_aload 0) ((xe_g0 (kk := 111) rfl tl_11_29).trans (congrArg (x_g0 111 29 0 400) xe_nil))))))
theorem bk_X11_postpone_f_8 : ck_ fX11 (some .int) cX11_postpone 8 [.ifCond .ne 14, .iconst (-2), .ireturn] 14 = true := qck_r (nn_ _) (by decide +kernel)
theorem bs_X11_postpone_f_8 {P : Zt → Option Zv → Prop} (K : Int → Zl → List Zv → Zt → Prop) : sx_ K P [.ifCond .ne 14, .iconst (-2), .ireturn] 14 = x_ifCond .ne 14 K (x_iconst (-2) (x_ireturn P)) := ((xe_ifCond .ne 14).trans (congrArg (x_ifCond .ne 14 K) ((xe_iconst (-2)).trans (congrArg (x_iconst (-2)) (xe_ireturn)))))
theorem bk_X11_postpone_f_14 : ck_ fX11 (some .int) cX11_postpone 14 [.iload 2, .aload 0, .tableswitch 0 11 3 #[], .iconst 1, .iadd, .iconst 999] 24 = true := qck_r (nn_ _) (by decide +kernel)
theorem bs_X11_postpone_f_14 {P : Zt → Option Zv → Prop} (K : Int → Zl → List Zv → Zt → Prop) : sx_ K P [.iload 2, .aload 0, .tableswitch 0 11 3 #[], .iconst 1, .iadd, .iconst 999] 24 = x_iload 2 (x_aload 0 (x_g0 111 3 0 999 (x_iconst 1 (x_iadd (x_iconst 999 (K 24)))))) := ((xe_iload 2).trans (congrArg (x_iload 2) ((xe_aload 0).trans (congrArg (x_aload 0) ((xe_g0 (kk := 111) rfl tl_11_3).trans (congrArg (x_g0 111 3 0 999) ((xe_iconst 1).trans (congrArg (x_iconst 1) ((xe_iadd).trans (congrArg (x_iadd) ((xe_iconst 999).trans (congrArg (x_iconst 999) xe_nil))))))))))))
theorem bk_X11_postpone_f_27 : ck_ fX11 (some .int) cX11_postpone 27 [.ifCond .ne 33, .iconst (-3), .ireturn] 33 = true := qck_r (nn_ _) (by decide +kernel)
theorem bs_X11_postpone_f_27 {P : Zt → Option Zv → Prop} (K : Int → Zl → List Zv → Zt → Prop) : sx_ K P [.ifCond .ne 33, .iconst (-3), .ireturn] 33 = x_ifCond .ne 33 K (x_iconst (-3) (x_ireturn P)) := ((xe_ifCond .ne 33).trans (congrArg (x_ifCond .ne 33 K) ((xe_iconst (-3)).trans (congrArg (x_iconst (-3)) (xe_ireturn)))))
theorem bk_X11_postpone_f_33 : ck_ fX11 (some .int) cX11_postpone 33 [.aload 0, .tableswitch 0 11 35 #[], .iload 1, .iaload, .ifCond .ne 52, .aload 0, .tableswitch 0 11 34 #[], .iload 1, .iaload, .iload 2, .if_icmp .ne 55, .iconst (-4), .ireturn] 55 = true := qck_r (nn_ _) (by decide +kernel)
theorem bs_X11_postpone_f_33 {P : Zt → Option Zv → Prop} (K : Int → Zl → List Zv → Zt → Prop) : sx_ K P [.aload 0, .tableswitch 0 11 35 #[], .iload 1, .iaload, .ifCond .ne 52, .aload 0, .tableswitch 0 11 34 #[], .iload 1, .iaload, .iload 2, .if_icmp .ne 55, .iconst (-4), .ireturn] 55 = x_aload 0 (x_g1 111 235 (x_iload 1 (x_iaload (x_ifCond .ne 52 K (x_aload 0 (x_g1 111 234 (x_iload 1 (x_iaload (x_iload 2 (x_if_icmp .ne 55 K (x_iconst (-4) (x_ireturn P)))))))))))) := ((xe_aload 0).trans (congrArg (x_aload 0) ((xe_g1 (kk := 111) rfl tl_11_35).trans (congrArg (x_g1 111 235) ((xe_iload 1).trans (congrArg (x_iload 1) ((xe_iaload).trans (congrArg (x_iaload) ((xe_ifCond .ne 52).trans (congrArg (x_ifCond .ne 52 K) ((xe_aload 0).trans (congrArg (x_aload 0) ((xe_g1 (kk := 111) rfl tl_11_34).trans (congrArg (x_g1 111 234) ((xe_iload 1).trans (congrArg (x_iload 1) ((xe_iaload).trans (congrArg (x_iaload) ((xe_iload 2).trans (congrArg (x_iload 2) ((xe_if_icmp .ne 55).trans (congrArg (x_if_icmp .ne 55 K) ((xe_iconst (-4)).trans (congrArg (x_iconst (-4)) (xe_ireturn)))))))))))))))))))))))))
theorem bk_X11_postpone_f_52 : ck_ fX11 (some .int) cX11_postpone 52 [.iconst (-4), .ireturn] 55 = true := qck_r (nn_ _) (by decide +kernel)
theorem bs_X11_postpone_f_52 {P : Zt → Option Zv → Prop} (K : Int → Zl → List Zv → Zt → Prop) : sx_ K P [.iconst (-4), .ireturn] 55 = x_iconst (-4) (x_ireturn P) := ((xe_iconst (-4)).trans (congrArg (x_iconst (-4)) (xe_ireturn)))
theorem bk_X11_postpone_f_55 : ck_ fX11 (some .int) cX11_postpone 55 [.aload 0, .tableswitch 0 11 34 #[], .iload 1, .iaload, .istore 3, .aload 0, .tableswitch 0 11 34 #[], .iload 1, .iload 2, .iastore, .aload 0, .iconst 0, .tableswitch 1 11 73 #[], .iconst 1, .istore 4, .iconst 0, .istore 5] 80 = true := qck_r (nn_ _) (by decide +kernel)
theorem bs_X11_postpone_f_55 {P : Zt → Option Zv → Prop} (K : Int → Zl → List Zv → Zt → Prop) : sx_ K P [.aload 0, .tableswitch 0 11 34 #[], .iload 1, .iaload, .istore 3, .aload 0, .tableswitch 0 11 34 #[], .iload 1, .iload 2, .iastore, .aload 0, .iconst 0, .tableswitch 1 11 73 #[], .iconst 1, .istore 4, .iconst 0, .istore 5] 80 = x_aload 0 (x_g1 111 234 (x_iload 1 (x_iaload (x_istore 3 (x_aload 0 (x_g1 111 234 (x_iload 1 (x_iload 2 (x_iastore (x_aload 0 (x_iconst 0 (x_p 111 73 0 400 (x_iconst 1 (x_istore 4 (x_iconst 0 (x_istore 5 (K 80))))))))))))))))) := ((xe_aload 0).trans (congrArg (x_aload 0) ((xe_g1 (kk := 111) rfl tl_11_34).trans (congrArg (x_g1 111 234) ((xe_iload 1).trans (congrArg (x_iload 1) ((xe_iaload).trans (congrArg (x_iaload) ((xe_istore 3).trans (congrArg (x_istore 3) ((xe_aload 0).trans (congrArg (x_aload 0) ((xe_g1 (kk := 111) rfl tl_11_34).trans (congrArg (x_g1 111 234) ((xe_iload 1).trans (congrArg (x_iload 1) ((xe_iload 2).trans (congrArg (x_iload 2) ((xe_iastore).trans (congrArg (x_iastore) ((xe_aload 0).trans (congrArg (x_aload 0) ((xe_iconst 0).trans (congrArg (x_iconst 0) ((xe_p (kk := 111) rfl tl_11_73).trans (congrArg (x_p 111 73 0 400) ((xe_iconst 1).trans (congrArg (x_iconst 1) ((xe_istore 4).trans (congrArg (x_istore 4) ((xe_iconst 0).trans (congrArg (x_iconst 0) ((xe_istore 5).trans (congrArg (x_istore 5) xe_nil))))))))))))))))))))))))))))))))))
abbrev po_X11_postpone_f (T : Zt) (m d : Int) : Zt → Option Zv → Prop := fun T' r => ∃ x : Int, r = some (vI x) ∧ fr_ [(234, []), (271, []), (272, []), (111, [73, 75]), (274, [])] T T' ∧ ((x = -2 ∧ ¬ (0 ≤ m ∧ m < T 111 0 29) ∧ T = T') ∨ ((0 ≤ m ∧ m < T 111 0 29) ∧ ((x = -3 ∧ ¬ (T 111 0 3 < d ∧ d ≤ 999 ∧ 0 ≤ d) ∧ T = T') ∨ ((T 111 0 3 < d ∧ d ≤ 999 ∧ 0 ≤ d) ∧ ((x = -4 ∧ ¬ (T 235 0 m = 0 ∧ T 234 0 m ≠ d) ∧ T = T') ∨ ((T 235 0 m = 0 ∧ T 234 0 m ≠ d) ∧ PTQ_ T T' m d x))))))
set_option maxHeartbeats 4000000 in
theorem ct_X11_postpone_f {T : Zt} {m d : Int} : Ct_ yX11_postpone zX11_postpone T [vR 111 0, vI m, vI d] (po_X11_postpone_f T m d) := by
  refine ct_of pn_11 rfl rfl (Nat.le_of_ble_eq_true rfl) (fun hT hav => ?_)
  have hr_m : -2147483648 ≤ m ∧ m ≤ 2147483647 := hav (vI m) (List.mem_cons_of_mem _ List.mem_cons_self)
  have hr_d : -2147483648 ≤ d ∧ d ≤ 2147483647 := hav (vI d) (List.mem_cons_of_mem _ (List.mem_cons_of_mem _ List.mem_cons_self))
  have hz : zX11_postpone.2.2.2.1 = some .boolean → ∀ (T' : Zt) (x : Int), po_X11_postpone_f T m d T' (some (vI x)) → 0 ≤ x ∧ x ≤ 1 := fun h => by cases h
  have hb_29 : 0 ≤ T 111 0 29 ∧ T 111 0 29 ≤ 400 := bd_f hT 111 29 tl_11_29 0
  have hb_3 : 0 ≤ T 111 0 3 ∧ T 111 0 3 ≤ 999 := bd_f hT 111 3 tl_11_3 0
  show J_ zX11_postpone T (po_X11_postpone_f T m d) 0 0 0 [some (vR 111 0), some (vI m), some (vI d), none, none, none, none, none, none] [] T
  have c_80 : ∀ (nn : Nat) (go : Int) (k : Int) (T1 : Zt), ((400 - k).toNat) ≤ nn → (fr_ [(234, []), (271, []), (272, []), (111, [73])] T T1) → ((0 ≤ m ∧ m < T 111 0 29) ∧ 0 ≤ d ∧ d ≤ 999 ∧ T 111 0 3 < d ∧ T 235 0 m = 0 ∧ T 234 0 m ≠ d) → (0 ≤ k ∧ k ≤ T 111 0 29 ∧ 0 ≤ T1 111 0 73 ∧ T1 111 0 73 ≤ k ∧ 0 ≤ go ∧ go ≤ 1) → (∀ i, T1 234 0 i = u1_ (fun m => T 234 0 m) m d i) → (LHD_ (fun _ => 0) (AGR_ T m d) (fun j => T1 271 0 j) 0 k 400 (T1 111 0 73)) → (∀ j, 0 ≤ j → j < T1 111 0 73 → T1 272 0 j = T 234 0 (T1 271 0 j)) → ((go = 1 ∧ (∀ j, 0 ≤ j → j < k → AGR_ T m d j → TLR_ T j)) ∨ (go = 0 ∧ ¬ (∀ j, 0 ≤ j → j < T 111 0 29 → AGR_ T m d j → TLR_ T j))) → J_ zX11_postpone T (po_X11_postpone_f T m d) 0 0 80 [some (vR 111 0), some (vI m), some (vI d), some (vI (T 234 0 m)), some (vI go), some (vI k), none, none, none] [] T1 := by
    intro nn
    induction nn using Nat.strongRecOn with
    | _ nn ih_80 =>
      intro go k T1 hm_80 hf_80 p1 i1 dy1 lh1 wd1 go1
      replace hm_80 := fun (_ : Unit) => hm_80
      have c_244 : ∀ (go : Int) (T4 : Zt), (fr_ [(234, []), (271, []), (272, []), (111, [73])] T T4) → ((0 ≤ m ∧ m < T 111 0 29) ∧ 0 ≤ d ∧ d ≤ 999 ∧ T 111 0 3 < d ∧ T 235 0 m = 0 ∧ T 234 0 m ≠ d) → (0 ≤ go ∧ go ≤ 1) → (LHD_ (fun _ => 0) (AGR_ T m d) (fun j => T4 271 0 j) 0 (T 111 0 29) 400 (T4 111 0 73)) → (∀ j, 0 ≤ j → j < T4 111 0 73 → T4 272 0 j = T 234 0 (T4 271 0 j)) → (0 ≤ T4 111 0 73 ∧ T4 111 0 73 ≤ 400) → (RVR_ T T4 (fun j => T4 271 0 j) m (T4 111 0 73) 0) → ((go = 1 ∧ (∀ j, 0 ≤ j → j < T 111 0 29 → AGR_ T m d j → TLR_ T j) ∧ (mvR_ T m d (T 111 0 29)).2 = 1 ∧ ∀ i9, T4 234 0 i9 = (mvR_ T m d (T 111 0 29)).1 i9) ∨ (go = 0 ∧ (¬ ((∀ j, 0 ≤ j → j < T 111 0 29 → AGR_ T m d j → TLR_ T j) ∧ (mvR_ T m d (T 111 0 29)).2 = 1)))) → J_ zX11_postpone T (po_X11_postpone_f T m d) 0 0 244 [some (vR 111 0), some (vI m), some (vI d), some (vI (T 234 0 m)), some (vI go), none, none, none, none] [] T4 := by
        intro go T4 hf_244 p1 i4 lh4 wd4 gm4 rv4 st4
        have hdm : 0 ≤ T 234 0 m ∧ T 234 0 m ≤ 999 := bd_a hT 234 (by decide +kernel : ta_ 234 = some (1, some 400, 0, 999)) 0 (by omega)
        have c_259 : ∀ (nn : Nat) (i : Int) (T5 : Zt), ((400 - i).toNat) ≤ nn → (fr_ [(234, []), (271, []), (272, []), (111, [73])] T T5) → (0 ≤ i ∧ (i = 0 ∨ i ≤ T5 111 0 73)) → (LHD_ (fun _ => 0) (AGR_ T m d) (fun j => T5 271 0 j) 0 (T 111 0 29) 400 (T5 111 0 73)) → (∀ j, 0 ≤ j → j < T5 111 0 73 → T5 272 0 j = T 234 0 (T5 271 0 j)) → (0 ≤ T5 111 0 73 ∧ T5 111 0 73 ≤ 400) → (RVR_ T T5 (fun j => T5 271 0 j) m (T5 111 0 73) i) → (T5 234 0 m = T 234 0 m) → (¬ ((∀ j, 0 ≤ j → j < T 111 0 29 → AGR_ T m d j → TLR_ T j) ∧ (mvR_ T m d (T 111 0 29)).2 = 1)) → J_ zX11_postpone T (po_X11_postpone_f T m d) 0 0 259 [some (vR 111 0), some (vI m), some (vI d), some (vI (T 234 0 m)), some (vI go), some (vI i), none, none, none] [] T5 := by
          intro nn
          induction nn using Nat.strongRecOn with
          | _ nn ih_259 =>
            intro i T5 hm_259 hf_259 i5 lh5 wd5 gm5 rv5 m5 bad5
            replace hm_259 := fun (_ : Unit) => hm_259
            refine j_blx (F := fX11) tb_X11 (nn_ _) bk_X11_postpone_f_259 bs_X11_postpone_f_259 hz (fun K hK => ?_)
            intro b1 b1b
            refine And.intro (fun c2 => ?_) (fun c2 => ?_)
            · refine hK 293 _ [] T5 ?_
              refine j_blx (F := fX11) tb_X11 (nn_ _) bk_X11_postpone_f_293 bs_X11_postpone_f_293 hz (fun K hK => ?_)
              refine (show po_X11_postpone_f T m d T5 (some (vI (-4))) from ?_)
              have dz : ∀ j, T5 234 0 j = T 234 0 j := fun j => by
                by_cases z : j = m
                · rw [z]; exact m5
                · exact rv5 j z (fun t t1 t2 => by omega)
              exact ⟨_, rfl, fr_t (fr_0 _ _) (fr_s hf_259 rfl), Or.inr ⟨by omega, Or.inr ⟨by omega, Or.inr ⟨by omega, Or.inl ⟨rfl, bad5, dz, fun j => hf_259 274 0 j rfl, hf_259 111 0 75 rfl⟩⟩⟩⟩⟩
            · refine ix_i (by omega) ?_
              intro b3 b3b
              refine ix_i (by omega) ?_
              intro b4 b4b
              refine iy_i (by omega) (by omega) ?_
              refine x_nm (fun U5 hU5 => ?_)
              have e6 := up_f hU5
              refine rg_i (by omega) ?_
              refine hK 259 [some (vR 111 0), some (vI m), some (vI d), some (vI (T 234 0 m)), some (vI go), some (vI (i + 1)), none, none, none] [] U5 ?_
              have e7 : U5 111 0 73 = T5 111 0 73 := up_k hU5 (by exact Nat.ne_of_beq_eq_false rfl) 0 73
              refine ih_259 _ ?_ (i + 1) U5 (Nat.le_refl _) ?_ ?_ ?_ ?_ ?_ ?_ ?_ ?_
              · have hm_259 := hm_259 (); omega
              · exact fr_u (fr_t (fr_0 _ _) (fr_s hf_259 rfl)) hU5 rfl
              · omega
              · have y9 := lh5
                rw [up_k hU5 (by exact Nat.ne_of_beq_eq_false rfl) 0 73]
                exact lhd_e y9 (fun j _ _ => up_k hU5 (by exact Nat.ne_of_beq_eq_false rfl) 0 j)
              · intro j a b
                rw [up_k hU5 (by exact Nat.ne_of_beq_eq_false rfl) 0 73] at b
                rw [up_k hU5 (by exact Nat.ne_of_beq_eq_false rfl) 0 j, up_k hU5 (by exact Nat.ne_of_beq_eq_false rfl) 0 j]
                exact wd5 j a b
              · rw [up_k hU5 (by exact Nat.ne_of_beq_eq_false rfl) 0 73]
                exact gm5
              · intro x a b
                by_cases z : x = T5 271 0 i
                · rw [z, up_f hU5]; exact wd5 i (by omega) (by omega)
                · rw [up_g hU5 (fun q => z q.2.2)]
                  refine rv5 x a (fun j c e => ?_)
                  by_cases y : j = i
                  · rw [y]; exact fun w => z w.symm
                  · show T5 271 0 j ≠ x
                    rw [← up_k hU5 (by exact Nat.ne_of_beq_eq_false rfl) 0 j]
                    exact b j (by omega) (by rw [up_k hU5 (by exact Nat.ne_of_beq_eq_false rfl)]; exact e)
              · have y9 := lh5.1 i (by omega) (by omega)
                rw [up_g hU5 (fun z => y9.2.2.1.1 z.2.2)]
                exact m5
              · exact bad5
        have c_307 : ∀ (nn : Nat) (i : Int) (T6 : Zt), ((400 - i).toNat) ≤ nn → (fr_ [(234, []), (271, []), (272, []), (111, [73, 75]), (274, [])] T T6) → (0 ≤ i ∧ (i = 0 ∨ i ≤ T4 111 0 73) ∧ go = 1) → (∀ j, T6 234 0 j = T4 234 0 j) → (∀ j, T6 271 0 j = T4 271 0 j) → (T6 111 0 73 = T4 111 0 73) → (T6 111 0 75 = T4 111 0 73) → (∀ j, 0 ≤ j → j < i → T6 274 0 j = T4 271 0 j) → J_ zX11_postpone T (po_X11_postpone_f T m d) 0 0 307 [some (vR 111 0), some (vI m), some (vI d), some (vI (T 234 0 m)), some (vI go), some (vI i), none, none, none] [] T6 := by
          intro nn
          induction nn using Nat.strongRecOn with
          | _ nn ih_307 =>
            intro i T6 hm_307 hf_307 i6 dy6 gs6 gn6 mn6 mr6
            replace hm_307 := fun (_ : Unit) => hm_307
            refine j_blx (F := fX11) tb_X11 (nn_ _) bk_X11_postpone_f_307 bs_X11_postpone_f_307 hz (fun K hK => ?_)
            intro b8 b8b
            refine And.intro (fun c9 => ?_) (fun c9 => ?_)
            · refine hK 336 _ [] T6 ?_
              refine j_blx (F := fX11) tb_X11 (nn_ _) bk_X11_postpone_f_336 bs_X11_postpone_f_336 hz (fun K hK => ?_)
              intro b10 b10b
              refine (show po_X11_postpone_f T m d T6 (some (vI (T6 111 0 75))) from ?_)
              have z := (st4.resolve_right (fun y => by have := y.1; omega))
              have lm : LHD_ (fun _ => 0) (AGR_ T m d) (fun j => T6 274 0 j) 0 (T 111 0 29) 400 (T6 111 0 75) := by
                rw [mn6]
                exact lhd_e lh4 (fun j a b => mr6 j a (by omega))
              exact ⟨_, rfl, fr_t (fr_0 _ _) (fr_s hf_307 rfl), Or.inr ⟨by omega, Or.inr ⟨by omega, Or.inr ⟨by omega, Or.inr ⟨by omega, z.2.1, z.2.2.1, fun j => (dy6 j).trans (z.2.2.2 j), lm, rfl⟩⟩⟩⟩⟩
            · refine ix_i (by omega) ?_
              intro b11 b11b
              refine iy_i (by omega) (by omega) ?_
              refine x_nm (fun U12 hU12 => ?_)
              have e13 := up_f hU12
              refine rg_i (by omega) ?_
              refine hK 307 [some (vR 111 0), some (vI m), some (vI d), some (vI (T 234 0 m)), some (vI go), some (vI (i + 1)), none, none, none] [] U12 ?_
              have e14 : U12 111 0 73 = T6 111 0 73 := up_k hU12 (by exact Nat.ne_of_beq_eq_false rfl) 0 73
              have e15 : U12 111 0 75 = T6 111 0 75 := up_k hU12 (by exact Nat.ne_of_beq_eq_false rfl) 0 75
              refine ih_307 _ ?_ (i + 1) U12 (Nat.le_refl _) ?_ ?_ ?_ ?_ ?_ ?_ ?_
              · have hm_307 := hm_307 (); omega
              · exact fr_u (fr_t (fr_0 _ _) (fr_s hf_307 rfl)) hU12 rfl
              · omega
              · exact fun j => (up_k hU12 (by exact Nat.ne_of_beq_eq_false rfl) 0 j).trans (dy6 j)
              · exact fun j => (up_k hU12 (by exact Nat.ne_of_beq_eq_false rfl) 0 j).trans (gs6 j)
              · exact (up_k hU12 (by exact Nat.ne_of_beq_eq_false rfl) 0 73).trans gn6
              · exact (up_k hU12 (by exact Nat.ne_of_beq_eq_false rfl) 0 75).trans mn6
              · intro j a b
                by_cases z : j = i
                · rw [z, up_f hU12]; exact gs6 i
                · rw [up_g hU12 (fun q => z q.2.2)]; exact mr6 j a (by omega)
        refine j_blx (F := fX11) tb_X11 (nn_ _) bk_X11_postpone_f_244 bs_X11_postpone_f_244 hz (fun K hK => ?_)
        refine And.intro (fun c16 => ?_) (fun c16 => ?_)
        · refine hK 296 _ [] T4 ?_
          refine j_blx (F := fX11) tb_X11 (nn_ _) bk_X11_postpone_f_296 bs_X11_postpone_f_296 hz (fun K hK => ?_)
          intro b17 b17b
          refine bd_i (by omega) ?_
          refine x_nm (fun U18 hU18 => ?_)
          have e19 := up_f hU18
          refine hK 307 [some (vR 111 0), some (vI m), some (vI d), some (vI (T 234 0 m)), some (vI go), some (vI 0), none, none, none] [] U18 ?_
          have e20 : U18 111 0 73 = T4 111 0 73 := up_j hU18 (by decide) 111 0
          have e21 : U18 111 0 75 = T4 111 0 73 := up_f hU18
          refine c_307 _ 0 U18 (Nat.le_refl _) ?_ ?_ ?_ ?_ ?_ ?_ ?_
          · exact fr_u (fr_t (fr_0 _ _) (fr_s hf_244 rfl)) hU18 rfl
          · omega
          · exact fun j => up_k hU18 (by exact Nat.ne_of_beq_eq_false rfl) 0 j
          · exact fun j => up_k hU18 (by exact Nat.ne_of_beq_eq_false rfl) 0 j
          · exact up_j hU18 (by decide) 111 0
          · exact up_f hU18
          · intro j a b; omega
        · refine iy_i (by omega) (by omega) ?_
          refine x_nm (fun U22 hU22 => ?_)
          have e23 := up_f hU22
          refine hK 259 _ [] U22 ?_
          have e24 : U22 111 0 73 = T4 111 0 73 := up_k hU22 (by exact Nat.ne_of_beq_eq_false rfl) 0 73
          have e25 : U22 234 0 m = T 234 0 m := up_f hU22
          refine c_259 _ 0 U22 (Nat.le_refl _) ?_ ?_ ?_ ?_ ?_ ?_ ?_ ?_
          · exact fr_u (fr_t (fr_0 _ _) (fr_s hf_244 rfl)) hU22 rfl
          · omega
          · have y9 := lh4
            rw [up_k hU22 (by exact Nat.ne_of_beq_eq_false rfl) 0 73]
            exact lhd_e y9 (fun j _ _ => up_k hU22 (by exact Nat.ne_of_beq_eq_false rfl) 0 j)
          · intro j a b
            rw [up_k hU22 (by exact Nat.ne_of_beq_eq_false rfl) 0 73] at b
            rw [up_k hU22 (by exact Nat.ne_of_beq_eq_false rfl) 0 j, up_k hU22 (by exact Nat.ne_of_beq_eq_false rfl) 0 j]
            exact wd4 j a b
          · rw [up_k hU22 (by exact Nat.ne_of_beq_eq_false rfl) 0 73]
            exact gm4
          · intro x a b
            rw [up_g hU22 (fun z => a z.2.2)]
            exact rv4 x a (fun j c e => by show T4 271 0 j ≠ x; rw [← up_k hU22 (by exact Nat.ne_of_beq_eq_false rfl) 0 j]; exact b j c (by rw [up_k hU22 (by exact Nat.ne_of_beq_eq_false rfl)]; exact e))
          · exact up_f hU22
          · exact (st4.resolve_left (fun y => by have := y.1; omega)).2
      have c_167 : ∀ (nn : Nat) (go : Int) (i : Int) (T2 : Zt), ((400 - i).toNat) ≤ nn → (fr_ [(234, []), (271, []), (272, []), (111, [73])] T T2) → ((0 ≤ m ∧ m < T 111 0 29) ∧ 0 ≤ d ∧ d ≤ 999 ∧ T 111 0 3 < d ∧ T 235 0 m = 0 ∧ T 234 0 m ≠ d) → (0 ≤ i ∧ 0 ≤ go ∧ go ≤ 1 ∧ (i = 0 ∨ i ≤ T2 111 0 73)) → (LHD_ (fun _ => 0) (AGR_ T m d) (fun j => T2 271 0 j) 0 (T 111 0 29) 400 (T2 111 0 73)) → (∀ j, 0 ≤ j → j < T2 111 0 73 → T2 272 0 j = T 234 0 (T2 271 0 j)) → (0 ≤ T2 111 0 73 ∧ T2 111 0 73 ≤ 400) → (RVR_ T T2 (fun j => T2 271 0 j) m (T2 111 0 73) 0) → ((go = 1 ∧ (∀ j, 0 ≤ j → j < T 111 0 29 → AGR_ T m d j → TLR_ T j) ∧ ∀ K, KKG_ (fun j => T2 271 0 j) i (T2 111 0 73) (T 111 0 29) K → (mvR_ T m d K).2 = 1 ∧ ∀ i9, T2 234 0 i9 = (mvR_ T m d K).1 i9) ∨ (go = 0 ∧ (¬ ((∀ j, 0 ≤ j → j < T 111 0 29 → AGR_ T m d j → TLR_ T j) ∧ (mvR_ T m d (T 111 0 29)).2 = 1)))) → J_ zX11_postpone T (po_X11_postpone_f T m d) 0 0 167 [some (vR 111 0), some (vI m), some (vI d), some (vI (T 234 0 m)), some (vI go), some (vI i), none, none, none] [] T2 := by
        intro nn
        induction nn using Nat.strongRecOn with
        | _ nn ih_167 =>
          intro go i T2 hm_167 hf_167 p1 i2 lh2 wd2 gm2 rv2 st2
          replace hm_167 := fun (_ : Unit) => hm_167
          have c_198 : ∀ (nn : Nat) (g : Int) (to : Int) (fr : Int) (T3 : Zt), ((1000 - to).toNat) ≤ nn → (fr_ [(234, []), (271, []), (272, []), (111, [73])] T T3) → (0 ≤ g ∧ g < 400 ∧ d + 1 ≤ to ∧ (to = d + 1 ∨ to ≤ 1000) ∧ 0 ≤ fr ∧ fr ≤ 1 ∧ i < T2 111 0 73 ∧ go = 1) → (g = T2 271 0 i) → (∀ j, j ≠ g → T3 234 0 j = T2 234 0 j) → (∀ j, T3 271 0 j = T2 271 0 j) → (∀ j, T3 272 0 j = T2 272 0 j) → (T3 111 0 73 = T2 111 0 73) → ((fr = 0 ∧ ffd_ (BKR_ T (mvR_ T m d g).1 g) (999 - d).toNat (d + 1) = ffd_ (BKR_ T (mvR_ T m d g).1 g) (1000 - to).toNat to) ∨ (fr = 1 ∧ ffd_ (BKR_ T (mvR_ T m d g).1 g) (999 - d).toNat (d + 1) = to - 1 ∧ T3 234 0 g = to - 1)) → J_ zX11_postpone T (po_X11_postpone_f T m d) 0 0 198 [some (vR 111 0), some (vI m), some (vI d), some (vI (T 234 0 m)), some (vI go), some (vI i), some (vI g), some (vI to), some (vI fr)] [] T3 := by
            intro nn
            induction nn using Nat.strongRecOn with
            | _ nn ih_198 =>
              intro g to fr T3 hm_198 hf_198 i3 gl2 ot3 gs3 ws3 gn3 ff3
              replace hm_198 := fun (_ : Unit) => hm_198
              refine j_blx (F := fX11) tb_X11 (nn_ _) bk_X11_postpone_f_198 bs_X11_postpone_f_198 hz (fun K hK => ?_)
              refine And.intro (fun c26 => ?_) (fun c26 => ?_)
              · refine hK 234 _ [] T3 ?_
                refine j_blx (F := fX11) tb_X11 (nn_ _) bk_X11_postpone_f_234 bs_X11_postpone_f_234 hz (fun K hK => ?_)
                refine rg_i (by omega) ?_
                refine hK 167 [some (vR 111 0), some (vI m), some (vI d), some (vI (T 234 0 m)), some (vI fr), some (vI (i + 1)), some (vI g), some (vI to), some (vI fr)] [] T3 ?_
                have w9 := (st2.resolve_right (fun y => by have := y.1; omega)).2.2 g (Or.inl ⟨by omega, gl2⟩)
                have y9 := lh2.1 i (by omega) (by omega)
                have gl3 : T3 271 0 i = g := (gs3 i).trans gl2.symm
                have ya : AGR_ T m d g := by rw [gl2]; exact y9.2.2.1
                have yg : 0 ≤ g ∧ g < T 111 0 29 := by rw [gl2]; exact ⟨y9.1, by have h9 : T2 271 0 i < T 111 0 29 := (by have h8 := y9.2.1; dsimp only at h8; omega); exact h9⟩
                have st3 : (fr = 1 ∧ (∀ j, 0 ≤ j → j < T 111 0 29 → AGR_ T m d j → TLR_ T j) ∧ ∀ K, KKG_ (fun j => T3 271 0 j) (i + 1) (T3 111 0 73) (T 111 0 29) K → (mvR_ T m d K).2 = 1 ∧ ∀ i9, T3 234 0 i9 = (mvR_ T m d K).1 i9) ∨ (fr = 0 ∧ (¬ ((∀ j, 0 ≤ j → j < T 111 0 29 → AGR_ T m d j → TLR_ T j) ∧ (mvR_ T m d (T 111 0 29)).2 = 1))) := by
                  rcases ff3 with z | z
                  · refine Or.inr ⟨z.1, fun c => ?_⟩
                    have tz : 999 < to := by omega
                    have e := z.2
                    rw [show (1000 - to).toNat = 0 by omega] at e
                    exact mvR_x yg.1 w9.1 ya e yg.2 c.2
                  · refine Or.inl ⟨z.1, (st2.resolve_right (fun y => by have := y.1; omega)).2.1, fun K hK => ?_⟩
                    have e1 := mvR_y yg.1 w9.1 ya (by rw [z.2.1]; omega)
                    have hK2 : KKG_ (fun j => T2 271 0 j) (i + 1) (T2 111 0 73) (T 111 0 29) K := by
                      rcases hK with ⟨a, b⟩ | ⟨a, b⟩
                      · exact Or.inl ⟨by rw [← gn3]; exact a, b.trans (gs3 _)⟩
                      · exact Or.inr ⟨by rw [← gn3]; exact a, b⟩
                    have kl := kk_l lh2 (by omega) (by omega) hK2
                    have kl2 : g + 1 ≤ K := by rw [gl2]; exact kl
                    have e2 := mvR_i (T := T) (p := m) (d := d) (A := g + 1) (B := K) (by omega) kl2 (fun q a b => kk_s lh2 (by omega) (by omega) hK2 (by omega) q (by rw [gl2] at a; exact a) b (by have := kk_b lh2 (by omega) (by omega) hK2; omega))
                    rw [e2, e1]
                    refine ⟨rfl, fun i9 => ?_⟩
                    show T3 234 0 i9 = u1_ _ g _ i9
                    by_cases zi : i9 = g
                    · rw [zi, u1_s, z.2.2, z.2.1]
                    · rw [u1_n zi, ot3 i9 zi]; exact w9.2 i9
                refine j_drq [some (vR 111 0), some (vI m), some (vI d), some (vI (T 234 0 m)), some (vI fr), some (vI (i + 1)), none, none, none] (drq_s (drq_s (drq_s (drq_s (drq_s (drq_s (drq_n (drq_n (drq_n drq_0))))))))) ?_
                refine ih_167 _ ?_ fr (i + 1) T3 (Nat.le_refl _) ?_ ?_ ?_ ?_ ?_ ?_ ?_ ?_
                · have hm_167 := hm_167 (); omega
                · exact fr_t (fr_0 _ _) (fr_s hf_198 rfl)
                · omega
                · omega
                · rw [gn3]
                  exact lhd_e lh2 (fun j _ _ => gs3 j)
                · intro j a b
                  rw [gn3] at b
                  rw [ws3, gs3]
                  exact wd2 j a b
                · rw [gn3]; exact gm2
                · intro x a b
                  have nx : x ≠ g := fun u => b i (by omega) (by omega) (gl3.trans u.symm)
                  rw [ot3 x nx]
                  exact rv2 x a (fun j c e => by show T2 271 0 j ≠ x; rw [← gs3 j]; exact b j c (by rw [gn3]; exact e))
                · exact st3
              · refine And.intro (fun c27 => ?_) (fun c27 => ?_)
                · refine hK 234 [some (vR 111 0), some (vI m), some (vI d), some (vI (T 234 0 m)), some (vI go), some (vI i), some (vI g), some (vI to), some (vI fr)] [] T3 ?_
                  refine j_blx (F := fX11) tb_X11 (nn_ _) bk_X11_postpone_f_234 bs_X11_postpone_f_234 hz (fun K hK => ?_)
                  refine rg_i (by omega) ?_
                  refine hK 167 [some (vR 111 0), some (vI m), some (vI d), some (vI (T 234 0 m)), some (vI fr), some (vI (i + 1)), some (vI g), some (vI to), some (vI fr)] [] T3 ?_
                  have w9 := (st2.resolve_right (fun y => by have := y.1; omega)).2.2 g (Or.inl ⟨by omega, gl2⟩)
                  have y9 := lh2.1 i (by omega) (by omega)
                  have gl3 : T3 271 0 i = g := (gs3 i).trans gl2.symm
                  have ya : AGR_ T m d g := by rw [gl2]; exact y9.2.2.1
                  have yg : 0 ≤ g ∧ g < T 111 0 29 := by rw [gl2]; exact ⟨y9.1, by have h9 : T2 271 0 i < T 111 0 29 := (by have h8 := y9.2.1; dsimp only at h8; omega); exact h9⟩
                  have st3 : (fr = 1 ∧ (∀ j, 0 ≤ j → j < T 111 0 29 → AGR_ T m d j → TLR_ T j) ∧ ∀ K, KKG_ (fun j => T3 271 0 j) (i + 1) (T3 111 0 73) (T 111 0 29) K → (mvR_ T m d K).2 = 1 ∧ ∀ i9, T3 234 0 i9 = (mvR_ T m d K).1 i9) ∨ (fr = 0 ∧ (¬ ((∀ j, 0 ≤ j → j < T 111 0 29 → AGR_ T m d j → TLR_ T j) ∧ (mvR_ T m d (T 111 0 29)).2 = 1))) := by
                    rcases ff3 with z | z
                    · refine Or.inr ⟨z.1, fun c => ?_⟩
                      have tz : 999 < to := by omega
                      have e := z.2
                      rw [show (1000 - to).toNat = 0 by omega] at e
                      exact mvR_x yg.1 w9.1 ya e yg.2 c.2
                    · refine Or.inl ⟨z.1, (st2.resolve_right (fun y => by have := y.1; omega)).2.1, fun K hK => ?_⟩
                      have e1 := mvR_y yg.1 w9.1 ya (by rw [z.2.1]; omega)
                      have hK2 : KKG_ (fun j => T2 271 0 j) (i + 1) (T2 111 0 73) (T 111 0 29) K := by
                        rcases hK with ⟨a, b⟩ | ⟨a, b⟩
                        · exact Or.inl ⟨by rw [← gn3]; exact a, b.trans (gs3 _)⟩
                        · exact Or.inr ⟨by rw [← gn3]; exact a, b⟩
                      have kl := kk_l lh2 (by omega) (by omega) hK2
                      have kl2 : g + 1 ≤ K := by rw [gl2]; exact kl
                      have e2 := mvR_i (T := T) (p := m) (d := d) (A := g + 1) (B := K) (by omega) kl2 (fun q a b => kk_s lh2 (by omega) (by omega) hK2 (by omega) q (by rw [gl2] at a; exact a) b (by have := kk_b lh2 (by omega) (by omega) hK2; omega))
                      rw [e2, e1]
                      refine ⟨rfl, fun i9 => ?_⟩
                      show T3 234 0 i9 = u1_ _ g _ i9
                      by_cases zi : i9 = g
                      · rw [zi, u1_s, z.2.2, z.2.1]
                      · rw [u1_n zi, ot3 i9 zi]; exact w9.2 i9
                  refine j_drq [some (vR 111 0), some (vI m), some (vI d), some (vI (T 234 0 m)), some (vI fr), some (vI (i + 1)), none, none, none] (drq_s (drq_s (drq_s (drq_s (drq_s (drq_s (drq_n (drq_n (drq_n drq_0))))))))) ?_
                  refine ih_167 _ ?_ fr (i + 1) T3 (Nat.le_refl _) ?_ ?_ ?_ ?_ ?_ ?_ ?_ ?_
                  · have hm_167 := hm_167 (); omega
                  · exact fr_t (fr_0 _ _) (fr_s hf_198 rfl)
                  · omega
                  · omega
                  · rw [gn3]
                    exact lhd_e lh2 (fun j _ _ => gs3 j)
                  · intro j a b
                    rw [gn3] at b
                    rw [ws3, gs3]
                    exact wd2 j a b
                  · rw [gn3]; exact gm2
                  · intro x a b
                    have nx : x ≠ g := fun u => b i (by omega) (by omega) (gl3.trans u.symm)
                    rw [ot3 x nx]
                    exact rv2 x a (fun j c e => by show T2 271 0 j ≠ x; rw [← gs3 j]; exact b j c (by rw [gn3]; exact e))
                  · exact st3
                · refine iy_i (by omega) (by omega) ?_
                  refine x_nm (fun U28 hU28 => ?_)
                  have e29 := up_f hU28
                  refine hK 223 [some (vR 111 0), some (vI m), some (vI d), some (vI (T 234 0 m)), some (vI go), some (vI i), some (vI g), some (vI to), some (vI fr)] [vI g, vR 111 0] U28 ?_
                  refine j_callV (y := yX11_nothingAgainst) (Yc := zX11_nothingAgainst) (rest := []) [vI g] (ct_X11_nothingAgainst_f (T := U28) (by omega)) cl_X11_359 (qd_c (by decide +kernel)) (nn_ _) rfl (rf_of rfl) (Nat.le_of_ble_eq_true rfl) (Nat.le_of_ble_eq_true rfl) (Nat.le_of_ble_eq_true rfl) rfl ?_
                  rintro _ _ ⟨rfl, x30, rfl, hx30⟩
                  have bx30 : 0 ≤ x30 ∧ x30 ≤ 1 := by rcases hx30 with z | z <;> (have := z.1; omega)
                  show J_ zX11_postpone T (po_X11_postpone_f T m d) 0 0 226 _ [vI x30] U28
                  refine j_blx (F := fX11) tb_X11 (nn_ _) bk_X11_postpone_f_226 bs_X11_postpone_f_226 hz (fun K hK => ?_)
                  refine rg_i (by omega) ?_
                  refine hK 198 [some (vR 111 0), some (vI m), some (vI d), some (vI (T 234 0 m)), some (vI go), some (vI i), some (vI g), some (vI (to + 1)), some (vI x30)] [] U28 ?_
                  have e31 : U28 111 0 73 = T3 111 0 73 := up_k hU28 (by exact Nat.ne_of_beq_eq_false rfl) 0 73
                  refine ih_198 _ ?_ g (to + 1) x30 U28 (Nat.le_refl _) ?_ ?_ ?_ ?_ ?_ ?_ ?_ ?_
                  · have hm_198 := hm_198 (); omega
                  · exact fr_u (fr_t (fr_0 _ _) (fr_s hf_198 rfl)) hU28 rfl
                  · omega
                  · exact gl2
                  · exact fun j hj => (up_g hU28 (fun z => hj z.2.2)).trans (ot3 j hj)
                  · exact fun j => (up_k hU28 (by exact Nat.ne_of_beq_eq_false rfl) 0 j).trans (gs3 j)
                  · exact fun j => (up_k hU28 (by exact Nat.ne_of_beq_eq_false rfl) 0 j).trans (ws3 j)
                  · exact (up_k hU28 (by exact Nat.ne_of_beq_eq_false rfl) 0 73).trans gn3
                  · have w9 := (st2.resolve_right (fun y => by have := y.1; omega)).2.2 g (Or.inl ⟨by omega, gl2⟩)
                    have e9 : BKR_ U28 (fun m => U28 234 0 m) g (U28 234 0 g) ↔ BKR_ T (mvR_ T m d g).1 g to := by
                      rw [bkr_k (kpr_f (ws := [(234, []), (271, []), (272, []), (111, [73])]) (fr_u (fr_t (fr_0 _ _) (fr_s hf_198 rfl)) hU28 rfl) ⟨fun _ => rfl, fun _ => rfl, fun _ => rfl, fun _ => rfl, fun _ => rfl, fun _ => rfl, rfl⟩), up_f hU28]
                      exact bkr_d (fun b hb => by show U28 234 0 b = _; rw [up_g hU28 (fun z => hb z.2.2), ot3 b hb]; exact w9.2 b)
                    have f9 := (ff3.resolve_right (fun y => by have := y.1; omega)).2
                    rw [show (1000 - to).toNat = (1000 - (to + 1)).toNat + 1 by omega] at f9
                    rcases hx30 with z | z
                    · refine Or.inr ⟨z.1, ?_, ?_⟩
                      · rw [f9, ffd_f (fun y => z.2 (e9.mpr y))]; omega
                      · rw [up_f hU28]; omega
                    · refine Or.inl ⟨z.1, ?_⟩
                      rw [f9, ffd_t (e9.mp z.2)]
          refine j_blx (F := fX11) tb_X11 (nn_ _) bk_X11_postpone_f_167 bs_X11_postpone_f_167 hz (fun K hK => ?_)
          intro b32 b32b
          refine And.intro (fun c33 => ?_) (fun c33 => ?_)
          · refine hK 244 _ [] T2 ?_
            refine j_drq [some (vR 111 0), some (vI m), some (vI d), some (vI (T 234 0 m)), some (vI go), none, none, none, none] (drq_s (drq_s (drq_s (drq_s (drq_s (drq_n (drq_n (drq_n (drq_n drq_0))))))))) ?_
            refine c_244 go T2 ?_ ?_ ?_ ?_ ?_ ?_ ?_ ?_
            · exact fr_t (fr_0 _ _) (fr_s hf_167 rfl)
            · omega
            · omega
            · have y9 := lh2
              exact y9
            · exact wd2
            · exact gm2
            · exact rv2
            · rcases st2 with z | z
              · have w := z.2.2 (T 111 0 29) (Or.inr ⟨by omega, rfl⟩)
                exact Or.inl ⟨z.1, z.2.1, w.1, w.2⟩
              · exact Or.inr z
          · refine And.intro (fun c34 => ?_) (fun c34 => ?_)
            · refine hK 244 [some (vR 111 0), some (vI m), some (vI d), some (vI (T 234 0 m)), some (vI go), some (vI i), none, none, none] [] T2 ?_
              refine j_drq [some (vR 111 0), some (vI m), some (vI d), some (vI (T 234 0 m)), some (vI go), none, none, none, none] (drq_s (drq_s (drq_s (drq_s (drq_s (drq_n (drq_n (drq_n (drq_n drq_0))))))))) ?_
              refine c_244 go T2 ?_ ?_ ?_ ?_ ?_ ?_ ?_ ?_
              · exact fr_t (fr_0 _ _) (fr_s hf_167 rfl)
              · omega
              · omega
              · have y9 := lh2
                exact y9
              · exact wd2
              · exact gm2
              · exact rv2
              · rcases st2 with z | z
                · have w := z.2.2 (T 111 0 29) (Or.inr ⟨by omega, rfl⟩)
                  exact Or.inl ⟨z.1, z.2.1, w.1, w.2⟩
                · exact Or.inr z
            · refine ix_i (by omega) ?_
              intro b35 b35b
              refine rg_i (by omega) ?_
              refine hK 198 [some (vR 111 0), some (vI m), some (vI d), some (vI (T 234 0 m)), some (vI go), some (vI i), some (vI (T2 271 0 i)), some (vI (d + 1)), some (vI 0)] [] T2 ?_
              refine c_198 _ (T2 271 0 i) (d + 1) 0 T2 (Nat.le_refl _) ?_ ?_ ?_ ?_ ?_ ?_ ?_ ?_
              · exact fr_t (fr_0 _ _) (fr_s hf_167 rfl)
              · omega
              · rfl
              · exact fun j _ => rfl
              · exact fun j => rfl
              · exact fun j => rfl
              · rfl
              · exact Or.inl ⟨rfl, by rw [show (1000 - (d + 1)).toNat = (999 - d).toNat by omega]⟩
      refine j_blx (F := fX11) tb_X11 (nn_ _) bk_X11_postpone_f_80 bs_X11_postpone_f_80 hz (fun K hK => ?_)
      intro b36 b36b
      have e37 : T1 111 0 29 = T 111 0 29 := hf_80 111 0 29 rfl
      rw [e37] at b36 b36b ⊢
      refine And.intro (fun c38 => ?_) (fun c38 => ?_)
      · refine hK 164 _ [] T1 ?_
        refine j_blx (F := fX11) tb_X11 (nn_ _) bk_X11_postpone_f_164 bs_X11_postpone_f_164 hz (fun K hK => ?_)
        refine hK 167 [some (vR 111 0), some (vI m), some (vI d), some (vI (T 234 0 m)), some (vI go), some (vI 0), none, none, none] [] T1 ?_
        refine c_167 _ go 0 T1 (Nat.le_refl _) ?_ ?_ ?_ ?_ ?_ ?_ ?_ ?_
        · exact fr_t (fr_0 _ _) (fr_s hf_80 rfl)
        · omega
        · omega
        · have y9 : LHD_ (fun _ => 0) (AGR_ T m d) (fun j => T1 271 0 j) 0 (T 111 0 29) 400 (T1 111 0 73) := by rw [show T 111 0 29 = k from Int.le_antisymm (by omega) (by omega)]; exact lh1
          exact y9
        · exact wd1
        · omega
        · exact fun x a _ => by rw [dy1 x, u1_n a]
        · rcases go1 with z | z
          · have al : ∀ j, 0 ≤ j → j < T 111 0 29 → AGR_ T m d j → TLR_ T j := fun j a b c => z.2 j a (by omega) c
            refine Or.inl ⟨z.1, al, fun K hK => ?_⟩
            have lh9 : LHD_ (fun _ => 0) (AGR_ T m d) (fun j => T1 271 0 j) 0 (T 111 0 29) 400 (T1 111 0 73) := by rw [show T 111 0 29 = k from Int.le_antisymm (by omega) (by omega)]; exact lh1
            have kb := kk_b lh9 (Int.le_refl 0) (by omega) hK
            have e := mvR_i (T := T) (p := m) (d := d) (A := 0) (B := K) (Int.le_refl 0) kb.1 (fun q a b => kk_0 lh9 hK (by omega) (by omega) q a b (by omega))
            rw [e]
            exact ⟨rfl, dy1⟩
          · exact Or.inr ⟨z.1, fun y => z.2 y.1⟩
      · refine hK 93 [some (vR 111 0), some (vI m), some (vI d), some (vI (T 234 0 m)), some (vI go), some (vI k), none, none, none] [vI k, vI m, vR 111 0] T1 ?_
        refine j_callV (y := yX11_standAgainst) (Yc := zX11_standAgainst) (rest := []) [vI m, vI k] (ct_X11_standAgainst_f (T := T1) (by omega) (by omega)) cl_X11_353 (qd_c (by decide +kernel)) (nn_ _) rfl (rf_of rfl) (Nat.le_of_ble_eq_true rfl) (Nat.le_of_ble_eq_true rfl) (Nat.le_of_ble_eq_true rfl) rfl ?_
        rintro _ _ ⟨rfl, x39, rfl, hx39⟩
        have bx39 : 0 ≤ x39 ∧ x39 ≤ 1 := by rcases hx39 with z | z <;> (have := z.1; omega)
        show J_ zX11_postpone T (po_X11_postpone_f T m d) 0 0 96 _ [vI x39] T1
        have ag9 : (x39 = 1 ∧ AGR_ T m d k) ∨ (x39 = 0 ∧ ¬ AGR_ T m d k) := by
          have e9 : SAR_ T1 (fun m => T1 234 0 m) m k (T1 234 0 m) ↔ AGR_ T m d k := by
            rw [sar_k (kpr_f (ws := [(234, []), (271, []), (272, []), (111, [73])]) (fr_t (fr_0 _ _) (fr_s hf_80 rfl)) ⟨fun _ => rfl, fun _ => rfl, fun _ => rfl, fun _ => rfl, fun _ => rfl, fun _ => rfl, rfl⟩), dy1 m, u1_s]
            exact sar_d (fun z => by show T1 234 0 k = T 234 0 k; rw [dy1 k, u1_n z])
          rcases hx39 with z | z
          · exact Or.inl ⟨z.1, e9.mp z.2⟩
          · exact Or.inr ⟨z.1, fun y => z.2 (e9.mpr y)⟩
        refine j_blx (F := fX11) tb_X11 (nn_ _) bk_X11_postpone_f_96 bs_X11_postpone_f_96 hz (fun K hK => ?_)
        refine And.intro (fun c40 => ?_) (fun c40 => ?_)
        · refine hK 158 _ [] T1 ?_
          refine j_blx (F := fX11) tb_X11 (nn_ _) bk_X11_postpone_f_158 bs_X11_postpone_f_158 hz (fun K hK => ?_)
          refine rg_i (by omega) ?_
          refine hK 80 [some (vR 111 0), some (vI m), some (vI d), some (vI (T 234 0 m)), some (vI go), some (vI (k + 1)), none, none, none] [] T1 ?_
          refine ih_80 _ ?_ go (k + 1) T1 (Nat.le_refl _) ?_ ?_ ?_ ?_ ?_ ?_ ?_
          · have hm_80 := hm_80 (); omega
          · exact fr_t (fr_0 _ _) (fr_s hf_80 rfl)
          · omega
          · omega
          · exact dy1
          · have y9 := lhd_n lh1 (fun z => by
              have z1 : AGR_ T m d (0 + k) := z.1
              rw [Int.zero_add] at z1
              rcases ag9 with y | y
              · omega
              · exact y.2 z1)
            exact y9
          · exact wd1
          · rcases go1 with z | z
            · refine Or.inl ⟨z.1, fun j a b c => ?_⟩
              by_cases y : j = k
              · rw [y] at c; exact absurd c (ag9.resolve_left (fun y => by have := y.1; omega)).2
              · exact z.2 j a (by omega) c
            · exact Or.inr z
        · intro b41 b41b
          refine iy_i (by omega) (by omega) ?_
          refine x_nm (fun U42 hU42 => ?_)
          have e43 := up_f hU42
          intro b44 b44b
          have e45 : U42 111 0 73 = T1 111 0 73 := up_k hU42 (by exact Nat.ne_of_beq_eq_false rfl) 0 73
          rw [e45] at b44 b44b ⊢
          refine ix_i (by omega) ?_
          intro b46 b46b
          have e47 : U42 234 0 k = T1 234 0 k := up_k hU42 (by exact Nat.ne_of_beq_eq_false rfl) 0 k
          rw [e47] at b46 b46b ⊢
          refine iy_i (by omega) (by omega) ?_
          refine x_nm (fun U48 hU48 => ?_)
          have e49 := up_f hU48
          intro b50 b50b
          have e51 : U48 111 0 73 = T1 111 0 73 := (up_k hU48 (by exact Nat.ne_of_beq_eq_false rfl) 0 73).trans (up_k hU42 (by exact Nat.ne_of_beq_eq_false rfl) 0 73)
          rw [e51] at b50 b50b ⊢
          refine rg_i (by omega) ?_
          refine bd_i (by omega) ?_
          refine x_nm (fun U52 hU52 => ?_)
          have e53 := up_f hU52
          refine And.intro (fun c54 => ?_) (fun c54 => ?_)
          · refine hK 155 [some (vR 111 0), some (vI m), some (vI d), some (vI (T 234 0 m)), some (vI go), some (vI k), none, none, none] [] U52 ?_
            refine j_blx (F := fX11) tb_X11 (nn_ _) bk_X11_postpone_f_155 bs_X11_postpone_f_155 hz (fun K hK => ?_)
            refine rg_i (by omega) ?_
            refine hK 80 [some (vR 111 0), some (vI m), some (vI d), some (vI (T 234 0 m)), some (vI 0), some (vI (k + 1)), none, none, none] [] U52 ?_
            have e55 : U52 111 0 73 = (T1 111 0 73) + 1 := up_f hU52
            refine ih_80 _ ?_ 0 (k + 1) U52 (Nat.le_refl _) ?_ ?_ ?_ ?_ ?_ ?_ ?_
            · have hm_80 := hm_80 (); omega
            · exact fr_u (fr_u (fr_u (fr_t (fr_0 _ _) (fr_s hf_80 rfl)) hU42 rfl) hU48 rfl) hU52 rfl
            · omega
            · omega
            · intro i
              rw [(up_k hU52 (by exact Nat.ne_of_beq_eq_false rfl) 0 i).trans ((up_k hU48 (by exact Nat.ne_of_beq_eq_false rfl) 0 i).trans (up_k hU42 (by exact Nat.ne_of_beq_eq_false rfl) 0 i))]
              exact dy1 i
            have e56 : U52 111 0 73 = (T1 111 0 73) + 1 := up_f hU52
            · rw [show U52 111 0 73 = T1 111 0 73 + 1 from Int.le_antisymm (by omega) (by omega)]
              exact lhd_i (t := T1 111 0 73) (m := k) lh1 (by omega) (by omega) (by omega) (by omega) (ag9.resolve_right (fun y => by have := y.1; omega)).2 (by show (0 : Int) * 400 + k < 400; omega) (by omega) (by omega) (fun j a b => by omega) (by first | exact Or.inl (by omega) | exact Or.inr (Int.le_refl _)) (fun j a b => ((up_k hU52 (by exact Nat.ne_of_beq_eq_false rfl) 0 j).trans (up_k hU48 (by exact Nat.ne_of_beq_eq_false rfl) 0 j)).trans (up_g hU42 (fun z => by omega))) (((up_k hU52 (by exact Nat.ne_of_beq_eq_false rfl) 0 (T1 111 0 73)).trans (up_k hU48 (by exact Nat.ne_of_beq_eq_false rfl) 0 (T1 111 0 73))).trans (up_f hU42)) (fun j a b => by omega)
            have e57 : U52 111 0 73 = (T1 111 0 73) + 1 := up_f hU52
            · intro j a b
              have g9 : U52 271 0 j = if j = T1 111 0 73 then k else T1 271 0 j := by
                rw [(up_k hU52 (by exact Nat.ne_of_beq_eq_false rfl) 0 j).trans (up_k hU48 (by exact Nat.ne_of_beq_eq_false rfl) 0 j)]
                by_cases z : j = T1 111 0 73
                · rw [if_pos z, z]; exact up_f hU42
                · rw [if_neg z]; exact (up_g hU42 (fun q => z q.2.2)).trans (rfl)
              have w9 : U52 272 0 j = if j = T1 111 0 73 then T1 234 0 k else T1 272 0 j := by
                rw [up_k hU52 (by exact Nat.ne_of_beq_eq_false rfl) 0 j]
                by_cases z : j = T1 111 0 73
                · rw [if_pos z, z, up_f hU48] <;> omega
                · rw [if_neg z]; exact (up_g hU48 (fun q => z q.2.2)).trans (up_k hU42 (by exact Nat.ne_of_beq_eq_false rfl) 0 j)
              by_cases z : j = T1 111 0 73
              · rw [if_pos z] at g9 w9
                have nk : k ≠ m := fun u => (ag9.resolve_right (fun y => by have := y.1; omega)).2.1 u.symm
                rw [w9, g9, dy1 k, u1_n nk]
              · rw [if_neg z] at g9 w9
                rw [w9, g9]
                exact wd1 j a (by omega)
            · first
              | exact Or.inr ⟨rfl, fun y => by have z := y k (by omega) (by omega) (ag9.resolve_right (fun y => by have := y.1; omega)).2; unfold TLR_ at z; omega⟩
              | exact Or.inr ⟨rfl, (go1.resolve_left (fun y => by have := y.1; omega)).2⟩
          · refine ix_i (by omega) ?_
            intro b58 b58b
            have e59 : U52 235 0 k = T 235 0 k := (up_k hU52 (by exact Nat.ne_of_beq_eq_false rfl) 0 k).trans ((up_k hU48 (by exact Nat.ne_of_beq_eq_false rfl) 0 k).trans ((up_k hU42 (by exact Nat.ne_of_beq_eq_false rfl) 0 k).trans (hf_80 235 0 k rfl)))
            rw [e59] at b58 b58b ⊢
            refine And.intro (fun c60 => ?_) (fun c60 => ?_)
            · refine hK 155 [some (vR 111 0), some (vI m), some (vI d), some (vI (T 234 0 m)), some (vI go), some (vI k), none, none, none] [] U52 ?_
              refine j_blx (F := fX11) tb_X11 (nn_ _) bk_X11_postpone_f_155 bs_X11_postpone_f_155 hz (fun K hK => ?_)
              refine rg_i (by omega) ?_
              refine hK 80 [some (vR 111 0), some (vI m), some (vI d), some (vI (T 234 0 m)), some (vI 0), some (vI (k + 1)), none, none, none] [] U52 ?_
              have e61 : U52 111 0 73 = (T1 111 0 73) + 1 := up_f hU52
              refine ih_80 _ ?_ 0 (k + 1) U52 (Nat.le_refl _) ?_ ?_ ?_ ?_ ?_ ?_ ?_
              · have hm_80 := hm_80 (); omega
              · exact fr_u (fr_u (fr_u (fr_t (fr_0 _ _) (fr_s hf_80 rfl)) hU42 rfl) hU48 rfl) hU52 rfl
              · omega
              · omega
              · intro i
                rw [(up_k hU52 (by exact Nat.ne_of_beq_eq_false rfl) 0 i).trans ((up_k hU48 (by exact Nat.ne_of_beq_eq_false rfl) 0 i).trans (up_k hU42 (by exact Nat.ne_of_beq_eq_false rfl) 0 i))]
                exact dy1 i
              have e62 : U52 111 0 73 = (T1 111 0 73) + 1 := up_f hU52
              · rw [show U52 111 0 73 = T1 111 0 73 + 1 from Int.le_antisymm (by omega) (by omega)]
                exact lhd_i (t := T1 111 0 73) (m := k) lh1 (by omega) (by omega) (by omega) (by omega) (ag9.resolve_right (fun y => by have := y.1; omega)).2 (by show (0 : Int) * 400 + k < 400; omega) (by omega) (by omega) (fun j a b => by omega) (by first | exact Or.inl (by omega) | exact Or.inr (Int.le_refl _)) (fun j a b => ((up_k hU52 (by exact Nat.ne_of_beq_eq_false rfl) 0 j).trans (up_k hU48 (by exact Nat.ne_of_beq_eq_false rfl) 0 j)).trans (up_g hU42 (fun z => by omega))) (((up_k hU52 (by exact Nat.ne_of_beq_eq_false rfl) 0 (T1 111 0 73)).trans (up_k hU48 (by exact Nat.ne_of_beq_eq_false rfl) 0 (T1 111 0 73))).trans (up_f hU42)) (fun j a b => by omega)
              have e63 : U52 111 0 73 = (T1 111 0 73) + 1 := up_f hU52
              · intro j a b
                have g9 : U52 271 0 j = if j = T1 111 0 73 then k else T1 271 0 j := by
                  rw [(up_k hU52 (by exact Nat.ne_of_beq_eq_false rfl) 0 j).trans (up_k hU48 (by exact Nat.ne_of_beq_eq_false rfl) 0 j)]
                  by_cases z : j = T1 111 0 73
                  · rw [if_pos z, z]; exact up_f hU42
                  · rw [if_neg z]; exact (up_g hU42 (fun q => z q.2.2)).trans (rfl)
                have w9 : U52 272 0 j = if j = T1 111 0 73 then T1 234 0 k else T1 272 0 j := by
                  rw [up_k hU52 (by exact Nat.ne_of_beq_eq_false rfl) 0 j]
                  by_cases z : j = T1 111 0 73
                  · rw [if_pos z, z, up_f hU48] <;> omega
                  · rw [if_neg z]; exact (up_g hU48 (fun q => z q.2.2)).trans (up_k hU42 (by exact Nat.ne_of_beq_eq_false rfl) 0 j)
                by_cases z : j = T1 111 0 73
                · rw [if_pos z] at g9 w9
                  have nk : k ≠ m := fun u => (ag9.resolve_right (fun y => by have := y.1; omega)).2.1 u.symm
                  rw [w9, g9, dy1 k, u1_n nk]
                · rw [if_neg z] at g9 w9
                  rw [w9, g9]
                  exact wd1 j a (by omega)
              · first
                | exact Or.inr ⟨rfl, fun y => by have z := y k (by omega) (by omega) (ag9.resolve_right (fun y => by have := y.1; omega)).2; unfold TLR_ at z; omega⟩
                | exact Or.inr ⟨rfl, (go1.resolve_left (fun y => by have := y.1; omega)).2⟩
            · refine hK 156 [some (vR 111 0), some (vI m), some (vI d), some (vI (T 234 0 m)), some (vI go), some (vI k), none, none, none] [vI 1] U52 ?_
              refine j_blx (F := fX11) tb_X11 (nn_ _) bk_X11_postpone_f_156 bs_X11_postpone_f_156 hz (fun K hK => ?_)
              refine rg_i (by omega) ?_
              refine hK 80 [some (vR 111 0), some (vI m), some (vI d), some (vI (T 234 0 m)), some (vI 1), some (vI (k + 1)), none, none, none] [] U52 ?_
              have e64 : U52 111 0 73 = (T1 111 0 73) + 1 := up_f hU52
              refine ih_80 _ ?_ 1 (k + 1) U52 (Nat.le_refl _) ?_ ?_ ?_ ?_ ?_ ?_ ?_
              · have hm_80 := hm_80 (); omega
              · exact fr_u (fr_u (fr_u (fr_t (fr_0 _ _) (fr_s hf_80 rfl)) hU42 rfl) hU48 rfl) hU52 rfl
              · omega
              · omega
              · intro i
                rw [(up_k hU52 (by exact Nat.ne_of_beq_eq_false rfl) 0 i).trans ((up_k hU48 (by exact Nat.ne_of_beq_eq_false rfl) 0 i).trans (up_k hU42 (by exact Nat.ne_of_beq_eq_false rfl) 0 i))]
                exact dy1 i
              have e65 : U52 111 0 73 = (T1 111 0 73) + 1 := up_f hU52
              · rw [show U52 111 0 73 = T1 111 0 73 + 1 from Int.le_antisymm (by omega) (by omega)]
                exact lhd_i (t := T1 111 0 73) (m := k) lh1 (by omega) (by omega) (by omega) (by omega) (ag9.resolve_right (fun y => by have := y.1; omega)).2 (by show (0 : Int) * 400 + k < 400; omega) (by omega) (by omega) (fun j a b => by omega) (by first | exact Or.inl (by omega) | exact Or.inr (Int.le_refl _)) (fun j a b => ((up_k hU52 (by exact Nat.ne_of_beq_eq_false rfl) 0 j).trans (up_k hU48 (by exact Nat.ne_of_beq_eq_false rfl) 0 j)).trans (up_g hU42 (fun z => by omega))) (((up_k hU52 (by exact Nat.ne_of_beq_eq_false rfl) 0 (T1 111 0 73)).trans (up_k hU48 (by exact Nat.ne_of_beq_eq_false rfl) 0 (T1 111 0 73))).trans (up_f hU42)) (fun j a b => by omega)
              have e66 : U52 111 0 73 = (T1 111 0 73) + 1 := up_f hU52
              · intro j a b
                have g9 : U52 271 0 j = if j = T1 111 0 73 then k else T1 271 0 j := by
                  rw [(up_k hU52 (by exact Nat.ne_of_beq_eq_false rfl) 0 j).trans (up_k hU48 (by exact Nat.ne_of_beq_eq_false rfl) 0 j)]
                  by_cases z : j = T1 111 0 73
                  · rw [if_pos z, z]; exact up_f hU42
                  · rw [if_neg z]; exact (up_g hU42 (fun q => z q.2.2)).trans (rfl)
                have w9 : U52 272 0 j = if j = T1 111 0 73 then T1 234 0 k else T1 272 0 j := by
                  rw [up_k hU52 (by exact Nat.ne_of_beq_eq_false rfl) 0 j]
                  by_cases z : j = T1 111 0 73
                  · rw [if_pos z, z, up_f hU48] <;> omega
                  · rw [if_neg z]; exact (up_g hU48 (fun q => z q.2.2)).trans (up_k hU42 (by exact Nat.ne_of_beq_eq_false rfl) 0 j)
                by_cases z : j = T1 111 0 73
                · rw [if_pos z] at g9 w9
                  have nk : k ≠ m := fun u => (ag9.resolve_right (fun y => by have := y.1; omega)).2.1 u.symm
                  rw [w9, g9, dy1 k, u1_n nk]
                · rw [if_neg z] at g9 w9
                  rw [w9, g9]
                  exact wd1 j a (by omega)
              · have z := go1.resolve_right (fun y => by have := y.1; omega)
                refine Or.inl ⟨rfl, fun j a b c => ?_⟩
                by_cases y : j = k
                · rw [y]; unfold TLR_; omega
                · exact z.2 j a (by omega) c
  refine j_blx (F := fX11) tb_X11 (nn_ _) bk_X11_postpone_f_0 bs_X11_postpone_f_0 hz (fun K hK => ?_)
  intro b67 b67b
  refine hK 5 _ [vI (T 111 0 29), vI m] T ?_
  refine j_callS (y := yX11_isOf) (Yc := zX11_isOf) (rest := []) [vI m, vI (T 111 0 29)] (ct_X11_isOf (T := T) (by omega)) cl_X11_317 (qd_c (by decide +kernel)) (nn_ _) rfl (rf_of rfl) (Nat.le_of_ble_eq_true rfl) (Nat.le_of_ble_eq_true rfl) (Nat.le_of_ble_eq_true rfl) rfl ?_
  rintro _ _ ⟨rfl, x68, rfl, hx68⟩
  show J_ zX11_postpone T (po_X11_postpone_f T m d) 0 0 8 _ [vI x68] T
  refine j_blx (F := fX11) tb_X11 (nn_ _) bk_X11_postpone_f_8 bs_X11_postpone_f_8 hz (fun K hK => ?_)
  refine And.intro (fun c69 => ?_) (fun c69 => ?_)
  · replace hx68 := hx68.resolve_right (fun z => c69 z.1)
    clear c69
    refine hK 14 _ [] T ?_
    refine j_blx (F := fX11) tb_X11 (nn_ _) bk_X11_postpone_f_14 bs_X11_postpone_f_14 hz (fun K hK => ?_)
    intro b70 b70b
    refine rg_i (by omega) ?_
    refine hK 24 _ [vI 999, vI ((T 111 0 3) + 1), vI d] T ?_
    refine j_callS (y := yX11_in) (Yc := zX11_in) (rest := []) [vI d, vI ((T 111 0 3) + 1), vI 999] (ct_X11_in (T := T)) cl_X11_255 (qd_c (by decide +kernel)) (nn_ _) rfl (rf_of rfl) (Nat.le_of_ble_eq_true rfl) (Nat.le_of_ble_eq_true rfl) (Nat.le_of_ble_eq_true rfl) rfl ?_
    rintro _ _ ⟨rfl, x71, rfl, hx71⟩
    show J_ zX11_postpone T (po_X11_postpone_f T m d) 0 0 27 _ [vI x71] T
    refine j_blx (F := fX11) tb_X11 (nn_ _) bk_X11_postpone_f_27 bs_X11_postpone_f_27 hz (fun K hK => ?_)
    refine And.intro (fun c72 => ?_) (fun c72 => ?_)
    · replace hx71 := hx71.resolve_right (fun z => c72 z.1)
      clear c72
      refine hK 33 _ [] T ?_
      refine j_blx (F := fX11) tb_X11 (nn_ _) bk_X11_postpone_f_33 bs_X11_postpone_f_33 hz (fun K hK => ?_)
      refine ix_i (by omega) ?_
      intro b73 b73b
      refine And.intro (fun c74 => ?_) (fun c74 => ?_)
      · refine hK 52 _ [] T ?_
        refine j_blx (F := fX11) tb_X11 (nn_ _) bk_X11_postpone_f_52 bs_X11_postpone_f_52 hz (fun K hK => ?_)
        refine (show po_X11_postpone_f T m d T (some (vI (-4))) from ?_)
        exact ⟨_, rfl, fr_0 _ _, Or.inr ⟨by omega, Or.inr ⟨by omega, Or.inl ⟨rfl, by omega, rfl⟩⟩⟩⟩
      · refine ix_i (by omega) ?_
        intro b75 b75b
        refine And.intro (fun c76 => ?_) (fun c76 => ?_)
        · refine hK 55 _ [] T ?_
          refine j_blx (F := fX11) tb_X11 (nn_ _) bk_X11_postpone_f_55 bs_X11_postpone_f_55 hz (fun K hK => ?_)
          refine ix_i (by omega) ?_
          intro b77 b77b
          refine iy_i (by omega) (by omega) ?_
          refine x_nm (fun U78 hU78 => ?_)
          have e79 := up_f hU78
          refine bd_i (by omega) ?_
          refine x_nm (fun U80 hU80 => ?_)
          have e81 := up_f hU80
          refine hK 80 [some (vR 111 0), some (vI m), some (vI d), some (vI (T 234 0 m)), some (vI 1), some (vI 0), none, none, none] [] U80 ?_
          have e82 : U80 111 0 73 = 0 := up_f hU80
          refine c_80 _ 1 0 U80 (Nat.le_refl _) ?_ ?_ ?_ ?_ ?_ ?_ ?_
          · exact fr_u (fr_u (fr_0 _ _) hU78 rfl) hU80 rfl
          · omega
          · omega
          · intro i
            rw [up_k hU80 (by exact Nat.ne_of_beq_eq_false rfl) 0 i]
            by_cases z : i = m
            · rw [z, u1_s]; exact up_f hU78
            · rw [u1_n z]; exact up_g hU78 (fun q => z q.2.2)
          · rw [up_f hU80]
            exact lhd_0
          · intro j a b; omega
          · exact Or.inl ⟨rfl, fun j a b => by omega⟩
        · refine (show po_X11_postpone_f T m d T (some (vI (-4))) from ?_)
          exact ⟨_, rfl, fr_0 _ _, Or.inr ⟨by omega, Or.inr ⟨by omega, Or.inl ⟨rfl, by omega, rfl⟩⟩⟩⟩
    · replace hx71 := hx71.resolve_left (fun z => absurd (c72.symm.trans z.1) (by decide))
      clear c72
      refine (show po_X11_postpone_f T m d T (some (vI (-3))) from ?_)
      exact ⟨_, rfl, fr_0 _ _, Or.inr ⟨by omega, Or.inl ⟨rfl, by omega, rfl⟩⟩⟩
  · replace hx68 := hx68.resolve_left (fun z => absurd (c69.symm.trans z.1) (by decide))
    clear c69
    refine (show po_X11_postpone_f T m d T (some (vI (-2))) from ?_)
    exact ⟨_, rfl, fr_0 _ _, Or.inl ⟨rfl, by omega, rfl⟩⟩

