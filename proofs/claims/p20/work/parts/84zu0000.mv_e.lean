-- putting off: what stands against a match, the first free day, one after the other
def SAG_ (sq hq : Int → Int → Prop) (rs : Int → Int) (ab : Int → Prop) (day : Int → Int) (a b d : Int) : Prop := a ≠ b ∧ ab a ∧ ab b ∧ ((d = day b ∧ sq a b) ∨ (((d - day b < rs a ∧ day b - d < rs a) ∨ (d - day b < rs b ∧ day b - d < rs b)) ∧ hq a b))
theorem sa_e {sq hq sq' hq' : Int → Int → Prop} {rs rs' : Int → Int} {ab ab' : Int → Prop} {day day' : Int → Int} {a b d : Int} (h1 : sq' a b ↔ sq a b) (h2 : hq' a b ↔ hq a b) (h3 : rs' a = rs a ∧ rs' b = rs b) (h4 : ab' a ↔ ab a) (h5 : ab' b ↔ ab b) (h6 : day' b = day b) : SAG_ sq' hq' rs' ab' day' a b d ↔ SAG_ sq hq rs ab day a b d := by
  unfold SAG_
  rw [h1, h2, h3.1, h3.2, h4, h5, h6]
/-- from d on, n days: the first that is not P, or -1 -/
noncomputable def ffd_ (P : Int → Prop) : Nat → Int → Int
  | 0, _ => -1
  | n + 1, d => cz_ (P d) (ffd_ P n (d + 1)) d
theorem ffd_t {P : Int → Prop} {n : Nat} {d : Int} (h : P d) : ffd_ P (n + 1) d = ffd_ P n (d + 1) := cz_t h
theorem ffd_f {P : Int → Prop} {n : Nat} {d : Int} (h : ¬ P d) : ffd_ P (n + 1) d = d := cz_f h
theorem ffd_p {P : Int → Prop} : ∀ (n : Nat) (d : Int), ffd_ P n d ≠ -1 → ¬ P (ffd_ P n d)
  | 0, _, h => absurd rfl h
  | n + 1, d, h => by
    by_cases z : P d
    · rw [ffd_t z] at h ⊢
      exact ffd_p n (d + 1) h
    · rw [ffd_f z]; exact z
theorem ffd_e {P Q : Int → Prop} : ∀ (n : Nat) (d : Int), (∀ x, d ≤ x → x < d + (n : Int) → (P x ↔ Q x)) → ffd_ P n d = ffd_ Q n d
  | 0, _, _ => rfl
  | n + 1, d, h => by
    have y := h d (Int.le_refl _) (by omega)
    by_cases z : P d
    · rw [ffd_t z, ffd_t (y.mp z)]
      exact ffd_e n (d + 1) (fun x a b => h x (by omega) (by omega))
    · rw [ffd_f z, ffd_f (fun q => z (y.mpr q))]
/-- a day that is blocked for match k -/
def BK_ (sq hq : Int → Int → Prop) (rs : Int → Int) (ab : Int → Prop) (n : Int) (day : Int → Int) (k d : Int) : Prop := ∃ b, 0 ≤ b ∧ b < n ∧ SAG_ sq hq rs ab day k b d
def u1_ (f : Int → Int) (i v : Int) : Int → Int := fun j => if j = i then v else f j
theorem u1_s {f : Int → Int} {i v : Int} : u1_ f i v i = v := if_pos rfl
theorem u1_n {f : Int → Int} {i v j : Int} (h : j ≠ i) : u1_ f i v j = f j := if_neg h
/-- the moves, one match after the other -/
noncomputable def mv_ (bk : (Int → Int) → Int → Int → Prop) (ag : Int → Prop) (d : Int) (day : Int → Int) : Nat → (Int → Int) × Int
  | 0 => (day, 1)
  | k + 1 => cz_ ((mv_ bk ag d day k).2 = 1 ∧ ag (k : Int)) (cz_ (ffd_ (bk (mv_ bk ag d day k).1 (k : Int)) (999 - d).toNat (d + 1) = -1) ((mv_ bk ag d day k).1, 0) (u1_ (mv_ bk ag d day k).1 (k : Int) (ffd_ (bk (mv_ bk ag d day k).1 (k : Int)) (999 - d).toNat (d + 1)), 1)) (mv_ bk ag d day k)
theorem mv_n {bk : (Int → Int) → Int → Int → Prop} {ag : Int → Prop} {d : Int} {day : Int → Int} {k : Nat} (h : ¬ ((mv_ bk ag d day k).2 = 1 ∧ ag (k : Int))) : mv_ bk ag d day (k + 1) = mv_ bk ag d day k := cz_f h
theorem mv_x {bk : (Int → Int) → Int → Int → Prop} {ag : Int → Prop} {d : Int} {day : Int → Int} {k : Nat} (h : (mv_ bk ag d day k).2 = 1 ∧ ag (k : Int)) (g : ffd_ (bk (mv_ bk ag d day k).1 (k : Int)) (999 - d).toNat (d + 1) = -1) : mv_ bk ag d day (k + 1) = ((mv_ bk ag d day k).1, 0) := by
  show cz_ _ _ _ = _
  rw [cz_t h, cz_t g]
theorem mv_y {bk : (Int → Int) → Int → Int → Prop} {ag : Int → Prop} {d : Int} {day : Int → Int} {k : Nat} (h : (mv_ bk ag d day k).2 = 1 ∧ ag (k : Int)) (g : ffd_ (bk (mv_ bk ag d day k).1 (k : Int)) (999 - d).toNat (d + 1) ≠ -1) : mv_ bk ag d day (k + 1) = (u1_ (mv_ bk ag d day k).1 (k : Int) (ffd_ (bk (mv_ bk ag d day k).1 (k : Int)) (999 - d).toNat (d + 1)), 1) := by
  show cz_ _ _ _ = _
  rw [cz_t h, cz_f g]
theorem mv_g {bk : (Int → Int) → Int → Int → Prop} {ag : Int → Prop} {d : Int} {day : Int → Int} (A : Nat) : ∀ t : Nat, (∀ k, (A : Int) ≤ k → k < (A : Int) + (t : Int) → ¬ ag k) → mv_ bk ag d day (A + t) = mv_ bk ag d day A
  | 0, _ => rfl
  | t + 1, h => by
    show mv_ bk ag d day (A + t + 1) = _
    rw [mv_n (fun c => h ((A + t : Nat) : Int) (by omega) (by omega) c.2)]
    exact mv_g A t (fun k a b => h k a (by omega))
theorem mv_i {bk : (Int → Int) → Int → Int → Prop} {ag : Int → Prop} {d : Int} {day : Int → Int} {A B : Int} (h0 : 0 ≤ A) (h1 : A ≤ B) (h : ∀ k, A ≤ k → k < B → ¬ ag k) : mv_ bk ag d day B.toNat = mv_ bk ag d day A.toNat := by
  rw [show B.toNat = A.toNat + (B - A).toNat by omega]
  exact mv_g A.toNat (B - A).toNat (fun k a b => h k (by omega) (by omega))
/-- once it has failed it stays so -/
theorem mv_z {bk : (Int → Int) → Int → Int → Prop} {ag : Int → Prop} {d : Int} {day : Int → Int} (A : Nat) (h : (mv_ bk ag d day A).2 ≠ 1) : ∀ t : Nat, mv_ bk ag d day (A + t) = mv_ bk ag d day A
  | 0 => rfl
  | t + 1 => by
    show mv_ bk ag d day (A + t + 1) = _
    rw [mv_n (fun c => h (by rw [mv_z A h t] at c; exact c.1))]
    exact mv_z A h t
/-- those that were not moved keep their days -/
theorem mv_k {bk : (Int → Int) → Int → Int → Prop} {ag : Int → Prop} {d : Int} {day : Int → Int} {j : Int} : ∀ k : Nat, (¬ ag j ∨ (k : Int) ≤ j ∨ j < 0) → (mv_ bk ag d day k).1 j = day j
  | 0, _ => rfl
  | k + 1, h => by
    have ih := mv_k (bk := bk) (ag := ag) (d := d) (day := day) (j := j) k (h.elim Or.inl (fun y => Or.inr (by omega)))
    by_cases z : (mv_ bk ag d day k).2 = 1 ∧ ag (k : Int)
    · by_cases g : ffd_ (bk (mv_ bk ag d day k).1 (k : Int)) (999 - d).toNat (d + 1) = -1
      · rw [mv_x z g]; exact ih
      · rw [mv_y z g]
        show u1_ _ (k : Int) _ j = _
        by_cases w : j = (k : Int)
        · rcases h with h | h | h
          · exact absurd (w ▸ z.2) h
          · omega
          · omega
        · rw [u1_n w]; exact ih
    · rw [mv_n z]; exact ih
/-- both sides move alike -/
theorem mv_e {bk bk' : (Int → Int) → Int → Int → Prop} {ag ag' : Int → Prop} {d : Int} {day day' : Int → Int} {n : Int} (he : ∀ j, 0 ≤ j → j < n → day' j = day j) (ha : ∀ k, 0 ≤ k → k < n → (ag' k ↔ ag k)) (hb : ∀ (f f' : Int → Int) (k x : Int), (∀ j, 0 ≤ j → j < n → f' j = f j) → 0 ≤ k → k < n → (bk' f' k x ↔ bk f k x)) : ∀ k : Nat, (k : Int) ≤ n → (mv_ bk' ag' d day' k).2 = (mv_ bk ag d day k).2 ∧ ∀ j, 0 ≤ j → j < n → (mv_ bk' ag' d day' k).1 j = (mv_ bk ag d day k).1 j
  | 0, _ => ⟨rfl, he⟩
  | k + 1, hk => by
    have ih := mv_e (d := d) he ha hb k (by omega)
    have ff : ffd_ (bk' (mv_ bk' ag' d day' k).1 (k : Int)) (999 - d).toNat (d + 1) = ffd_ (bk (mv_ bk ag d day k).1 (k : Int)) (999 - d).toNat (d + 1) := ffd_e _ _ (fun x _ _ => hb _ _ (k : Int) x ih.2 (by omega) (by omega))
    by_cases z : (mv_ bk ag d day k).2 = 1 ∧ ag (k : Int)
    · have z' : (mv_ bk' ag' d day' k).2 = 1 ∧ ag' (k : Int) := ⟨ih.1.trans z.1, (ha _ (by omega) (by omega)).mpr z.2⟩
      by_cases g : ffd_ (bk (mv_ bk ag d day k).1 (k : Int)) (999 - d).toNat (d + 1) = -1
      · rw [mv_x z g, mv_x z' (ff.trans g)]
        exact ⟨rfl, ih.2⟩
      · rw [mv_y z g, mv_y z' (fun y => g (ff.symm.trans y)), ff]
        refine ⟨rfl, fun j a b => ?_⟩
        show u1_ _ (k : Int) _ j = u1_ _ (k : Int) _ j
        by_cases w : j = (k : Int)
        · rw [w, u1_s, u1_s]
        · rw [u1_n w, u1_n w]; exact ih.2 j a b
    · have z' : ¬ ((mv_ bk' ag' d day' k).2 = 1 ∧ ag' (k : Int)) := fun c => z ⟨ih.1.symm.trans c.1, (ha _ (by omega) (by omega)).mp c.2⟩
      rw [mv_n z, mv_n z']
      exact ih
