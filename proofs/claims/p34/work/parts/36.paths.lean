/-- officials and the matches of a day: how far, who may, how many officials, from which match to which -/
abbrev Of_ : Type := (Int → Int → Int) × (Int → Int → Prop) × Int × Int × Int
def Of_.d (F : Of_) : Int → Int → Int := F.1
def Of_.A (F : Of_) : Int → Int → Prop := F.2.1
def Of_.n (F : Of_) : Int := F.2.2.1
def Of_.f (F : Of_) : Int := F.2.2.2.1
def Of_.e (F : Of_) : Int := F.2.2.2.2
def of_d (F : Of_) : Prop := ∀ i o, F.f ≤ i → i < F.e → 0 ≤ o → o < F.n → 0 ≤ F.d i o ∧ F.d i o ≤ 11
/-- the cost at which a match can pass its official on; -1 where there is none -/
def bs_ (F : Of_) (ho far : Int → Int) (i : Int) : Int := if ho i = -1 then 10000 else if far (ho i) < 0 then -1 else far (ho i) - F.d i (ho i)
/-- potentials: no way back is shorter than nothing -/
def po_ (F : Of_) (ho pi : Int → Int) : Prop := (∀ o, 0 ≤ o → o < F.n → 10000 ≤ pi o) ∧ (∀ i, F.f ≤ i → i < F.e → -1 ≤ ho i ∧ ho i < F.n) ∧
  (∀ i o, F.f ≤ i → i < F.e → 0 ≤ o → o < F.n → F.A i o → ho i ≠ o → (ho i = -1 → pi o ≤ 10000 + F.d i o) ∧ (ho i ≠ -1 → pi o ≤ pi (ho i) + F.d i o - F.d i (ho i)))
/-- what the search for ways has: each length stands over the potential, and over that of the official before -/
def fi_ (F : Of_) (ho pi far cb : Int → Int) (st : Int → Nat) (o : Int) : Prop := far o < 0 ∨ (pi o ≤ far o ∧ (F.f ≤ cb o ∧ cb o < F.e) ∧ F.A (cb o) o ∧ ho (cb o) ≠ o ∧
  ((ho (cb o) = -1 ∧ 10000 + F.d (cb o) o ≤ far o) ∨ (ho (cb o) ≠ -1 ∧ 0 ≤ far (ho (cb o)) ∧ far (ho (cb o)) - F.d (cb o) (ho (cb o)) + F.d (cb o) o ≤ far o ∧ (far (ho (cb o)) - F.d (cb o) (ho (cb o)) + F.d (cb o) o = far o → st (ho (cb o)) < st o))))
def fsn_ (f : Int → Nat) (x : Int) (g : Nat) : Int → Nat := fun k => if k = x then g else f k
theorem fsn_s (f : Int → Nat) (x : Int) (g : Nat) : fsn_ f x g x = g := if_pos rfl
theorem fsn_n {f : Int → Nat} {x k : Int} {g : Nat} (h : k ≠ x) : fsn_ f x g k = f k := if_neg h
/-- an official is reached, on a shorter way -/
theorem fi_u {F : Of_} {ho pi far cb : Int → Int} {st : Int → Nat} {c : Nat} {i o : Int} (P : po_ F ho pi) (H : ∀ q, 0 ≤ q → q < F.n → fi_ F ho pi far cb st q) (hc : ∀ q, st q ≤ c)
    (hi : F.f ≤ i ∧ i < F.e) (hA : F.A i o) (hn : ho i ≠ o) (ho0 : 0 ≤ o ∧ o < F.n) (hb : bs_ F ho far i ≠ -1) (hs : far o < 0 ∨ bs_ F ho far i + F.d i o < far o) :
    10000 ≤ bs_ F ho far i + F.d i o ∧ ∀ q, 0 ≤ q → q < F.n → fi_ F ho pi (fu_ far o (bs_ F ho far i + F.d i o)) (fu_ cb o i) (fsn_ st o (c + 1)) q := by
  have pe := P.2.2 i o hi.1 hi.2 ho0.1 ho0.2 hA hn
  have hr := P.2.1 i hi.1 hi.2
  have p0 := P.1 o ho0.1 ho0.2
  have hlen : pi o ≤ bs_ F ho far i + F.d i o ∧ ((ho i = -1 ∧ bs_ F ho far i = 10000) ∨ (ho i ≠ -1 ∧ 0 ≤ far (ho i) ∧ bs_ F ho far i = far (ho i) - F.d i (ho i))) := by
    unfold bs_ at hb ⊢
    by_cases z : ho i = -1
    · rw [if_pos z] at hb ⊢
      exact ⟨by have := pe.1 z; omega, Or.inl ⟨z, rfl⟩⟩
    · rw [if_neg z] at hb ⊢
      by_cases y : far (ho i) < 0
      · rw [if_pos y] at hb; exact absurd rfl hb
      · rw [if_neg y] at hb ⊢
        have q := pe.2 z
        rcases H (ho i) (by omega) (by omega) with w | w
        · exact absurd w y
        · exact ⟨by have := w.1; omega, Or.inr ⟨z, by omega, rfl⟩⟩
  refine ⟨by omega, fun q q0 q1 => ?_⟩
  by_cases z : q = o
  · subst z
    right
    rw [fu_s, fu_s, fsn_s]
    refine ⟨hlen.1, hi, hA, hn, ?_⟩
    rcases hlen.2 with w | w
    · exact Or.inl ⟨w.1, by omega⟩
    · refine Or.inr ⟨w.1, ?_, ?_, fun _ => ?_⟩
      · rw [fu_n hn]; exact w.2.1
      · rw [fu_n hn]; omega
      · rw [fsn_n hn]; have := hc (ho i); omega
  · rcases H q q0 q1 with w | ⟨w1, w2, w3, w4, w5⟩
    · left; rw [fu_n z]; exact w
    · right
      rw [fu_n z, fu_n z, fsn_n z]
      refine ⟨w1, w2, w3, w4, ?_⟩
      rcases w5 with y | ⟨y1, y2, y3, y4⟩
      · exact Or.inl y
      · by_cases x : ho (cb q) = o
        · rw [x] at y1 y2 y3 y4 ⊢
          rw [fu_s, fsn_s]
          refine Or.inr ⟨y1, by omega, by omega, fun h => by omega⟩
        · exact Or.inr ⟨y1, by rw [fu_n x]; exact y2, by rw [fu_n x]; exact y3, by rw [fu_n x, fsn_n x]; exact y4⟩
/-- nothing is left to shorten -/
def rx9_ (F : Of_) (ho far : Int → Int) (i o : Int) : Prop := F.A i o → ho i ≠ o → bs_ F ho far i ≠ -1 → 0 ≤ far o ∧ far o ≤ bs_ F ho far i + F.d i o
/-- all that the search leaves -/
def fx_ (F : Of_) (ho pi far cb : Int → Int) (st : Int → Nat) : Prop := po_ F ho pi ∧ (∀ q, 0 ≤ q → q < F.n → fi_ F ho pi far cb st q) ∧ ∀ i o, F.f ≤ i → i < F.e → 0 ≤ o → o < F.n → rx9_ F ho far i o
theorem bs_n {F : Of_} {ho far pi cb : Int → Int} {st : Int → Nat} (D : of_d F) (P : po_ F ho pi) (H : ∀ q, 0 ≤ q → q < F.n → fi_ F ho pi far cb st q) {i : Int} (hi : F.f ≤ i ∧ i < F.e) : bs_ F ho far i ≠ -1 ↔ (ho i = -1 ∨ 0 ≤ far (ho i)) := by
  have hr := P.2.1 i hi.1 hi.2
  unfold bs_
  by_cases z : ho i = -1
  · rw [if_pos z]; simp [z]
  · rw [if_neg z]
    by_cases y : far (ho i) < 0
    · rw [if_pos y]; constructor
      · intro h; exact absurd rfl h
      · intro h; omega
    · rw [if_neg y]
      rcases H (ho i) (by omega) (by omega) with w | w
      · exact absurd w y
      · have a := P.1 (ho i) (by omega) (by omega)
        have b := D i (ho i) hi.1 hi.2 (by omega) (by omega)
        have c := w.1
        constructor
        · intro _; right; omega
        · intro _; omega
theorem bs_l {F : Of_} {ho far pi cb : Int → Int} {st : Int → Nat} (D : of_d F) (P : po_ F ho pi) (H : ∀ q, 0 ≤ q → q < F.n → fi_ F ho pi far cb st q) {i : Int} (hi : F.f ≤ i ∧ i < F.e) (h : bs_ F ho far i ≠ -1) : 9989 ≤ bs_ F ho far i := by
  have hr := P.2.1 i hi.1 hi.2
  unfold bs_ at h ⊢
  by_cases z : ho i = -1
  · rw [if_pos z]; decide
  · rw [if_neg z] at h ⊢
    by_cases y : far (ho i) < 0
    · rw [if_pos y] at h; exact absurd rfl h
    · rw [if_neg y]
      rcases H (ho i) (by omega) (by omega) with w | w
      · exact absurd w y
      · have a := P.1 (ho i) (by omega) (by omega)
        have b := D i (ho i) hi.1 hi.2 (by omega) (by omega)
        have c := w.1
        omega
/-- an official that is reached: the way by which -/
theorem fx_t {F : Of_} {ho far pi cb : Int → Int} {st : Int → Nat} (D : of_d F) (X : fx_ F ho pi far cb st) {o : Int} (h : 0 ≤ o ∧ o < F.n) (hr : 0 ≤ far o) :
    pi o ≤ far o ∧ (F.f ≤ cb o ∧ cb o < F.e) ∧ F.A (cb o) o ∧ ho (cb o) ≠ o ∧ ((ho (cb o) = -1 ∧ far o = 10000 + F.d (cb o) o) ∨ ((0 ≤ ho (cb o) ∧ ho (cb o) < F.n) ∧ 0 ≤ far (ho (cb o)) ∧ far o = far (ho (cb o)) - F.d (cb o) (ho (cb o)) + F.d (cb o) o ∧ st (ho (cb o)) < st o)) := by
  obtain ⟨P, H, R⟩ := X
  rcases H o h.1 h.2 with w | ⟨w1, w2, w3, w4, w5⟩
  · omega
  · have hh := P.2.1 (cb o) w2.1 w2.2
    refine ⟨w1, w2, w3, w4, ?_⟩
    have r := R (cb o) o w2.1 w2.2 h.1 h.2 w3 w4
    rcases w5 with y | ⟨y1, y2, y3, y4⟩
    · have := r ((bs_n D P H w2).mpr (Or.inl y.1))
      unfold bs_ at this
      rw [if_pos y.1] at this
      exact Or.inl ⟨y.1, by omega⟩
    · have := r ((bs_n D P H w2).mpr (Or.inr y2))
      unfold bs_ at this
      rw [if_neg y1, if_neg (by omega)] at this
      exact Or.inr ⟨by omega, y2, by omega, y4 (by omega)⟩
/-- the new potentials -/
def pn_ (pi far : Int → Int) (D : Int) : Int → Int := fun o => if far o < 0 then pi o + D else if far o ≤ pi o + D then far o else pi o + D
/-- a match that got another official on the way -/
def chg_ (F : Of_) (ho h1 pi far : Int → Int) (D i : Int) : Prop := (0 ≤ h1 i ∧ h1 i < F.n) ∧ 0 ≤ far (h1 i) ∧ far (h1 i) ≤ pi (h1 i) + D ∧
  ((ho i = -1 ∧ far (h1 i) = 10000 + F.d i (h1 i)) ∨ (0 ≤ ho i ∧ 0 ≤ far (ho i) ∧ far (ho i) ≤ pi (ho i) + D ∧ far (h1 i) = far (ho i) - F.d i (ho i) + F.d i (h1 i)))
/-- the state while a way is gone back: o is the official still to be placed -/
def wy_ (F : Of_) (ho h1 pi far : Int → Int) (st : Int → Nat) (D o : Int) : Prop := (o = -1 ∨ ((0 ≤ o ∧ o < F.n) ∧ 0 ≤ far o ∧ far o ≤ pi o + D)) ∧
  ∀ i, F.f ≤ i → i < F.e → h1 i = ho i ∨ (chg_ F ho h1 pi far D i ∧ (o ≠ -1 → ho i ≠ -1 ∧ st o ≤ st (ho i)))
theorem wy_s {F : Of_} {ho h1 far pi cb : Int → Int} {st : Int → Nat} {D o : Int} (Q : of_d F) (X : fx_ F ho pi far cb st) (W : wy_ F ho h1 pi far st D o) (h : o ≠ -1) :
    (F.f ≤ cb o ∧ cb o < F.e) ∧ h1 (cb o) = ho (cb o) ∧ wy_ F ho (fu_ h1 (cb o) o) pi far st D (h1 (cb o)) ∧ (h1 (cb o) = -1 ∨ st (h1 (cb o)) < st o) := by
  obtain ⟨W1, W2⟩ := W
  obtain ⟨ho0, hf, hd⟩ := W1.resolve_left h
  obtain ⟨t1, t2, t3, t4, t5⟩ := fx_t Q X ho0 hf
  have e1 : h1 (cb o) = ho (cb o) := by
    rcases W2 (cb o) t2.1 t2.2 with w | ⟨_, w⟩
    · exact w
    · have := w h
      rcases t5 with y | y
      · exact absurd y.1 this.1
      · omega
  have pe := X.1.2.2 (cb o) o t2.1 t2.2 ho0.1 ho0.2 t3 t4
  refine ⟨t2, e1, ⟨?_, fun i a b => ?_⟩, ?_⟩
  · rw [e1]
    rcases t5 with y | y
    · exact Or.inl y.1
    · have := pe.2 (by omega)
      exact Or.inr ⟨y.1, y.2.1, by omega⟩
  · by_cases z : i = cb o
    · subst z
      right
      refine ⟨?_, fun q => ?_⟩
      · unfold chg_
        rw [fu_s]
        refine ⟨ho0, hf, hd, ?_⟩
        rcases t5 with y | y
        · exact Or.inl y
        · have := pe.2 (by omega)
          exact Or.inr ⟨y.1.1, y.2.1, by omega, y.2.2.1⟩
      · rw [e1] at q ⊢; exact ⟨q, Nat.le_refl _⟩
    · rcases W2 i a b with w | ⟨w1, w2⟩
      · left; rw [fu_n z]; exact w
      · right
        refine ⟨?_, fun q => ?_⟩
        · unfold chg_ at w1 ⊢
          rw [fu_n z]; exact w1
        · have k := w2 h
          refine ⟨k.1, ?_⟩
          rw [e1]
          rcases t5 with y | y
          · rw [e1] at q; exact absurd y.1 q
          · omega
  · rw [e1]
    rcases t5 with y | y
    · exact Or.inl y.1
    · exact Or.inr y.2.2.2
/-- the way is gone back: the new potentials hold -/
theorem wy_e {F : Of_} {ho h1 far pi cb : Int → Int} {st : Int → Nat} {D : Int} (Q : of_d F) (X : fx_ F ho pi far cb st) (hD : 0 ≤ D) (W : wy_ F ho h1 pi far st D (-1)) : po_ F h1 (pn_ pi far D) := by
  obtain ⟨P, H, R⟩ := X
  have pf : ∀ o, 0 ≤ far o → far o ≤ pi o + D → pn_ pi far D o = far o := fun o a b => by unfold pn_; rw [if_neg (by omega), if_pos b]
  have pl : ∀ o, pn_ pi far D o ≤ pi o + D ∧ (0 ≤ far o → pn_ pi far D o ≤ far o) := fun o => by
    unfold pn_
    split
    · exact ⟨by omega, fun h => by omega⟩
    · split <;> exact ⟨by omega, fun h => by omega⟩
  have pg : ∀ o, 0 ≤ o → o < F.n → pi o ≤ pn_ pi far D o := fun o a b => by
    unfold pn_
    split
    · omega
    · split
      · rcases H o a b with w | w
        · omega
        · exact w.1
      · omega
  -- the old way of passing on, under the new potentials
  have old : ∀ i o, F.f ≤ i → i < F.e → 0 ≤ o → o < F.n → F.A i o → ho i ≠ o → (ho i = -1 → pn_ pi far D o ≤ 10000 + F.d i o) ∧ (ho i ≠ -1 → pn_ pi far D o ≤ pn_ pi far D (ho i) + F.d i o - F.d i (ho i)) := fun i o a b c d hA hn => by
    have hr := P.2.1 i a b
    have pe := P.2.2 i o a b c d hA hn
    have r := R i o a b c d hA hn
    constructor
    · intro z
      have k := r ((bs_n Q P H ⟨a, b⟩).mpr (Or.inl z))
      unfold bs_ at k
      rw [if_pos z] at k
      have := (pl o).2 k.1
      omega
    · intro z
      have pe2 := pe.2 z
      have po := pl o
      by_cases y : far (ho i) < 0
      · have e : pn_ pi far D (ho i) = pi (ho i) + D := by unfold pn_; rw [if_pos y]
        rw [e]; omega
      · have k := r ((bs_n Q P H ⟨a, b⟩).mpr (Or.inr (by omega)))
        unfold bs_ at k
        rw [if_neg z, if_neg y] at k
        have po2 := po.2 k.1
        by_cases x : far (ho i) ≤ pi (ho i) + D
        · rw [pf (ho i) (by omega) x]; omega
        · have e : pn_ pi far D (ho i) = pi (ho i) + D := by unfold pn_; rw [if_neg y, if_neg x]
          rw [e]; omega
  refine ⟨fun o a b => Int.le_trans (P.1 o a b) (pg o a b), fun i a b => ?_, fun i o a b c d hA hn => ?_⟩
  · rcases W.2 i a b with w | ⟨w, _⟩
    · rw [w]; exact P.2.1 i a b
    · have := w.1; omega
  · rcases W.2 i a b with w | ⟨⟨w1, w2, w3, w4⟩, _⟩
    · rw [w] at hn ⊢; exact old i o a b c d hA hn
    · refine ⟨fun z => by omega, fun _ => ?_⟩
      rw [pf (h1 i) w2 w3]
      rcases w4 with y | y
      · have := (old i o a b c d hA (by omega)).1 y.1
        omega
      · by_cases x : ho i = o
        · rw [← x, pf (ho i) y.2.1 y.2.2.1]; omega
        · have := (old i o a b c d hA x).2 (by omega)
          rw [pf (ho i) y.2.1 y.2.2.1] at this
          omega
/-- lengths, summed; what is not reached counts 20000 -/
def m1_ (v : Int) : Int := if v < 0 then 20000 else v
def mu8_ (f : Int → Int) : Int := m1_ (f 0) + m1_ (f 1) + m1_ (f 2) + m1_ (f 3) + m1_ (f 4) + m1_ (f 5) + m1_ (f 6) + m1_ (f 7)
def r1_ (v : Int) : Int := if v < 0 then 0 else 1
def rc8_ (f : Int → Int) : Int := r1_ (f 0) + r1_ (f 1) + r1_ (f 2) + r1_ (f 3) + r1_ (f 4) + r1_ (f 5) + r1_ (f 6) + r1_ (f 7)
theorem m1_n (v : Int) : 0 ≤ m1_ v := by unfold m1_; split <;> omega
theorem r1_n (v : Int) : 0 ≤ r1_ v ∧ r1_ v ≤ 1 := by unfold r1_; split <;> omega
theorem mu8_n (f : Int → Int) : 0 ≤ mu8_ f := by
  have a0 := m1_n (f 0); have a1 := m1_n (f 1); have a2 := m1_n (f 2); have a3 := m1_n (f 3); have a4 := m1_n (f 4); have a5 := m1_n (f 5); have a6 := m1_n (f 6); have a7 := m1_n (f 7)
  unfold mu8_; omega
theorem rc8_n (f : Int → Int) : 0 ≤ rc8_ f ∧ rc8_ f ≤ 8 := by
  have a0 := r1_n (f 0); have a1 := r1_n (f 1); have a2 := r1_n (f 2); have a3 := r1_n (f 3); have a4 := r1_n (f 4); have a5 := r1_n (f 5); have a6 := r1_n (f 6); have a7 := r1_n (f 7)
  unfold rc8_; omega
theorem mu8_u {f : Int → Int} {o v : Int} (h : 0 ≤ o ∧ o < 8) : mu8_ (fu_ f o v) = mu8_ f - m1_ (f o) + m1_ v ∧ rc8_ (fu_ f o v) = rc8_ f - r1_ (f o) + r1_ v := by
  unfold mu8_ rc8_ fu_
  rcases (by omega : o = 0 ∨ o = 1 ∨ o = 2 ∨ o = 3 ∨ o = 4 ∨ o = 5 ∨ o = 6 ∨ o = 7) with z | z | z | z | z | z | z | z <;> subst z <;> simp <;> omega
/-- the lengths are within what their number allows -/
def fb_ (n : Int) (f : Int → Int) : Prop := ∀ o, 0 ≤ o → o < n → f o ≤ 10000 + 11 * rc8_ f
theorem fb_u {n : Int} {f : Int → Int} {o v : Int} (h : fb_ n f) (hn : n ≤ 8) (ho : 0 ≤ o ∧ o < n) (hs : f o < 0 ∨ v < f o) (h0 : 0 ≤ v) (hv : v ≤ 10011 + 11 * rc8_ f) : fb_ n (fu_ f o v) ∧ mu8_ (fu_ f o v) < mu8_ f := by
  have k := mu8_u (f := f) (o := o) (v := v) (by omega)
  have r0 := rc8_n f
  have hb := h o ho.1 ho.2
  have e1 : m1_ v = v ∧ r1_ v = 1 := by unfold m1_ r1_; rw [if_neg (by omega), if_neg (by omega)]; exact ⟨rfl, rfl⟩
  by_cases z : f o < 0
  · have e2 : m1_ (f o) = 20000 ∧ r1_ (f o) = 0 := by unfold m1_ r1_; rw [if_pos z, if_pos z]; exact ⟨rfl, rfl⟩
    refine ⟨fun q a b => ?_, by omega⟩
    by_cases y : q = o
    · rw [y, fu_s]; omega
    · rw [fu_n y]; have := h q a b; omega
  · have e2 : m1_ (f o) = f o ∧ r1_ (f o) = 1 := by unfold m1_ r1_; rw [if_neg z, if_neg z]; exact ⟨rfl, rfl⟩
    refine ⟨fun q a b => ?_, by omega⟩
    by_cases y : q = o
    · rw [y, fu_s]; omega
    · rw [fu_n y]; have := h q a b; omega
def fm9_ (mr mu : Int) : Nat := if mr = 0 then 0 else (mu + 1).toNat
theorem fm9_l {mr mr' mu mu' : Int} (h : mr ≠ 0) (h0 : 0 ≤ mu) (h1 : 0 ≤ mu') (k : mr' = 0 ∨ mu' < mu) : fm9_ mr' mu' < fm9_ mr mu := by
  unfold fm9_
  rw [if_neg h]
  split <;> omega
/-- how many hold no match -/
def nh_ (f : Int → Int) : Int := r1_ (-1 - f 0) + r1_ (-1 - f 1) + r1_ (-1 - f 2) + r1_ (-1 - f 3) + r1_ (-1 - f 4) + r1_ (-1 - f 5) + r1_ (-1 - f 6) + r1_ (-1 - f 7)
theorem nh_n (f : Int → Int) : 0 ≤ nh_ f := by
  have a0 := r1_n (-1 - f 0); have a1 := r1_n (-1 - f 1); have a2 := r1_n (-1 - f 2); have a3 := r1_n (-1 - f 3); have a4 := r1_n (-1 - f 4); have a5 := r1_n (-1 - f 5); have a6 := r1_n (-1 - f 6); have a7 := r1_n (-1 - f 7)
  unfold nh_; omega
theorem nh_l {f g : Int → Int} {o : Int} (ho : 0 ≤ o ∧ o < 8) (h : ∀ k, 0 ≤ k → k < 8 → -1 ≤ g k ∧ (f k ≠ -1 → g k ≠ -1)) (hf : ∀ k, 0 ≤ k → k < 8 → -1 ≤ f k) (h1 : f o = -1) (h2 : g o ≠ -1) : nh_ g < nh_ f := by
  have k : ∀ q, 0 ≤ q → q < 8 → r1_ (-1 - g q) + (if q = o then 1 else 0) ≤ r1_ (-1 - f q) := fun q a b => by
    have p := h q a b
    have p2 := hf q a b
    unfold r1_
    by_cases z : q = o
    · subst z
      rw [if_pos (by omega), if_pos rfl, if_neg (by omega)]; decide
    · rw [if_neg z]
      by_cases y : f q = -1
      · rw [if_neg (show ¬ (-1 - f q < 0) by omega)]; split <;> omega
      · rw [if_pos (show -1 - g q < 0 by omega), if_pos (show -1 - f q < 0 by omega)]; decide
  have k0 := k 0 (by decide) (by decide); have k1 := k 1 (by decide) (by decide); have k2 := k 2 (by decide) (by decide); have k3 := k 3 (by decide) (by decide); have k4 := k 4 (by decide) (by decide); have k5 := k 5 (by decide) (by decide); have k6 := k 6 (by decide) (by decide); have k7 := k 7 (by decide) (by decide)
  unfold nh_
  have s : (if (0 : Int) = o then (1 : Int) else 0) + (if (1 : Int) = o then 1 else 0) + (if (2 : Int) = o then 1 else 0) + (if (3 : Int) = o then 1 else 0) + (if (4 : Int) = o then 1 else 0) + (if (5 : Int) = o then 1 else 0) + (if (6 : Int) = o then 1 else 0) + (if (7 : Int) = o then 1 else 0) = 1 := by
    rcases (by omega : o = 0 ∨ o = 1 ∨ o = 2 ∨ o = 3 ∨ o = 4 ∨ o = 5 ∨ o = 6 ∨ o = 7) with z | z | z | z | z | z | z | z <;> subst z <;> decide
  omega
def di_ (T : Zt) (m o : Int) : Int := if (T 222 0 o - T 213 0 (T 232 0 m)) < 0 then -(T 222 0 o - T 213 0 (T 232 0 m)) else (T 222 0 o - T 213 0 (T 232 0 m))
def ld_ (T : Zt) (m o : Int) : Prop := T 223 0 o ≠ T 214 0 (T 232 0 m) ∧ T 223 0 o ≠ T 214 0 (T 233 0 m)
abbrev cX11_mayLead : ByteArray := prog_13_method_122_code
def yX11_mayLead : MethodName := ⟨RX11, "mayLead", "(II)Z"⟩
def zX11_mayLead : Zm := (RX11, cX11_mayLead, 3, (some .boolean), { frames := 0, cells := 0, slots := 0, locals := 0 })
theorem bk_X11_mayLead_0 : ck_ fX11 (some .boolean) cX11_mayLead 0 [.aload 0, .tableswitch 0 11 23 #[], .iload 2, .iaload, .aload 0, .tableswitch 0 11 14 #[], .aload 0, .tableswitch 0 11 32 #[], .iload 1, .iaload, .iaload, .if_icmp .eq 44, .aload 0, .tableswitch 0 11 23 #[], .iload 2, .iaload, .aload 0, .tableswitch 0 11 14 #[], .aload 0, .tableswitch 0 11 33 #[], .iload 1, .iaload, .iaload, .if_icmp .eq 44, .iconst 1, .goto 45] 44 = true := qck_r (nn_ _) (by decide +kernel)
theorem bs_X11_mayLead_0 {P : Zt → Option Zv → Prop} (K : Int → Zl → List Zv → Zt → Prop) : sx_ K P [.aload 0, .tableswitch 0 11 23 #[], .iload 2, .iaload, .aload 0, .tableswitch 0 11 14 #[], .aload 0, .tableswitch 0 11 32 #[], .iload 1, .iaload, .iaload, .if_icmp .eq 44, .aload 0, .tableswitch 0 11 23 #[], .iload 2, .iaload, .aload 0, .tableswitch 0 11 14 #[], .aload 0, .tableswitch 0 11 33 #[], .iload 1, .iaload, .iaload, .if_icmp .eq 44, .iconst 1, .goto 45] 44 = x_aload 0 (x_g1 111 223 (x_iload 2 (x_iaload (x_aload 0 (x_g1 111 214 (x_aload 0 (x_g1 111 232 (x_iload 1 (x_iaload (x_iaload (x_if_icmp .eq 44 K (x_aload 0 (x_g1 111 223 (x_iload 2 (x_iaload (x_aload 0 (x_g1 111 214 (x_aload 0 (x_g1 111 233 (x_iload 1 (x_iaload (x_iaload (x_if_icmp .eq 44 K (x_iconst 1 (x_goto 45 K))))))))))))))))))))))))) := ((xe_aload 0).trans (congrArg (x_aload 0) ((xe_g1 (kk := 111) rfl tl_11_23).trans (congrArg (x_g1 111 223) ((xe_iload 2).trans (congrArg (x_iload 2) ((xe_iaload).trans (congrArg (x_iaload) ((xe_aload 0).trans (congrArg (x_aload 0) ((xe_g1 (kk := 111) rfl tl_11_14).trans (congrArg (x_g1 111 214) ((xe_aload 0).trans (congrArg (x_aload 0) ((xe_g1 (kk := 111) rfl tl_11_32).trans (congrArg (x_g1 111 232) ((xe_iload 1).trans (congrArg (x_iload 1) ((xe_iaload).trans (congrArg (x_iaload) ((xe_iaload).trans (congrArg (x_iaload) ((xe_if_icmp .eq 44).trans (congrArg (x_if_icmp .eq 44 K) ((xe_aload 0).trans (congrArg (x_aload 0) ((xe_g1 (kk := 111) rfl tl_11_23).trans (congrArg (x_g1 111 223) ((xe_iload 2).trans (congrArg (x_iload 2) ((xe_iaload).trans (congrArg (x_iaload) ((xe_aload 0).trans (congrArg (x_aload 0) ((xe_g1 (kk := 111) rfl tl_11_14).trans (congrArg (x_g1 111 214) ((xe_aload 0).trans (congrArg (x_aload 0) ((xe_g1 (kk := 111) rfl tl_11_33).trans (congrArg (x_g1 111 233) ((xe_iload 1).trans (congrArg (x_iload 1) ((xe_iaload).trans (congrArg (x_iaload) ((xe_iaload).trans (congrArg (x_iaload) ((xe_if_icmp .eq 44).trans (congrArg (x_if_icmp .eq 44 K) ((xe_iconst 1).trans (congrArg (x_iconst 1) (xe_goto 45)))))))))))))))))))))))))))))))))))))))))))))))))))
theorem bk_X11_mayLead_44 : ck_ fX11 (some .boolean) cX11_mayLead 44 [.iconst 0, .ireturn] 46 = true := qck_r (nn_ _) (by decide +kernel)
theorem bs_X11_mayLead_44 {P : Zt → Option Zv → Prop} (K : Int → Zl → List Zv → Zt → Prop) : sx_ K P [.iconst 0, .ireturn] 46 = x_iconst 0 (x_ireturn P) := ((xe_iconst 0).trans (congrArg (x_iconst 0) (xe_ireturn)))
theorem bk_X11_mayLead_45 : ck_ fX11 (some .boolean) cX11_mayLead 45 [.ireturn] 46 = true := qck_r (nn_ _) (by decide +kernel)
theorem bs_X11_mayLead_45 {P : Zt → Option Zv → Prop} (K : Int → Zl → List Zv → Zt → Prop) : sx_ K P [.ireturn] 46 = x_ireturn P := (xe_ireturn)
abbrev po_X11_mayLead (T : Zt) (m o : Int) : Zt → Option Zv → Prop := fun T' r => T = T' ∧ ∃ x : Int, r = some (vI x) ∧ ((x = 1 ∧ ld_ T m o) ∨ (x = 0 ∧ ¬ ld_ T m o))
set_option maxHeartbeats 4000000 in
theorem ct_X11_mayLead {T : Zt} {m o : Int} (h1 : 0 ≤ m ∧ m < 400) (h2 : 0 ≤ o ∧ o < 8) : Ct_ yX11_mayLead zX11_mayLead T [vR 111 0, vI m, vI o] (po_X11_mayLead T m o) := by
  refine ct_of pn_11 rfl rfl (Nat.le_of_ble_eq_true rfl) (fun hT hav => ?_)
  have hr_m : -2147483648 ≤ m ∧ m ≤ 2147483647 := hav (vI m) (List.mem_cons_of_mem _ List.mem_cons_self)
  have hr_o : -2147483648 ≤ o ∧ o ≤ 2147483647 := hav (vI o) (List.mem_cons_of_mem _ (List.mem_cons_of_mem _ List.mem_cons_self))
  have hz : zX11_mayLead.2.2.2.1 = some .boolean → ∀ (T' : Zt) (x : Int), po_X11_mayLead T m o T' (some (vI x)) → 0 ≤ x ∧ x ≤ 1 := fun _ T' x h => by obtain ⟨-, y, e, hy⟩ := h; cases e; rcases hy with z | z <;> omega
  show J_ zX11_mayLead T (po_X11_mayLead T m o) 0 0 0 [some (vR 111 0), some (vI m), some (vI o)] [] T
  refine j_blx (F := fX11) tb_X11 (nn_ _) bk_X11_mayLead_0 bs_X11_mayLead_0 hz (fun K hK => ?_)
  refine ix_i (by omega) ?_
  intro b1 b1b
  refine ix_i (by omega) ?_
  intro b2 b2b
  refine ix_i (by omega) ?_
  intro b3 b3b
  refine And.intro (fun c4 => ?_) (fun c4 => ?_)
  · refine hK 44 _ [] T ?_
    refine j_blx (F := fX11) tb_X11 (nn_ _) bk_X11_mayLead_44 bs_X11_mayLead_44 hz (fun K hK => ?_)
    refine (show po_X11_mayLead T m o T (some (vI 0)) from ?_)
    exact ⟨rfl, _, rfl, Or.inr ⟨rfl, by unfold ld_; omega⟩⟩
  · refine ix_i (by omega) ?_
    intro b5 b5b
    refine ix_i (by omega) ?_
    intro b6 b6b
    refine ix_i (by omega) ?_
    intro b7 b7b
    refine And.intro (fun c8 => ?_) (fun c8 => ?_)
    · refine hK 44 _ [] T ?_
      refine j_blx (F := fX11) tb_X11 (nn_ _) bk_X11_mayLead_44 bs_X11_mayLead_44 hz (fun K hK => ?_)
      refine (show po_X11_mayLead T m o T (some (vI 0)) from ?_)
      exact ⟨rfl, _, rfl, Or.inr ⟨rfl, by unfold ld_; omega⟩⟩
    · refine hK 45 _ [vI 1] T ?_
      refine j_blx (F := fX11) tb_X11 (nn_ _) bk_X11_mayLead_45 bs_X11_mayLead_45 hz (fun K hK => ?_)
      refine (show po_X11_mayLead T m o T (some (vI 1)) from ?_)
      exact ⟨rfl, _, rfl, Or.inl ⟨rfl, by unfold ld_; omega⟩⟩
abbrev cX11_distanceOf : ByteArray := prog_13_method_123_code
def yX11_distanceOf : MethodName := ⟨RX11, "distanceOf", "(II)I"⟩
def zX11_distanceOf : Zm := (RX11, cX11_distanceOf, 4, (some .int), { frames := 0, cells := 0, slots := 0, locals := 0 })
theorem bk_X11_distanceOf_0 : ck_ fX11 (some .int) cX11_distanceOf 0 [.aload 0, .tableswitch 0 11 22 #[], .iload 2, .iaload, .aload 0, .tableswitch 0 11 13 #[], .aload 0, .tableswitch 0 11 32 #[], .iload 1, .iaload, .iaload, .isub, .istore 3, .iload 3, .ifCond .ge 28, .iload 3, .ineg, .goto 29] 28 = true := qck_r (nn_ _) (by decide +kernel)
theorem bs_X11_distanceOf_0 {P : Zt → Option Zv → Prop} (K : Int → Zl → List Zv → Zt → Prop) : sx_ K P [.aload 0, .tableswitch 0 11 22 #[], .iload 2, .iaload, .aload 0, .tableswitch 0 11 13 #[], .aload 0, .tableswitch 0 11 32 #[], .iload 1, .iaload, .iaload, .isub, .istore 3, .iload 3, .ifCond .ge 28, .iload 3, .ineg, .goto 29] 28 = x_aload 0 (x_g1 111 222 (x_iload 2 (x_iaload (x_aload 0 (x_g1 111 213 (x_aload 0 (x_g1 111 232 (x_iload 1 (x_iaload (x_iaload (x_isub (x_istore 3 (x_iload 3 (x_ifCond .ge 28 K (x_iload 3 (x_ineg (x_goto 29 K))))))))))))))))) := ((xe_aload 0).trans (congrArg (x_aload 0) ((xe_g1 (kk := 111) rfl tl_11_22).trans (congrArg (x_g1 111 222) ((xe_iload 2).trans (congrArg (x_iload 2) ((xe_iaload).trans (congrArg (x_iaload) ((xe_aload 0).trans (congrArg (x_aload 0) ((xe_g1 (kk := 111) rfl tl_11_13).trans (congrArg (x_g1 111 213) ((xe_aload 0).trans (congrArg (x_aload 0) ((xe_g1 (kk := 111) rfl tl_11_32).trans (congrArg (x_g1 111 232) ((xe_iload 1).trans (congrArg (x_iload 1) ((xe_iaload).trans (congrArg (x_iaload) ((xe_iaload).trans (congrArg (x_iaload) ((xe_isub).trans (congrArg (x_isub) ((xe_istore 3).trans (congrArg (x_istore 3) ((xe_iload 3).trans (congrArg (x_iload 3) ((xe_ifCond .ge 28).trans (congrArg (x_ifCond .ge 28 K) ((xe_iload 3).trans (congrArg (x_iload 3) ((xe_ineg).trans (congrArg (x_ineg) (xe_goto 29)))))))))))))))))))))))))))))))))))
theorem bk_X11_distanceOf_28 : ck_ fX11 (some .int) cX11_distanceOf 28 [.iload 3, .ireturn] 30 = true := qck_r (nn_ _) (by decide +kernel)
theorem bs_X11_distanceOf_28 {P : Zt → Option Zv → Prop} (K : Int → Zl → List Zv → Zt → Prop) : sx_ K P [.iload 3, .ireturn] 30 = x_iload 3 (x_ireturn P) := ((xe_iload 3).trans (congrArg (x_iload 3) (xe_ireturn)))
theorem bk_X11_distanceOf_29 : ck_ fX11 (some .int) cX11_distanceOf 29 [.ireturn] 30 = true := qck_r (nn_ _) (by decide +kernel)
theorem bs_X11_distanceOf_29 {P : Zt → Option Zv → Prop} (K : Int → Zl → List Zv → Zt → Prop) : sx_ K P [.ireturn] 30 = x_ireturn P := (xe_ireturn)
abbrev po_X11_distanceOf (T : Zt) (m o : Int) : Zt → Option Zv → Prop := fun T' r => T = T' ∧ r = some (vI (di_ T m o))
set_option maxHeartbeats 4000000 in
theorem ct_X11_distanceOf {T : Zt} {m o : Int} (h1 : 0 ≤ m ∧ m < 400) (h2 : 0 ≤ o ∧ o < 8) : Ct_ yX11_distanceOf zX11_distanceOf T [vR 111 0, vI m, vI o] (po_X11_distanceOf T m o) := by
  refine ct_of pn_11 rfl rfl (Nat.le_of_ble_eq_true rfl) (fun hT hav => ?_)
  have hr_m : -2147483648 ≤ m ∧ m ≤ 2147483647 := hav (vI m) (List.mem_cons_of_mem _ List.mem_cons_self)
  have hr_o : -2147483648 ≤ o ∧ o ≤ 2147483647 := hav (vI o) (List.mem_cons_of_mem _ (List.mem_cons_of_mem _ List.mem_cons_self))
  have hz : zX11_distanceOf.2.2.2.1 = some .boolean → ∀ (T' : Zt) (x : Int), po_X11_distanceOf T m o T' (some (vI x)) → 0 ≤ x ∧ x ≤ 1 := fun h => by cases h
  show J_ zX11_distanceOf T (po_X11_distanceOf T m o) 0 0 0 [some (vR 111 0), some (vI m), some (vI o), none] [] T
  refine j_blx (F := fX11) tb_X11 (nn_ _) bk_X11_distanceOf_0 bs_X11_distanceOf_0 hz (fun K hK => ?_)
  refine ix_i (by omega) ?_
  intro b1 b1b
  refine ix_i (by omega) ?_
  intro b2 b2b
  refine ix_i (by omega) ?_
  intro b3 b3b
  refine rg_i (by omega) ?_
  refine And.intro (fun c4 => ?_) (fun c4 => ?_)
  · refine hK 28 [some (vR 111 0), some (vI m), some (vI o), some (vI ((T 222 0 o) - (T 213 0 (T 232 0 m))))] [] T ?_
    refine j_blx (F := fX11) tb_X11 (nn_ _) bk_X11_distanceOf_28 bs_X11_distanceOf_28 hz (fun K hK => ?_)
    refine (show po_X11_distanceOf T m o T (some (vI ((T 222 0 o) - (T 213 0 (T 232 0 m))))) from ?_)
    exact ⟨rfl, by unfold di_; first | rw [if_pos (by omega)] | rw [if_neg (by omega)]⟩
  · refine rg_i (by omega) ?_
    refine hK 29 _ [vI (-((T 222 0 o) - (T 213 0 (T 232 0 m))))] T ?_
    refine j_blx (F := fX11) tb_X11 (nn_ _) bk_X11_distanceOf_29 bs_X11_distanceOf_29 hz (fun K hK => ?_)
    refine (show po_X11_distanceOf T m o T (some (vI (-((T 222 0 o) - (T 213 0 (T 232 0 m)))))) from ?_)
    exact ⟨rfl, by unfold di_; first | rw [if_pos (by omega)] | rw [if_neg (by omega)]⟩
abbrev cX11_reach : ByteArray := prog_13_method_124_code
def yX11_reach : MethodName := ⟨RX11, "reach", "(III)Z"⟩
def zX11_reach : Zm := (RX11, cX11_reach, 5, (some .boolean), { frames := 0, cells := 0, slots := 0, locals := 0 })
theorem bk_X11_reach_0 : ck_ fX11 (some .boolean) cX11_reach 0 [.aload 0, .tableswitch 0 11 109 #[], .iload 2, .iaload, .ifCond .lt 19, .iload 3, .aload 0, .tableswitch 0 11 109 #[], .iload 2, .iaload, .if_icmp .ge 23, .iconst 1, .goto 24] 23 = true := qck_r (nn_ _) (by decide +kernel)
theorem bs_X11_reach_0 {P : Zt → Option Zv → Prop} (K : Int → Zl → List Zv → Zt → Prop) : sx_ K P [.aload 0, .tableswitch 0 11 109 #[], .iload 2, .iaload, .ifCond .lt 19, .iload 3, .aload 0, .tableswitch 0 11 109 #[], .iload 2, .iaload, .if_icmp .ge 23, .iconst 1, .goto 24] 23 = x_aload 0 (x_g1 111 309 (x_iload 2 (x_iaload (x_ifCond .lt 19 K (x_iload 3 (x_aload 0 (x_g1 111 309 (x_iload 2 (x_iaload (x_if_icmp .ge 23 K (x_iconst 1 (x_goto 24 K)))))))))))) := ((xe_aload 0).trans (congrArg (x_aload 0) ((xe_g1 (kk := 111) rfl tl_11_109).trans (congrArg (x_g1 111 309) ((xe_iload 2).trans (congrArg (x_iload 2) ((xe_iaload).trans (congrArg (x_iaload) ((xe_ifCond .lt 19).trans (congrArg (x_ifCond .lt 19 K) ((xe_iload 3).trans (congrArg (x_iload 3) ((xe_aload 0).trans (congrArg (x_aload 0) ((xe_g1 (kk := 111) rfl tl_11_109).trans (congrArg (x_g1 111 309) ((xe_iload 2).trans (congrArg (x_iload 2) ((xe_iaload).trans (congrArg (x_iaload) ((xe_if_icmp .ge 23).trans (congrArg (x_if_icmp .ge 23 K) ((xe_iconst 1).trans (congrArg (x_iconst 1) (xe_goto 24)))))))))))))))))))))))))
theorem bk_X11_reach_19 : ck_ fX11 (some .boolean) cX11_reach 19 [.iconst 1, .goto 24] 23 = true := qck_r (nn_ _) (by decide +kernel)
theorem bs_X11_reach_19 {P : Zt → Option Zv → Prop} (K : Int → Zl → List Zv → Zt → Prop) : sx_ K P [.iconst 1, .goto 24] 23 = x_iconst 1 (x_goto 24 K) := ((xe_iconst 1).trans (congrArg (x_iconst 1) (xe_goto 24)))
theorem bk_X11_reach_24 : ck_ fX11 (some .boolean) cX11_reach 24 [.istore 4, .aload 0, .tableswitch 0 11 109 #[], .iload 2, .iload 4, .ifCond .eq 40, .iload 3, .goto 46] 40 = true := qck_r (nn_ _) (by decide +kernel)
theorem bs_X11_reach_24 {P : Zt → Option Zv → Prop} (K : Int → Zl → List Zv → Zt → Prop) : sx_ K P [.istore 4, .aload 0, .tableswitch 0 11 109 #[], .iload 2, .iload 4, .ifCond .eq 40, .iload 3, .goto 46] 40 = x_istore 4 (x_aload 0 (x_g1 111 309 (x_iload 2 (x_iload 4 (x_ifCond .eq 40 K (x_iload 3 (x_goto 46 K))))))) := ((xe_istore 4).trans (congrArg (x_istore 4) ((xe_aload 0).trans (congrArg (x_aload 0) ((xe_g1 (kk := 111) rfl tl_11_109).trans (congrArg (x_g1 111 309) ((xe_iload 2).trans (congrArg (x_iload 2) ((xe_iload 4).trans (congrArg (x_iload 4) ((xe_ifCond .eq 40).trans (congrArg (x_ifCond .eq 40 K) ((xe_iload 3).trans (congrArg (x_iload 3) (xe_goto 46)))))))))))))))
theorem bk_X11_reach_46 : ck_ fX11 (some .boolean) cX11_reach 46 [.iastore, .aload 0, .tableswitch 0 11 110 #[], .iload 2, .iload 4, .ifCond .eq 61, .iload 1, .goto 67] 61 = true := qck_r (nn_ _) (by decide +kernel)
theorem bs_X11_reach_46 {P : Zt → Option Zv → Prop} (K : Int → Zl → List Zv → Zt → Prop) : sx_ K P [.iastore, .aload 0, .tableswitch 0 11 110 #[], .iload 2, .iload 4, .ifCond .eq 61, .iload 1, .goto 67] 61 = x_iastore (x_aload 0 (x_g1 111 310 (x_iload 2 (x_iload 4 (x_ifCond .eq 61 K (x_iload 1 (x_goto 67 K))))))) := ((xe_iastore).trans (congrArg (x_iastore) ((xe_aload 0).trans (congrArg (x_aload 0) ((xe_g1 (kk := 111) rfl tl_11_110).trans (congrArg (x_g1 111 310) ((xe_iload 2).trans (congrArg (x_iload 2) ((xe_iload 4).trans (congrArg (x_iload 4) ((xe_ifCond .eq 61).trans (congrArg (x_ifCond .eq 61 K) ((xe_iload 1).trans (congrArg (x_iload 1) (xe_goto 67)))))))))))))))
theorem bk_X11_reach_67 : ck_ fX11 (some .boolean) cX11_reach 67 [.iastore, .iload 4, .ireturn] 71 = true := qck_r (nn_ _) (by decide +kernel)
theorem bs_X11_reach_67 {P : Zt → Option Zv → Prop} (K : Int → Zl → List Zv → Zt → Prop) : sx_ K P [.iastore, .iload 4, .ireturn] 71 = x_iastore (x_iload 4 (x_ireturn P)) := ((xe_iastore).trans (congrArg (x_iastore) ((xe_iload 4).trans (congrArg (x_iload 4) (xe_ireturn)))))
theorem bk_X11_reach_23 : ck_ fX11 (some .boolean) cX11_reach 23 [.iconst 0, .istore 4, .aload 0, .tableswitch 0 11 109 #[], .iload 2, .iload 4, .ifCond .eq 40, .iload 3, .goto 46] 40 = true := qck_r (nn_ _) (by decide +kernel)
theorem bs_X11_reach_23 {P : Zt → Option Zv → Prop} (K : Int → Zl → List Zv → Zt → Prop) : sx_ K P [.iconst 0, .istore 4, .aload 0, .tableswitch 0 11 109 #[], .iload 2, .iload 4, .ifCond .eq 40, .iload 3, .goto 46] 40 = x_iconst 0 (x_istore 4 (x_aload 0 (x_g1 111 309 (x_iload 2 (x_iload 4 (x_ifCond .eq 40 K (x_iload 3 (x_goto 46 K)))))))) := ((xe_iconst 0).trans (congrArg (x_iconst 0) ((xe_istore 4).trans (congrArg (x_istore 4) ((xe_aload 0).trans (congrArg (x_aload 0) ((xe_g1 (kk := 111) rfl tl_11_109).trans (congrArg (x_g1 111 309) ((xe_iload 2).trans (congrArg (x_iload 2) ((xe_iload 4).trans (congrArg (x_iload 4) ((xe_ifCond .eq 40).trans (congrArg (x_ifCond .eq 40 K) ((xe_iload 3).trans (congrArg (x_iload 3) (xe_goto 46)))))))))))))))))
theorem bk_X11_reach_40 : ck_ fX11 (some .boolean) cX11_reach 40 [.aload 0, .tableswitch 0 11 109 #[], .iload 2, .iaload, .iastore, .aload 0, .tableswitch 0 11 110 #[], .iload 2, .iload 4, .ifCond .eq 61, .iload 1, .goto 67] 61 = true := qck_r (nn_ _) (by decide +kernel)
theorem bs_X11_reach_40 {P : Zt → Option Zv → Prop} (K : Int → Zl → List Zv → Zt → Prop) : sx_ K P [.aload 0, .tableswitch 0 11 109 #[], .iload 2, .iaload, .iastore, .aload 0, .tableswitch 0 11 110 #[], .iload 2, .iload 4, .ifCond .eq 61, .iload 1, .goto 67] 61 = x_aload 0 (x_g1 111 309 (x_iload 2 (x_iaload (x_iastore (x_aload 0 (x_g1 111 310 (x_iload 2 (x_iload 4 (x_ifCond .eq 61 K (x_iload 1 (x_goto 67 K))))))))))) := ((xe_aload 0).trans (congrArg (x_aload 0) ((xe_g1 (kk := 111) rfl tl_11_109).trans (congrArg (x_g1 111 309) ((xe_iload 2).trans (congrArg (x_iload 2) ((xe_iaload).trans (congrArg (x_iaload) ((xe_iastore).trans (congrArg (x_iastore) ((xe_aload 0).trans (congrArg (x_aload 0) ((xe_g1 (kk := 111) rfl tl_11_110).trans (congrArg (x_g1 111 310) ((xe_iload 2).trans (congrArg (x_iload 2) ((xe_iload 4).trans (congrArg (x_iload 4) ((xe_ifCond .eq 61).trans (congrArg (x_ifCond .eq 61 K) ((xe_iload 1).trans (congrArg (x_iload 1) (xe_goto 67)))))))))))))))))))))))
theorem bk_X11_reach_61 : ck_ fX11 (some .boolean) cX11_reach 61 [.aload 0, .tableswitch 0 11 110 #[], .iload 2, .iaload, .iastore, .iload 4, .ireturn] 71 = true := qck_r (nn_ _) (by decide +kernel)
theorem bs_X11_reach_61 {P : Zt → Option Zv → Prop} (K : Int → Zl → List Zv → Zt → Prop) : sx_ K P [.aload 0, .tableswitch 0 11 110 #[], .iload 2, .iaload, .iastore, .iload 4, .ireturn] 71 = x_aload 0 (x_g1 111 310 (x_iload 2 (x_iaload (x_iastore (x_iload 4 (x_ireturn P)))))) := ((xe_aload 0).trans (congrArg (x_aload 0) ((xe_g1 (kk := 111) rfl tl_11_110).trans (congrArg (x_g1 111 310) ((xe_iload 2).trans (congrArg (x_iload 2) ((xe_iaload).trans (congrArg (x_iaload) ((xe_iastore).trans (congrArg (x_iastore) ((xe_iload 4).trans (congrArg (x_iload 4) (xe_ireturn)))))))))))))
abbrev po_X11_reach (T : Zt) (i o l : Int) : Zt → Option Zv → Prop := fun T' r => ∃ x : Int, r = some (vI x) ∧ fr_ [(309, []), (310, [])] T T' ∧ ((x = 1 ∧ (T 309 0 o < 0 ∨ l < T 309 0 o) ∧ (fun k => T' 309 0 k) = fu_ (fun k => T 309 0 k) o l ∧ (fun k => T' 310 0 k) = fu_ (fun k => T 310 0 k) o i) ∨ (x = 0 ∧ 0 ≤ T 309 0 o ∧ T 309 0 o ≤ l ∧ (fun k => T' 309 0 k) = (fun k => T 309 0 k) ∧ (fun k => T' 310 0 k) = (fun k => T 310 0 k)))
set_option maxHeartbeats 4000000 in
theorem ct_X11_reach {T : Zt} {i o l : Int} (h1 : 0 ≤ i ∧ i < 400) (h2 : 0 ≤ o ∧ o < 8) : Ct_ yX11_reach zX11_reach T [vR 111 0, vI i, vI o, vI l] (po_X11_reach T i o l) := by
  refine ct_of pn_11 rfl rfl (Nat.le_of_ble_eq_true rfl) (fun hT hav => ?_)
  have hr_i : -2147483648 ≤ i ∧ i ≤ 2147483647 := hav (vI i) (List.mem_cons_of_mem _ List.mem_cons_self)
  have hr_o : -2147483648 ≤ o ∧ o ≤ 2147483647 := hav (vI o) (List.mem_cons_of_mem _ (List.mem_cons_of_mem _ List.mem_cons_self))
  have hr_l : -2147483648 ≤ l ∧ l ≤ 2147483647 := hav (vI l) (List.mem_cons_of_mem _ (List.mem_cons_of_mem _ (List.mem_cons_of_mem _ List.mem_cons_self)))
  have hz : zX11_reach.2.2.2.1 = some .boolean → ∀ (T' : Zt) (x : Int), po_X11_reach T i o l T' (some (vI x)) → 0 ≤ x ∧ x ≤ 1 := fun _ T' x h => by obtain ⟨y, e, -, hy⟩ := h; cases e; rcases hy with z | z <;> omega
  show J_ zX11_reach T (po_X11_reach T i o l) 0 0 0 [some (vR 111 0), some (vI i), some (vI o), some (vI l), none] [] T
  refine j_blx (F := fX11) tb_X11 (nn_ _) bk_X11_reach_0 bs_X11_reach_0 hz (fun K hK => ?_)
  refine ix_i (by omega) ?_
  intro b1 b1b
  refine And.intro (fun c2 => ?_) (fun c2 => ?_)
  · refine hK 19 _ [] T ?_
    refine j_blx (F := fX11) tb_X11 (nn_ _) bk_X11_reach_19 bs_X11_reach_19 hz (fun K hK => ?_)
    refine hK 24 _ [vI 1] T ?_
    refine j_blx (F := fX11) tb_X11 (nn_ _) bk_X11_reach_24 bs_X11_reach_24 hz (fun K hK => ?_)
    refine And.intro (fun c3 => ?_) (fun c3 => ?_)
    · exact absurd c3 (by decide)
    · refine hK 46 [some (vR 111 0), some (vI i), some (vI o), some (vI l), some (vI 1)] [vI l, vI o, vR 309 0] T ?_
      refine j_blx (F := fX11) tb_X11 (nn_ _) bk_X11_reach_46 bs_X11_reach_46 hz (fun K hK => ?_)
      refine iy_i (by omega) (by omega) ?_
      refine x_nm (fun U4 hU4 => ?_)
      have e5 := up_f hU4
      refine And.intro (fun c6 => ?_) (fun c6 => ?_)
      · exact absurd c6 (by decide)
      · refine hK 67 _ [vI i, vI o, vR 310 0] U4 ?_
        refine j_blx (F := fX11) tb_X11 (nn_ _) bk_X11_reach_67 bs_X11_reach_67 hz (fun K hK => ?_)
        refine iy_i (by omega) (by omega) ?_
        refine x_nm (fun U7 hU7 => ?_)
        have e8 := up_f hU7
        refine (show po_X11_reach T i o l U7 (some (vI 1)) from ?_)
        have ea : (fun k => U7 309 0 k) = fu_ (fun k => T 309 0 k) o l := funext (fun k => by
            by_cases z : k = o
            · rw [z, up_k hU7 (by exact Nat.ne_of_beq_eq_false rfl), up_f hU4, fu_s]
            · rw [up_k hU7 (by exact Nat.ne_of_beq_eq_false rfl), up_g hU4 (fun q => z q.2.2), fu_n z])
        have eb : (fun k => U7 310 0 k) = fu_ (fun k => T 310 0 k) o i := funext (fun k => by
            by_cases z : k = o
            · rw [z, up_f hU7, fu_s]
            · rw [up_g hU7 (fun q => z q.2.2), up_k hU4 (by exact Nat.ne_of_beq_eq_false rfl), fu_n z])
        exact ⟨_, rfl, fr_u (fr_u (fr_0 _ _) hU4 rfl) hU7 rfl, Or.inl ⟨rfl, by omega, ea, eb⟩⟩
  · refine ix_i (by omega) ?_
    intro b9 b9b
    refine And.intro (fun c10 => ?_) (fun c10 => ?_)
    · refine hK 23 _ [] T ?_
      refine j_blx (F := fX11) tb_X11 (nn_ _) bk_X11_reach_23 bs_X11_reach_23 hz (fun K hK => ?_)
      refine And.intro (fun c11 => ?_) (fun c11 => ?_)
      · refine hK 40 [some (vR 111 0), some (vI i), some (vI o), some (vI l), some (vI 0)] [vI o, vR 309 0] T ?_
        refine j_blx (F := fX11) tb_X11 (nn_ _) bk_X11_reach_40 bs_X11_reach_40 hz (fun K hK => ?_)
        refine ix_i (by omega) ?_
        intro b12 b12b
        refine iy_i (by omega) (by omega) ?_
        refine x_nm (fun U13 hU13 => ?_)
        have e14 := up_f hU13
        refine And.intro (fun c15 => ?_) (fun c15 => ?_)
        · refine hK 61 _ [vI o, vR 310 0] U13 ?_
          refine j_blx (F := fX11) tb_X11 (nn_ _) bk_X11_reach_61 bs_X11_reach_61 hz (fun K hK => ?_)
          refine ix_i (by omega) ?_
          intro b16 b16b
          have e17 : U13 310 0 o = T 310 0 o := up_k hU13 (by exact Nat.ne_of_beq_eq_false rfl) 0 o
          rw [e17] at b16 b16b ⊢
          refine iy_i (by omega) (by omega) ?_
          refine x_nm (fun U18 hU18 => ?_)
          have e19 := up_f hU18
          refine (show po_X11_reach T i o l U18 (some (vI 0)) from ?_)
          have ea : (fun k => U18 309 0 k) = (fun k => T 309 0 k) := funext (fun k => by
              by_cases z : k = o
              · rw [z, up_k hU18 (by exact Nat.ne_of_beq_eq_false rfl), up_f hU13]
              · rw [up_k hU18 (by exact Nat.ne_of_beq_eq_false rfl), up_g hU13 (fun q => z q.2.2)])
          have eb : (fun k => U18 310 0 k) = (fun k => T 310 0 k) := funext (fun k => by
              by_cases z : k = o
              · rw [z, up_f hU18]
              · rw [up_g hU18 (fun q => z q.2.2), up_k hU13 (by exact Nat.ne_of_beq_eq_false rfl)])
          exact ⟨_, rfl, fr_u (fr_u (fr_0 _ _) hU13 rfl) hU18 rfl, Or.inr ⟨rfl, by omega, by omega, ea, eb⟩⟩
        · exact absurd c15 (by decide)
      · exact absurd c11 (by decide)
    · refine hK 24 _ [vI 1] T ?_
      refine j_blx (F := fX11) tb_X11 (nn_ _) bk_X11_reach_24 bs_X11_reach_24 hz (fun K hK => ?_)
      refine And.intro (fun c20 => ?_) (fun c20 => ?_)
      · exact absurd c20 (by decide)
      · refine hK 46 [some (vR 111 0), some (vI i), some (vI o), some (vI l), some (vI 1)] [vI l, vI o, vR 309 0] T ?_
        refine j_blx (F := fX11) tb_X11 (nn_ _) bk_X11_reach_46 bs_X11_reach_46 hz (fun K hK => ?_)
        refine iy_i (by omega) (by omega) ?_
        refine x_nm (fun U21 hU21 => ?_)
        have e22 := up_f hU21
        refine And.intro (fun c23 => ?_) (fun c23 => ?_)
        · exact absurd c23 (by decide)
        · refine hK 67 _ [vI i, vI o, vR 310 0] U21 ?_
          refine j_blx (F := fX11) tb_X11 (nn_ _) bk_X11_reach_67 bs_X11_reach_67 hz (fun K hK => ?_)
          refine iy_i (by omega) (by omega) ?_
          refine x_nm (fun U24 hU24 => ?_)
          have e25 := up_f hU24
          refine (show po_X11_reach T i o l U24 (some (vI 1)) from ?_)
          have ea : (fun k => U24 309 0 k) = fu_ (fun k => T 309 0 k) o l := funext (fun k => by
              by_cases z : k = o
              · rw [z, up_k hU24 (by exact Nat.ne_of_beq_eq_false rfl), up_f hU21, fu_s]
              · rw [up_k hU24 (by exact Nat.ne_of_beq_eq_false rfl), up_g hU21 (fun q => z q.2.2), fu_n z])
          have eb : (fun k => U24 310 0 k) = fu_ (fun k => T 310 0 k) o i := funext (fun k => by
              by_cases z : k = o
              · rw [z, up_f hU24, fu_s]
              · rw [up_g hU24 (fun q => z q.2.2), up_k hU21 (by exact Nat.ne_of_beq_eq_false rfl), fu_n z])
          exact ⟨_, rfl, fr_u (fr_u (fr_0 _ _) hU21 rfl) hU24 rfl, Or.inl ⟨rfl, by omega, ea, eb⟩⟩
def ofs_ (T : Zt) (tk f : Int) : Of_ := ⟨fun i o => di_ T (T 306 0 i) o, fun i o => an_ (sr_ tk o) 1 = 0 ∧ ld_ T (T 306 0 i) o, T 111 0 21, f, T 111 0 107⟩
def gh_ (T : Zt) : Int → Int := fun k => T 311 0 k
def far_ (T : Zt) : Int → Int := fun k => T 309 0 k
def cby_ (T : Zt) : Int → Int := fun k => T 310 0 k
/-- the search's state -/
def FQ_ (T T1 : Zt) (tk f : Int) (pi : Int → Int) (st : Int → Nat) (c : Nat) : Prop := (∀ q, 0 ≤ q → q < T 111 0 21 → fi_ (ofs_ T tk f) (gh_ T) pi (far_ T1) (cby_ T1) st q) ∧ (∀ q, st q ≤ c) ∧ fb_ (T 111 0 21) (far_ T1)
theorem fq_e {T T1 T2 : Zt} {tk f : Int} {pi : Int → Int} {st : Int → Nat} {c : Nat} (h : FQ_ T T1 tk f pi st c) (a : far_ T2 = far_ T1) (b : cby_ T2 = cby_ T1) : FQ_ T T2 tk f pi st c := by
  unfold FQ_; rw [a, b]; exact h
theorem di_e {T T1 : Zt} {m o : Int} (a : ∀ k, T1 222 0 k = T 222 0 k) (b : ∀ k, T1 213 0 k = T 213 0 k) (c : ∀ k, T1 232 0 k = T 232 0 k) : di_ T1 m o = di_ T m o := by
  unfold di_; rw [a, b, c]
theorem ld_e {T T1 : Zt} {m o : Int} (a : ∀ k, T1 223 0 k = T 223 0 k) (b : ∀ k, T1 214 0 k = T 214 0 k) (c : ∀ k, T1 232 0 k = T 232 0 k) (d : ∀ k, T1 233 0 k = T 233 0 k) : ld_ T1 m o ↔ ld_ T m o := by
  unfold ld_; rw [a, b, b, c, d]
/-- nothing to shorten before match i, and none at i before official o -/
def RL_ (T T1 : Zt) (tk f i o : Int) : Prop := (∀ j q, f ≤ j → j < i → 0 ≤ q → q < T 111 0 21 → rx9_ (ofs_ T tk f) (gh_ T) (far_ T1) j q) ∧ ∀ q, 0 ≤ q → q < o → rx9_ (ofs_ T tk f) (gh_ T) (far_ T1) i q
/-- how the lengths have sunk since T1 -/
def PG_ (T1 T2 : Zt) (mr : Int) : Prop := mu8_ (far_ T2) ≤ mu8_ (far_ T1) ∧ (mr ≠ 0 → mu8_ (far_ T2) < mu8_ (far_ T1))
theorem of_9 {T : Zt} {tk f : Int} (hd : ∀ i o, f ≤ i → i < T 111 0 107 → 0 ≤ o → o < T 111 0 21 → 0 ≤ di_ T (T 306 0 i) o ∧ di_ T (T 306 0 i) o ≤ 11) : of_d (ofs_ T tk f) := hd
abbrev cX11_findPaths : ByteArray := prog_13_method_125_code
def yX11_findPaths : MethodName := ⟨RX11, "findPaths", "(II)V"⟩
def zX11_findPaths : Zm := (RX11, cX11_findPaths, 8, none, { frames := 1, cells := 0, slots := 0, locals := 24 })
theorem bk_X11_findPaths_115 : ck_ fX11 none cX11_findPaths 115 [.iload 6, .aload 0, .tableswitch 0 11 21 #[], .if_icmp .ge 222, .iload 5, .iconst (-1), .if_icmp .eq 222, .iload 2, .iload 6, .ishr, .iconst 1, .iand, .ifCond .ne 171, .aload 0, .tableswitch 0 11 111 #[], .iload 4, .iaload, .iload 6, .if_icmp .eq 171, .aload 0, .aload 0, .tableswitch 0 11 106 #[], .iload 4, .iaload, .iload 6] 161 = true := qck_r (nn_ _) (by decide +kernel)
theorem bs_X11_findPaths_115 {P : Zt → Option Zv → Prop} (K : Int → Zl → List Zv → Zt → Prop) : sx_ K P [.iload 6, .aload 0, .tableswitch 0 11 21 #[], .if_icmp .ge 222, .iload 5, .iconst (-1), .if_icmp .eq 222, .iload 2, .iload 6, .ishr, .iconst 1, .iand, .ifCond .ne 171, .aload 0, .tableswitch 0 11 111 #[], .iload 4, .iaload, .iload 6, .if_icmp .eq 171, .aload 0, .aload 0, .tableswitch 0 11 106 #[], .iload 4, .iaload, .iload 6] 161 = x_iload 6 (x_aload 0 (x_g0 111 21 0 8 (x_if_icmp .ge 222 K (x_iload 5 (x_iconst (-1) (x_if_icmp .eq 222 K (x_iload 2 (x_iload 6 (x_ishr (x_iconst 1 (x_iand (x_ifCond .ne 171 K (x_aload 0 (x_g1 111 311 (x_iload 4 (x_iaload (x_iload 6 (x_if_icmp .eq 171 K (x_aload 0 (x_aload 0 (x_g1 111 306 (x_iload 4 (x_iaload (x_iload 6 (K 161))))))))))))))))))))))))) := ((xe_iload 6).trans (congrArg (x_iload 6) ((xe_aload 0).trans (congrArg (x_aload 0) ((xe_g0 (kk := 111) rfl tl_11_21).trans (congrArg (x_g0 111 21 0 8) ((xe_if_icmp .ge 222).trans (congrArg (x_if_icmp .ge 222 K) ((xe_iload 5).trans (congrArg (x_iload 5) ((xe_iconst (-1)).trans (congrArg (x_iconst (-1)) ((xe_if_icmp .eq 222).trans (congrArg (x_if_icmp .eq 222 K) ((xe_iload 2).trans (congrArg (x_iload 2) ((xe_iload 6).trans (congrArg (x_iload 6) ((xe_ishr).trans (congrArg (x_ishr) ((xe_iconst 1).trans (congrArg (x_iconst 1) ((xe_iand).trans (congrArg (x_iand) ((xe_ifCond .ne 171).trans (congrArg (x_ifCond .ne 171 K) ((xe_aload 0).trans (congrArg (x_aload 0) ((xe_g1 (kk := 111) rfl tl_11_111).trans (congrArg (x_g1 111 311) ((xe_iload 4).trans (congrArg (x_iload 4) ((xe_iaload).trans (congrArg (x_iaload) ((xe_iload 6).trans (congrArg (x_iload 6) ((xe_if_icmp .eq 171).trans (congrArg (x_if_icmp .eq 171 K) ((xe_aload 0).trans (congrArg (x_aload 0) ((xe_aload 0).trans (congrArg (x_aload 0) ((xe_g1 (kk := 111) rfl tl_11_106).trans (congrArg (x_g1 111 306) ((xe_iload 4).trans (congrArg (x_iload 4) ((xe_iaload).trans (congrArg (x_iaload) ((xe_iload 6).trans (congrArg (x_iload 6) xe_nil))))))))))))))))))))))))))))))))))))))))))))))))))
theorem bk_X11_findPaths_222 : ck_ fX11 none cX11_findPaths 222 [.iinc 4 1, .goto 34] 228 = true := qck_r (nn_ _) (by decide +kernel)
theorem bs_X11_findPaths_222 {P : Zt → Option Zv → Prop} (K : Int → Zl → List Zv → Zt → Prop) : sx_ K P [.iinc 4 1, .goto 34] 228 = x_iinc 4 1 (x_goto 34 K) := ((xe_iinc 4 1).trans (congrArg (x_iinc 4 1) (xe_goto 34)))
theorem bk_X11_findPaths_171 : ck_ fX11 none cX11_findPaths 171 [.iconst 0, .istore 7, .iload 7, .ifCond .eq 206, .aload 0, .iload 4, .iload 6, .iload 5, .aload 0, .aload 0, .tableswitch 0 11 106 #[], .iload 4, .iaload, .iload 6] 196 = true := qck_r (nn_ _) (by decide +kernel)
theorem bs_X11_findPaths_171 {P : Zt → Option Zv → Prop} (K : Int → Zl → List Zv → Zt → Prop) : sx_ K P [.iconst 0, .istore 7, .iload 7, .ifCond .eq 206, .aload 0, .iload 4, .iload 6, .iload 5, .aload 0, .aload 0, .tableswitch 0 11 106 #[], .iload 4, .iaload, .iload 6] 196 = x_iconst 0 (x_istore 7 (x_iload 7 (x_ifCond .eq 206 K (x_aload 0 (x_iload 4 (x_iload 6 (x_iload 5 (x_aload 0 (x_aload 0 (x_g1 111 306 (x_iload 4 (x_iaload (x_iload 6 (K 196)))))))))))))) := ((xe_iconst 0).trans (congrArg (x_iconst 0) ((xe_istore 7).trans (congrArg (x_istore 7) ((xe_iload 7).trans (congrArg (x_iload 7) ((xe_ifCond .eq 206).trans (congrArg (x_ifCond .eq 206 K) ((xe_aload 0).trans (congrArg (x_aload 0) ((xe_iload 4).trans (congrArg (x_iload 4) ((xe_iload 6).trans (congrArg (x_iload 6) ((xe_iload 5).trans (congrArg (x_iload 5) ((xe_aload 0).trans (congrArg (x_aload 0) ((xe_aload 0).trans (congrArg (x_aload 0) ((xe_g1 (kk := 111) rfl tl_11_106).trans (congrArg (x_g1 111 306) ((xe_iload 4).trans (congrArg (x_iload 4) ((xe_iaload).trans (congrArg (x_iaload) ((xe_iload 6).trans (congrArg (x_iload 6) xe_nil))))))))))))))))))))))))))))
theorem bk_X11_findPaths_206 : ck_ fX11 none cX11_findPaths 206 [.iload 3, .ifCond .eq 214, .iconst 1, .goto 215] 214 = true := qck_r (nn_ _) (by decide +kernel)
theorem bs_X11_findPaths_206 {P : Zt → Option Zv → Prop} (K : Int → Zl → List Zv → Zt → Prop) : sx_ K P [.iload 3, .ifCond .eq 214, .iconst 1, .goto 215] 214 = x_iload 3 (x_ifCond .eq 214 K (x_iconst 1 (x_goto 215 K))) := ((xe_iload 3).trans (congrArg (x_iload 3) ((xe_ifCond .eq 214).trans (congrArg (x_ifCond .eq 214 K) ((xe_iconst 1).trans (congrArg (x_iconst 1) (xe_goto 215)))))))
theorem bk_X11_findPaths_214 : ck_ fX11 none cX11_findPaths 214 [.iconst 0, .istore 3, .iinc 6 1, .goto 115] 222 = true := qck_r (nn_ _) (by decide +kernel)
theorem bs_X11_findPaths_214 {P : Zt → Option Zv → Prop} (K : Int → Zl → List Zv → Zt → Prop) : sx_ K P [.iconst 0, .istore 3, .iinc 6 1, .goto 115] 222 = x_iconst 0 (x_istore 3 (x_iinc 6 1 (x_goto 115 K))) := ((xe_iconst 0).trans (congrArg (x_iconst 0) ((xe_istore 3).trans (congrArg (x_istore 3) ((xe_iinc 6 1).trans (congrArg (x_iinc 6 1) (xe_goto 115)))))))
theorem bk_X11_findPaths_215 : ck_ fX11 none cX11_findPaths 215 [.istore 3, .iinc 6 1, .goto 115] 222 = true := qck_r (nn_ _) (by decide +kernel)
theorem bs_X11_findPaths_215 {P : Zt → Option Zv → Prop} (K : Int → Zl → List Zv → Zt → Prop) : sx_ K P [.istore 3, .iinc 6 1, .goto 115] 222 = x_istore 3 (x_iinc 6 1 (x_goto 115 K)) := ((xe_istore 3).trans (congrArg (x_istore 3) ((xe_iinc 6 1).trans (congrArg (x_iinc 6 1) (xe_goto 115)))))
set_option maxRecDepth 100000 in
theorem cl_X11_613 : cv_ RX11 613 yX11_mayLead zX11_mayLead 11 2 := ⟨gi_V (lwq_10 (dqc_m (dqc_m (dqc_m (List.mem_of_getElem? (i := 6) rfl)))) rfl : Cond.methodLink RX11 613 yX11_mayLead ∈ lw_g) (lwq_10 (dqc_m (dqc_m (dqc_m (dqa_m (List.mem_of_getElem? (i := 0) rfl))))) rfl : Cond.instanceMethod yX11_mayLead ∈ lw_g) (lw_sel 37 rfl : Cond.selects yX11_mayLead.cls yX11_mayLead yX11_mayLead ∈ lw_g) (lwq_1 (dqa_m (List.mem_of_getElem? (i := 2) rfl)) rfl : Cond.initialized yX11_mayLead.cls ∈ lw_g) (lwq_10 (dqc_m (dqc_m (dqc_m (dqa_m (List.mem_of_getElem? (i := 1) rfl))))) rfl : Cond.code yX11_mayLead cX11_mayLead 3 (some .boolean) ∈ lw_g), ⟨nmh_1.1, nmh_1.2, pdq_5⟩, ⟨_, _, rfl⟩⟩
theorem bk_X11_findPaths_164 : ck_ fX11 none cX11_findPaths 164 [.ifCond .eq 171, .iconst 1, .goto 172] 171 = true := qck_r (nn_ _) (by decide +kernel)
theorem bs_X11_findPaths_164 {P : Zt → Option Zv → Prop} (K : Int → Zl → List Zv → Zt → Prop) : sx_ K P [.ifCond .eq 171, .iconst 1, .goto 172] 171 = x_ifCond .eq 171 K (x_iconst 1 (x_goto 172 K)) := ((xe_ifCond .eq 171).trans (congrArg (x_ifCond .eq 171 K) ((xe_iconst 1).trans (congrArg (x_iconst 1) (xe_goto 172)))))
theorem bk_X11_findPaths_172 : ck_ fX11 none cX11_findPaths 172 [.istore 7, .iload 7, .ifCond .eq 206, .aload 0, .iload 4, .iload 6, .iload 5, .aload 0, .aload 0, .tableswitch 0 11 106 #[], .iload 4, .iaload, .iload 6] 196 = true := qck_r (nn_ _) (by decide +kernel)
theorem bs_X11_findPaths_172 {P : Zt → Option Zv → Prop} (K : Int → Zl → List Zv → Zt → Prop) : sx_ K P [.istore 7, .iload 7, .ifCond .eq 206, .aload 0, .iload 4, .iload 6, .iload 5, .aload 0, .aload 0, .tableswitch 0 11 106 #[], .iload 4, .iaload, .iload 6] 196 = x_istore 7 (x_iload 7 (x_ifCond .eq 206 K (x_aload 0 (x_iload 4 (x_iload 6 (x_iload 5 (x_aload 0 (x_aload 0 (x_g1 111 306 (x_iload 4 (x_iaload (x_iload 6 (K 196))))))))))))) := ((xe_istore 7).trans (congrArg (x_istore 7) ((xe_iload 7).trans (congrArg (x_iload 7) ((xe_ifCond .eq 206).trans (congrArg (x_ifCond .eq 206 K) ((xe_aload 0).trans (congrArg (x_aload 0) ((xe_iload 4).trans (congrArg (x_iload 4) ((xe_iload 6).trans (congrArg (x_iload 6) ((xe_iload 5).trans (congrArg (x_iload 5) ((xe_aload 0).trans (congrArg (x_aload 0) ((xe_aload 0).trans (congrArg (x_aload 0) ((xe_g1 (kk := 111) rfl tl_11_106).trans (congrArg (x_g1 111 306) ((xe_iload 4).trans (congrArg (x_iload 4) ((xe_iaload).trans (congrArg (x_iaload) ((xe_iload 6).trans (congrArg (x_iload 6) xe_nil))))))))))))))))))))))))))
set_option maxRecDepth 100000 in
theorem cl_X11_610 : cv_ RX11 610 yX11_distanceOf zX11_distanceOf 11 2 := ⟨gi_V (lwq_10 (dqc_m (dqc_m (dqc_m (List.mem_of_getElem? (i := 2) rfl)))) rfl : Cond.methodLink RX11 610 yX11_distanceOf ∈ lw_g) (lwq_10 (dqc_m (dqc_m (dqc_m (List.mem_of_getElem? (i := 4) rfl)))) rfl : Cond.instanceMethod yX11_distanceOf ∈ lw_g) (lw_sel 16 rfl : Cond.selects yX11_distanceOf.cls yX11_distanceOf yX11_distanceOf ∈ lw_g) (lwq_1 (dqa_m (List.mem_of_getElem? (i := 2) rfl)) rfl : Cond.initialized yX11_distanceOf.cls ∈ lw_g) (lwq_10 (dqc_m (dqc_m (dqc_m (List.mem_of_getElem? (i := 5) rfl)))) rfl : Cond.code yX11_distanceOf cX11_distanceOf 4 (some .int) ∈ lw_g), ⟨nmh_1.1, nmh_1.2, pdq_4⟩, ⟨_, _, rfl⟩⟩
theorem bk_X11_findPaths_199 : ck_ fX11 none cX11_findPaths 199 [.iadd] 200 = true := qck_r (nn_ _) (by decide +kernel)
theorem bs_X11_findPaths_199 {P : Zt → Option Zv → Prop} (K : Int → Zl → List Zv → Zt → Prop) : sx_ K P [.iadd] 200 = x_iadd (K 200) := ((xe_iadd).trans (congrArg (x_iadd) xe_nil))
set_option maxRecDepth 100000 in
theorem cl_X11_616 : cv_ RX11 616 yX11_reach zX11_reach 11 3 := ⟨gi_V (lwq_10 (dqc_m (dqc_m (dqc_m (dqa_m (List.mem_of_getElem? (i := 2) rfl))))) rfl : Cond.methodLink RX11 616 yX11_reach ∈ lw_g) (lwq_10 (dqc_m (dqc_m (dqc_m (dqa_m (List.mem_of_getElem? (i := 4) rfl))))) rfl : Cond.instanceMethod yX11_reach ∈ lw_g) (lw_sel 53 rfl : Cond.selects yX11_reach.cls yX11_reach yX11_reach ∈ lw_g) (lwq_1 (dqa_m (List.mem_of_getElem? (i := 2) rfl)) rfl : Cond.initialized yX11_reach.cls ∈ lw_g) (lwq_10 (dqc_m (dqc_m (dqc_m (dqa_m (List.mem_of_getElem? (i := 5) rfl))))) rfl : Cond.code yX11_reach cX11_reach 5 (some .boolean) ∈ lw_g), ⟨nmh_1.1, nmh_1.2, pdq_11⟩, ⟨_, _, rfl⟩⟩
theorem bk_X11_findPaths_203 : ck_ fX11 none cX11_findPaths 203 [.ifCond .ne 210, .iload 3, .ifCond .eq 214, .iconst 1, .goto 215] 214 = true := qck_r (nn_ _) (by decide +kernel)
theorem bs_X11_findPaths_203 {P : Zt → Option Zv → Prop} (K : Int → Zl → List Zv → Zt → Prop) : sx_ K P [.ifCond .ne 210, .iload 3, .ifCond .eq 214, .iconst 1, .goto 215] 214 = x_ifCond .ne 210 K (x_iload 3 (x_ifCond .eq 214 K (x_iconst 1 (x_goto 215 K)))) := ((xe_ifCond .ne 210).trans (congrArg (x_ifCond .ne 210 K) ((xe_iload 3).trans (congrArg (x_iload 3) ((xe_ifCond .eq 214).trans (congrArg (x_ifCond .eq 214 K) ((xe_iconst 1).trans (congrArg (x_iconst 1) (xe_goto 215)))))))))
theorem bk_X11_findPaths_210 : ck_ fX11 none cX11_findPaths 210 [.iconst 1, .goto 215] 214 = true := qck_r (nn_ _) (by decide +kernel)
theorem bs_X11_findPaths_210 {P : Zt → Option Zv → Prop} (K : Int → Zl → List Zv → Zt → Prop) : sx_ K P [.iconst 1, .goto 215] 214 = x_iconst 1 (x_goto 215 K) := ((xe_iconst 1).trans (congrArg (x_iconst 1) (xe_goto 215)))
theorem bk_X11_findPaths_34 : ck_ fX11 none cX11_findPaths 34 [.iload 4, .aload 0, .tableswitch 0 11 107 #[], .if_icmp .ge 228, .aload 0, .tableswitch 0 11 111 #[], .iload 4, .iaload, .iconst (-1), .if_icmp .ne 60, .iconst 10000, .goto 110] 60 = true := qck_r (nn_ _) (by decide +kernel)
theorem bs_X11_findPaths_34 {P : Zt → Option Zv → Prop} (K : Int → Zl → List Zv → Zt → Prop) : sx_ K P [.iload 4, .aload 0, .tableswitch 0 11 107 #[], .if_icmp .ge 228, .aload 0, .tableswitch 0 11 111 #[], .iload 4, .iaload, .iconst (-1), .if_icmp .ne 60, .iconst 10000, .goto 110] 60 = x_iload 4 (x_aload 0 (x_g0 111 107 0 400 (x_if_icmp .ge 228 K (x_aload 0 (x_g1 111 311 (x_iload 4 (x_iaload (x_iconst (-1) (x_if_icmp .ne 60 K (x_iconst 10000 (x_goto 110 K))))))))))) := ((xe_iload 4).trans (congrArg (x_iload 4) ((xe_aload 0).trans (congrArg (x_aload 0) ((xe_g0 (kk := 111) rfl tl_11_107).trans (congrArg (x_g0 111 107 0 400) ((xe_if_icmp .ge 228).trans (congrArg (x_if_icmp .ge 228 K) ((xe_aload 0).trans (congrArg (x_aload 0) ((xe_g1 (kk := 111) rfl tl_11_111).trans (congrArg (x_g1 111 311) ((xe_iload 4).trans (congrArg (x_iload 4) ((xe_iaload).trans (congrArg (x_iaload) ((xe_iconst (-1)).trans (congrArg (x_iconst (-1)) ((xe_if_icmp .ne 60).trans (congrArg (x_if_icmp .ne 60 K) ((xe_iconst 10000).trans (congrArg (x_iconst 10000) (xe_goto 110)))))))))))))))))))))))
theorem bk_X11_findPaths_228 : ck_ fX11 none cX11_findPaths 228 [.goto 25] 231 = true := qck_r (nn_ _) (by decide +kernel)
theorem bs_X11_findPaths_228 {P : Zt → Option Zv → Prop} (K : Int → Zl → List Zv → Zt → Prop) : sx_ K P [.goto 25] 231 = x_goto 25 K := (xe_goto 25)
theorem bk_X11_findPaths_60 : ck_ fX11 none cX11_findPaths 60 [.aload 0, .tableswitch 0 11 109 #[], .aload 0, .tableswitch 0 11 111 #[], .iload 4, .iaload, .iaload, .ifCond .ge 79, .iconst (-1), .goto 110] 79 = true := qck_r (nn_ _) (by decide +kernel)
theorem bs_X11_findPaths_60 {P : Zt → Option Zv → Prop} (K : Int → Zl → List Zv → Zt → Prop) : sx_ K P [.aload 0, .tableswitch 0 11 109 #[], .aload 0, .tableswitch 0 11 111 #[], .iload 4, .iaload, .iaload, .ifCond .ge 79, .iconst (-1), .goto 110] 79 = x_aload 0 (x_g1 111 309 (x_aload 0 (x_g1 111 311 (x_iload 4 (x_iaload (x_iaload (x_ifCond .ge 79 K (x_iconst (-1) (x_goto 110 K))))))))) := ((xe_aload 0).trans (congrArg (x_aload 0) ((xe_g1 (kk := 111) rfl tl_11_109).trans (congrArg (x_g1 111 309) ((xe_aload 0).trans (congrArg (x_aload 0) ((xe_g1 (kk := 111) rfl tl_11_111).trans (congrArg (x_g1 111 311) ((xe_iload 4).trans (congrArg (x_iload 4) ((xe_iaload).trans (congrArg (x_iaload) ((xe_iaload).trans (congrArg (x_iaload) ((xe_ifCond .ge 79).trans (congrArg (x_ifCond .ge 79 K) ((xe_iconst (-1)).trans (congrArg (x_iconst (-1)) (xe_goto 110)))))))))))))))))))
theorem bk_X11_findPaths_79 : ck_ fX11 none cX11_findPaths 79 [.aload 0, .tableswitch 0 11 109 #[], .aload 0, .tableswitch 0 11 111 #[], .iload 4, .iaload, .iaload, .aload 0, .aload 0, .tableswitch 0 11 106 #[], .iload 4, .iaload, .aload 0, .tableswitch 0 11 111 #[], .iload 4, .iaload] 106 = true := qck_r (nn_ _) (by decide +kernel)
theorem bs_X11_findPaths_79 {P : Zt → Option Zv → Prop} (K : Int → Zl → List Zv → Zt → Prop) : sx_ K P [.aload 0, .tableswitch 0 11 109 #[], .aload 0, .tableswitch 0 11 111 #[], .iload 4, .iaload, .iaload, .aload 0, .aload 0, .tableswitch 0 11 106 #[], .iload 4, .iaload, .aload 0, .tableswitch 0 11 111 #[], .iload 4, .iaload] 106 = x_aload 0 (x_g1 111 309 (x_aload 0 (x_g1 111 311 (x_iload 4 (x_iaload (x_iaload (x_aload 0 (x_aload 0 (x_g1 111 306 (x_iload 4 (x_iaload (x_aload 0 (x_g1 111 311 (x_iload 4 (x_iaload (K 106)))))))))))))))) := ((xe_aload 0).trans (congrArg (x_aload 0) ((xe_g1 (kk := 111) rfl tl_11_109).trans (congrArg (x_g1 111 309) ((xe_aload 0).trans (congrArg (x_aload 0) ((xe_g1 (kk := 111) rfl tl_11_111).trans (congrArg (x_g1 111 311) ((xe_iload 4).trans (congrArg (x_iload 4) ((xe_iaload).trans (congrArg (x_iaload) ((xe_iaload).trans (congrArg (x_iaload) ((xe_aload 0).trans (congrArg (x_aload 0) ((xe_aload 0).trans (congrArg (x_aload 0) ((xe_g1 (kk := 111) rfl tl_11_106).trans (congrArg (x_g1 111 306) ((xe_iload 4).trans (congrArg (x_iload 4) ((xe_iaload).trans (congrArg (x_iaload) ((xe_aload 0).trans (congrArg (x_aload 0) ((xe_g1 (kk := 111) rfl tl_11_111).trans (congrArg (x_g1 111 311) ((xe_iload 4).trans (congrArg (x_iload 4) ((xe_iaload).trans (congrArg (x_iaload) xe_nil))))))))))))))))))))))))))))))))
theorem bk_X11_findPaths_109 : ck_ fX11 none cX11_findPaths 109 [.isub, .istore 5, .iconst 0, .istore 6] 115 = true := qck_r (nn_ _) (by decide +kernel)
theorem bs_X11_findPaths_109 {P : Zt → Option Zv → Prop} (K : Int → Zl → List Zv → Zt → Prop) : sx_ K P [.isub, .istore 5, .iconst 0, .istore 6] 115 = x_isub (x_istore 5 (x_iconst 0 (x_istore 6 (K 115)))) := ((xe_isub).trans (congrArg (x_isub) ((xe_istore 5).trans (congrArg (x_istore 5) ((xe_iconst 0).trans (congrArg (x_iconst 0) ((xe_istore 6).trans (congrArg (x_istore 6) xe_nil))))))))
theorem bk_X11_findPaths_110 : ck_ fX11 none cX11_findPaths 110 [.istore 5, .iconst 0, .istore 6] 115 = true := qck_r (nn_ _) (by decide +kernel)
theorem bs_X11_findPaths_110 {P : Zt → Option Zv → Prop} (K : Int → Zl → List Zv → Zt → Prop) : sx_ K P [.istore 5, .iconst 0, .istore 6] 115 = x_istore 5 (x_iconst 0 (x_istore 6 (K 115))) := ((xe_istore 5).trans (congrArg (x_istore 5) ((xe_iconst 0).trans (congrArg (x_iconst 0) ((xe_istore 6).trans (congrArg (x_istore 6) xe_nil))))))
theorem bk_X11_findPaths_25 : ck_ fX11 none cX11_findPaths 25 [.iload 3, .ifCond .eq 231, .iconst 0, .istore 3, .iload 1, .istore 4] 34 = true := qck_r (nn_ _) (by decide +kernel)
theorem bs_X11_findPaths_25 {P : Zt → Option Zv → Prop} (K : Int → Zl → List Zv → Zt → Prop) : sx_ K P [.iload 3, .ifCond .eq 231, .iconst 0, .istore 3, .iload 1, .istore 4] 34 = x_iload 3 (x_ifCond .eq 231 K (x_iconst 0 (x_istore 3 (x_iload 1 (x_istore 4 (K 34)))))) := ((xe_iload 3).trans (congrArg (x_iload 3) ((xe_ifCond .eq 231).trans (congrArg (x_ifCond .eq 231 K) ((xe_iconst 0).trans (congrArg (x_iconst 0) ((xe_istore 3).trans (congrArg (x_istore 3) ((xe_iload 1).trans (congrArg (x_iload 1) ((xe_istore 4).trans (congrArg (x_istore 4) xe_nil))))))))))))
theorem bk_X11_findPaths_231 : ck_ fX11 none cX11_findPaths 231 [.return_] 232 = true := qck_r (nn_ _) (by decide +kernel)
theorem bs_X11_findPaths_231 {P : Zt → Option Zv → Prop} (K : Int → Zl → List Zv → Zt → Prop) : sx_ K P [.return_] 232 = x_return_ P := (xe_return_)
theorem bk_X11_findPaths_2 : ck_ fX11 none cX11_findPaths 2 [.iload 3, .aload 0, .tableswitch 0 11 21 #[], .if_icmp .ge 23, .aload 0, .tableswitch 0 11 109 #[], .iload 3, .iconst (-1), .iastore, .iinc 3 1, .goto 2] 23 = true := qck_r (nn_ _) (by decide +kernel)
theorem bs_X11_findPaths_2 {P : Zt → Option Zv → Prop} (K : Int → Zl → List Zv → Zt → Prop) : sx_ K P [.iload 3, .aload 0, .tableswitch 0 11 21 #[], .if_icmp .ge 23, .aload 0, .tableswitch 0 11 109 #[], .iload 3, .iconst (-1), .iastore, .iinc 3 1, .goto 2] 23 = x_iload 3 (x_aload 0 (x_g0 111 21 0 8 (x_if_icmp .ge 23 K (x_aload 0 (x_g1 111 309 (x_iload 3 (x_iconst (-1) (x_iastore (x_iinc 3 1 (x_goto 2 K)))))))))) := ((xe_iload 3).trans (congrArg (x_iload 3) ((xe_aload 0).trans (congrArg (x_aload 0) ((xe_g0 (kk := 111) rfl tl_11_21).trans (congrArg (x_g0 111 21 0 8) ((xe_if_icmp .ge 23).trans (congrArg (x_if_icmp .ge 23 K) ((xe_aload 0).trans (congrArg (x_aload 0) ((xe_g1 (kk := 111) rfl tl_11_109).trans (congrArg (x_g1 111 309) ((xe_iload 3).trans (congrArg (x_iload 3) ((xe_iconst (-1)).trans (congrArg (x_iconst (-1)) ((xe_iastore).trans (congrArg (x_iastore) ((xe_iinc 3 1).trans (congrArg (x_iinc 3 1) (xe_goto 2)))))))))))))))))))))
theorem bk_X11_findPaths_23 : ck_ fX11 none cX11_findPaths 23 [.iconst 1, .istore 3] 25 = true := qck_r (nn_ _) (by decide +kernel)
theorem bs_X11_findPaths_23 {P : Zt → Option Zv → Prop} (K : Int → Zl → List Zv → Zt → Prop) : sx_ K P [.iconst 1, .istore 3] 25 = x_iconst 1 (x_istore 3 (K 25)) := ((xe_iconst 1).trans (congrArg (x_iconst 1) ((xe_istore 3).trans (congrArg (x_istore 3) xe_nil))))
theorem bk_X11_findPaths_0 : ck_ fX11 none cX11_findPaths 0 [.iconst 0, .istore 3] 2 = true := qck_r (nn_ _) (by decide +kernel)
theorem bs_X11_findPaths_0 {P : Zt → Option Zv → Prop} (K : Int → Zl → List Zv → Zt → Prop) : sx_ K P [.iconst 0, .istore 3] 2 = x_iconst 0 (x_istore 3 (K 2)) := ((xe_iconst 0).trans (congrArg (x_iconst 0) ((xe_istore 3).trans (congrArg (x_istore 3) xe_nil))))
abbrev po_X11_findPaths (T : Zt) (pi : Int → Int) (f tk : Int) : Zt → Option Zv → Prop := fun T' r => r = none ∧ fr_ [(309, []), (310, [])] T T' ∧ (∃ st : Int → Nat, fx_ (ofs_ T tk f) (gh_ T) pi (far_ T') (cby_ T') st)
set_option maxHeartbeats 4000000 in
theorem ct_X11_findPaths {T : Zt} {pi : Int → Int} {f tk : Int} (h1 : 0 ≤ f) (P : po_ (ofs_ T tk f) (gh_ T) pi) : Ct_ yX11_findPaths zX11_findPaths T [vR 111 0, vI f, vI tk] (po_X11_findPaths T pi f tk) := by
  refine ct_of pn_11 rfl rfl (Nat.le_of_ble_eq_true rfl) (fun hT hav => ?_)
  have hr_f : -2147483648 ≤ f ∧ f ≤ 2147483647 := hav (vI f) (List.mem_cons_of_mem _ List.mem_cons_self)
  have hr_tk : -2147483648 ≤ tk ∧ tk ≤ 2147483647 := hav (vI tk) (List.mem_cons_of_mem _ (List.mem_cons_of_mem _ List.mem_cons_self))
  have hz : zX11_findPaths.2.2.2.1 = some .boolean → ∀ (T' : Zt) (x : Int), po_X11_findPaths T pi f tk T' (some (vI x)) → 0 ≤ x ∧ x ≤ 1 := fun h => by cases h
  have hb_21 : 0 ≤ T 111 0 21 ∧ T 111 0 21 ≤ 8 := bd_f hT 111 21 tl_11_21 0
  have hb_107 : 0 ≤ T 111 0 107 ∧ T 111 0 107 ≤ 400 := bd_f hT 111 107 tl_11_107 0
  have hdd : ∀ i o, 0 ≤ i → i < 400 → 0 ≤ o → o < 8 → 0 ≤ di_ T (T 306 0 i) o ∧ di_ T (T 306 0 i) o ≤ 11 := by
    intro i o a b c d
    have u1 : 0 ≤ T 306 0 i ∧ T 306 0 i ≤ 399 := bd_a hT 306 (by decide +kernel : ta_ 306 = some (1, some 400, 0, 399)) 0 (by omega)
    have u2 : 0 ≤ T 232 0 (T 306 0 i) ∧ T 232 0 (T 306 0 i) ≤ 11 := bd_a hT 232 (by decide +kernel : ta_ 232 = some (1, some 400, 0, 11)) 0 (by omega)
    have u3 : 0 ≤ T 213 0 (T 232 0 (T 306 0 i)) ∧ T 213 0 (T 232 0 (T 306 0 i)) ≤ 11 := bd_a hT 213 (by decide +kernel : ta_ 213 = some (1, some 12, 0, 11)) 0 (by omega)
    have u4 : 0 ≤ T 222 0 o ∧ T 222 0 o ≤ 11 := bd_a hT 222 (by decide +kernel : ta_ 222 = some (1, some 8, 0, 11)) 0 (by omega)
    unfold di_
    split <;> omega
  show J_ zX11_findPaths T (po_X11_findPaths T pi f tk) 0 0 0 [some (vR 111 0), some (vI f), some (vI tk), none, none, none, none, none] [] T
  have c_25 : ∀ (nn : Nat) (mr : Int) (st1 : Int → Nat) (cc1 : Nat) (T1 : Zt), (fm9_ mr (mu8_ (far_ T1))) ≤ nn → (fr_ [(309, []), (310, [])] T T1) → (mr = 0 ∨ mr = 1) → (FQ_ T T1 tk f pi st1 cc1) → (mr = 0 → ∀ j q, f ≤ j → j < T 111 0 107 → 0 ≤ q → q < T 111 0 21 → rx9_ (ofs_ T tk f) (gh_ T) (far_ T1) j q) → J_ zX11_findPaths T (po_X11_findPaths T pi f tk) 0 0 25 [some (vR 111 0), some (vI f), some (vI tk), some (vI mr), none, none, none, none] [] T1 := by
    intro nn
    induction nn using Nat.strongRecOn with
    | _ nn ih_25 =>
      intro mr st1 cc1 T1 hm_25 hf_25 i1 fq1 rx1
      replace hm_25 := fun (_ : Unit) => hm_25
      have c_34 : ∀ (nn : Nat) (mr2 : Int) (i : Int) (st2 : Int → Nat) (cc2 : Nat) (T2 : Zt), ((400 - i).toNat) ≤ nn → (fr_ [(309, []), (310, [])] T T2) → ((mr2 = 0 ∨ mr2 = 1) ∧ f ≤ i ∧ 0 ≤ i ∧ mr ≠ 0) → (FQ_ T T2 tk f pi st2 cc2) → (PG_ T1 T2 mr2) → (mr2 = 0 → RL_ T T2 tk f i 0) → J_ zX11_findPaths T (po_X11_findPaths T pi f tk) 0 0 34 [some (vR 111 0), some (vI f), some (vI tk), some (vI mr2), some (vI i), none, none, none] [] T2 := by
        intro nn
        induction nn using Nat.strongRecOn with
        | _ nn ih_34 =>
          intro mr2 i st2 cc2 T2 hm_34 hf_34 i2 fq2 pg2 rl2
          replace hm_34 := fun (_ : Unit) => hm_34
          have c_115 : ∀ (nn : Nat) (mr3 : Int) (b : Int) (o : Int) (st3 : Int → Nat) (cc3 : Nat) (T3 : Zt), ((8 - o).toNat) ≤ nn → (fr_ [(309, []), (310, [])] T T3) → ((mr3 = 0 ∨ mr3 = 1) ∧ 0 ≤ o ∧ o ≤ 8 ∧ i < T 111 0 107) → (FQ_ T T3 tk f pi st3 cc3) → (PG_ T1 T3 mr3) → (mr3 = 0 → RL_ T T3 tk f i o) → (b = bs_ (ofs_ T tk f) (gh_ T) (far_ T3) i) → J_ zX11_findPaths T (po_X11_findPaths T pi f tk) 0 0 115 [some (vR 111 0), some (vI f), some (vI tk), some (vI mr3), some (vI i), some (vI b), some (vI o), none] [] T3 := by
            intro nn
            induction nn using Nat.strongRecOn with
            | _ nn ih_115 =>
              intro mr3 b o st3 cc3 T3 hm_115 hf_115 i3 fq3 pg3 rl3 hb3
              replace hm_115 := fun (_ : Unit) => hm_115
              have hbn := bs_n (F := (ofs_ T tk f)) (of_9 (fun i o a b c d => hdd i o (by omega) (by omega) (by omega) (by omega))) P fq3.1 (i := i) (show f ≤ i ∧ i < T 111 0 107 by omega)
              have hbb : b ≤ 10000 + 11 * rc8_ (far_ T3) := by
                rw [hb3]
                have r9 := rc8_n (far_ T3)
                have hh9 := P.2.1 i (show f ≤ i by omega) (show i < T 111 0 107 by omega)
                unfold bs_
                split
                · omega
                · split
                  · omega
                  · have f9 := fq3.2.2 (gh_ T i) (by omega) (show gh_ T i < T 111 0 21 from hh9.2)
                    have d9 := hdd i (gh_ T i) (by omega) (by omega) (by omega) (by have : gh_ T i < T 111 0 21 := hh9.2; omega)
                    show far_ T3 (gh_ T i) - di_ T (T 306 0 i) (gh_ T i) ≤ _
                    omega
              have hrc := rc8_n (far_ T3)
              have hbl : b ≠ -1 → 9989 ≤ b := fun z => by rw [hb3]; exact bs_l (of_9 (fun i o a b c d => hdd i o (by omega) (by omega) (by omega) (by omega))) P fq3.1 (i := i) (show f ≤ i ∧ i < T 111 0 107 by omega) (by rw [← hb3]; exact z)
              refine j_blx (F := fX11) tb_X11 (nn_ _) bk_X11_findPaths_115 bs_X11_findPaths_115 hz (fun K hK => ?_)
              intro b1 b1b
              have e2 : T3 111 0 21 = T 111 0 21 := hf_115 111 0 21 rfl
              rw [e2] at b1 b1b ⊢
              refine And.intro (fun c3 => ?_) (fun c3 => ?_)
              · refine hK 222 _ [] T3 ?_
                refine j_blx (F := fX11) tb_X11 (nn_ _) bk_X11_findPaths_222 bs_X11_findPaths_222 hz (fun K hK => ?_)
                refine rg_i (by omega) ?_
                refine hK 34 [some (vR 111 0), some (vI f), some (vI tk), some (vI mr3), some (vI (i + 1)), some (vI b), some (vI o), none] [] T3 ?_
                refine j_drq [some (vR 111 0), some (vI f), some (vI tk), some (vI mr3), some (vI (i + 1)), none, none, none] (drq_s (drq_s (drq_s (drq_s (drq_s (drq_n (drq_n (drq_n drq_0)))))))) ?_
                refine ih_34 _ ?_ mr3 (i + 1) st3 cc3 T3 (Nat.le_refl _) ?_ ?_ ?_ ?_ ?_
                · have hm_34 := hm_34 (); omega
                · exact fr_t (fr_0 _ _) (fr_s hf_115 rfl)
                · omega
                · exact fq3
                · exact pg3
                · intro z
                  have h9 := rl3 z
                  refine ⟨fun j q a b c d => ?_, fun q a b => by omega⟩
                  by_cases y : j = i
                  · rw [y]
                    by_cases x : q < o
                    · exact h9.2 q c x
                    · intro _ _ k
                      exact absurd (by rw [← hb3]; omega) k
                  · exact h9.1 j q a (by omega) c d
              · refine And.intro (fun c4 => ?_) (fun c4 => ?_)
                · refine hK 222 [some (vR 111 0), some (vI f), some (vI tk), some (vI mr3), some (vI i), some (vI b), some (vI o), none] [] T3 ?_
                  refine j_blx (F := fX11) tb_X11 (nn_ _) bk_X11_findPaths_222 bs_X11_findPaths_222 hz (fun K hK => ?_)
                  refine rg_i (by omega) ?_
                  refine hK 34 [some (vR 111 0), some (vI f), some (vI tk), some (vI mr3), some (vI (i + 1)), some (vI b), some (vI o), none] [] T3 ?_
                  refine j_drq [some (vR 111 0), some (vI f), some (vI tk), some (vI mr3), some (vI (i + 1)), none, none, none] (drq_s (drq_s (drq_s (drq_s (drq_s (drq_n (drq_n (drq_n drq_0)))))))) ?_
                  refine ih_34 _ ?_ mr3 (i + 1) st3 cc3 T3 (Nat.le_refl _) ?_ ?_ ?_ ?_ ?_
                  · have hm_34 := hm_34 (); omega
                  · exact fr_t (fr_0 _ _) (fr_s hf_115 rfl)
                  · omega
                  · exact fq3
                  · exact pg3
                  · intro z
                    have h9 := rl3 z
                    refine ⟨fun j q a b c d => ?_, fun q a b => by omega⟩
                    by_cases y : j = i
                    · rw [y]
                      by_cases x : q < o
                      · exact h9.2 q c x
                      · intro _ _ k
                        exact absurd (by rw [← hb3]; omega) k
                    · exact h9.1 j q a (by omega) c d
                · intro w5 w5b
                  intro w6 w6b
                  refine And.intro (fun c7 => ?_) (fun c7 => ?_)
                  · refine hK 171 [some (vR 111 0), some (vI f), some (vI tk), some (vI mr3), some (vI i), some (vI b), some (vI o), none] [] T3 ?_
                    refine j_blx (F := fX11) tb_X11 (nn_ _) bk_X11_findPaths_171 bs_X11_findPaths_171 hz (fun K hK => ?_)
                    refine And.intro (fun c8 => ?_) (fun c8 => ?_)
                    · refine hK 206 [some (vR 111 0), some (vI f), some (vI tk), some (vI mr3), some (vI i), some (vI b), some (vI o), some (vI 0)] [] T3 ?_
                      refine j_blx (F := fX11) tb_X11 (nn_ _) bk_X11_findPaths_206 bs_X11_findPaths_206 hz (fun K hK => ?_)
                      refine And.intro (fun c9 => ?_) (fun c9 => ?_)
                      · refine hK 214 _ [] T3 ?_
                        refine j_blx (F := fX11) tb_X11 (nn_ _) bk_X11_findPaths_214 bs_X11_findPaths_214 hz (fun K hK => ?_)
                        refine rg_i (by omega) ?_
                        refine hK 115 [some (vR 111 0), some (vI f), some (vI tk), some (vI 0), some (vI i), some (vI b), some (vI (o + 1)), some (vI 0)] [] T3 ?_
                        refine j_drq [some (vR 111 0), some (vI f), some (vI tk), some (vI 0), some (vI i), some (vI b), some (vI (o + 1)), none] (drq_s (drq_s (drq_s (drq_s (drq_s (drq_s (drq_s (drq_n drq_0)))))))) ?_
                        refine ih_115 _ ?_ 0 b (o + 1) st3 cc3 T3 (Nat.le_refl _) ?_ ?_ ?_ ?_ ?_ ?_
                        · have hm_115 := hm_115 (); omega
                        · exact fr_t (fr_0 _ _) (fr_s hf_115 rfl)
                        · omega
                        · exact fq3
                        · first
                          | exact ⟨pg3.1, fun z => pg3.2 (by omega)⟩
                          | exact ⟨pg3.1, fun z => absurd rfl z⟩
                        · intro z
                          have h9 := rl3 (by omega)
                          refine ⟨h9.1, fun q a b => ?_⟩
                          by_cases y : q = o
                          · rw [y]; intro k1 k2 k3
                            first
                            | exact absurd k1.1 (by omega)
                            | exact absurd (show T 311 0 i = o by omega) k2
                            | exact absurd k1.2 (by rcases hlx with w | w; exact absurd w.1 (by omega); exact w.2)
                          · exact h9.2 q a (by omega)
                        · exact hb3
                      · refine hK 215 [some (vR 111 0), some (vI f), some (vI tk), some (vI mr3), some (vI i), some (vI b), some (vI o), some (vI 0)] [vI 1] T3 ?_
                        refine j_blx (F := fX11) tb_X11 (nn_ _) bk_X11_findPaths_215 bs_X11_findPaths_215 hz (fun K hK => ?_)
                        refine rg_i (by omega) ?_
                        refine hK 115 [some (vR 111 0), some (vI f), some (vI tk), some (vI 1), some (vI i), some (vI b), some (vI (o + 1)), some (vI 0)] [] T3 ?_
                        refine j_drq [some (vR 111 0), some (vI f), some (vI tk), some (vI 1), some (vI i), some (vI b), some (vI (o + 1)), none] (drq_s (drq_s (drq_s (drq_s (drq_s (drq_s (drq_s (drq_n drq_0)))))))) ?_
                        refine ih_115 _ ?_ 1 b (o + 1) st3 cc3 T3 (Nat.le_refl _) ?_ ?_ ?_ ?_ ?_ ?_
                        · have hm_115 := hm_115 (); omega
                        · exact fr_t (fr_0 _ _) (fr_s hf_115 rfl)
                        · omega
                        · exact fq3
                        · first
                          | exact ⟨pg3.1, fun z => pg3.2 (by omega)⟩
                          | exact ⟨pg3.1, fun z => absurd rfl z⟩
                        · intro z; exact absurd z (by decide)
                        · exact hb3
                    · exact absurd c8 (by decide)
                  · refine ix_i (by omega) ?_
                    intro b10 b10b
                    have e11 : T3 311 0 i = T 311 0 i := hf_115 311 0 i rfl
                    rw [e11] at b10 b10b ⊢
                    refine And.intro (fun c12 => ?_) (fun c12 => ?_)
                    · refine hK 171 _ [] T3 ?_
                      refine j_blx (F := fX11) tb_X11 (nn_ _) bk_X11_findPaths_171 bs_X11_findPaths_171 hz (fun K hK => ?_)
                      refine And.intro (fun c13 => ?_) (fun c13 => ?_)
                      · refine hK 206 [some (vR 111 0), some (vI f), some (vI tk), some (vI mr3), some (vI i), some (vI b), some (vI o), some (vI 0)] [] T3 ?_
                        refine j_blx (F := fX11) tb_X11 (nn_ _) bk_X11_findPaths_206 bs_X11_findPaths_206 hz (fun K hK => ?_)
                        refine And.intro (fun c14 => ?_) (fun c14 => ?_)
                        · refine hK 214 _ [] T3 ?_
                          refine j_blx (F := fX11) tb_X11 (nn_ _) bk_X11_findPaths_214 bs_X11_findPaths_214 hz (fun K hK => ?_)
                          refine rg_i (by omega) ?_
                          refine hK 115 [some (vR 111 0), some (vI f), some (vI tk), some (vI 0), some (vI i), some (vI b), some (vI (o + 1)), some (vI 0)] [] T3 ?_
                          refine j_drq [some (vR 111 0), some (vI f), some (vI tk), some (vI 0), some (vI i), some (vI b), some (vI (o + 1)), none] (drq_s (drq_s (drq_s (drq_s (drq_s (drq_s (drq_s (drq_n drq_0)))))))) ?_
                          refine ih_115 _ ?_ 0 b (o + 1) st3 cc3 T3 (Nat.le_refl _) ?_ ?_ ?_ ?_ ?_ ?_
                          · have hm_115 := hm_115 (); omega
                          · exact fr_t (fr_0 _ _) (fr_s hf_115 rfl)
                          · omega
                          · exact fq3
                          · first
                            | exact ⟨pg3.1, fun z => pg3.2 (by omega)⟩
                            | exact ⟨pg3.1, fun z => absurd rfl z⟩
                          · intro z
                            have h9 := rl3 (by omega)
                            refine ⟨h9.1, fun q a b => ?_⟩
                            by_cases y : q = o
                            · rw [y]; intro k1 k2 k3
                              first
                              | exact absurd k1.1 (by omega)
                              | exact absurd (show T 311 0 i = o by omega) k2
                              | exact absurd k1.2 (by rcases hlx with w | w; exact absurd w.1 (by omega); exact w.2)
                            · exact h9.2 q a (by omega)
                          · exact hb3
                        · refine hK 215 [some (vR 111 0), some (vI f), some (vI tk), some (vI mr3), some (vI i), some (vI b), some (vI o), some (vI 0)] [vI 1] T3 ?_
                          refine j_blx (F := fX11) tb_X11 (nn_ _) bk_X11_findPaths_215 bs_X11_findPaths_215 hz (fun K hK => ?_)
                          refine rg_i (by omega) ?_
                          refine hK 115 [some (vR 111 0), some (vI f), some (vI tk), some (vI 1), some (vI i), some (vI b), some (vI (o + 1)), some (vI 0)] [] T3 ?_
                          refine j_drq [some (vR 111 0), some (vI f), some (vI tk), some (vI 1), some (vI i), some (vI b), some (vI (o + 1)), none] (drq_s (drq_s (drq_s (drq_s (drq_s (drq_s (drq_s (drq_n drq_0)))))))) ?_
                          refine ih_115 _ ?_ 1 b (o + 1) st3 cc3 T3 (Nat.le_refl _) ?_ ?_ ?_ ?_ ?_ ?_
                          · have hm_115 := hm_115 (); omega
                          · exact fr_t (fr_0 _ _) (fr_s hf_115 rfl)
                          · omega
                          · exact fq3
                          · first
                            | exact ⟨pg3.1, fun z => pg3.2 (by omega)⟩
                            | exact ⟨pg3.1, fun z => absurd rfl z⟩
                          · intro z; exact absurd z (by decide)
                          · exact hb3
                      · exact absurd c13 (by decide)
                    · have hho : gh_ T i ≠ o := by show T 311 0 i ≠ o; omega
                      refine ix_i (by omega) ?_
                      intro b15 b15b
                      have e16 : T3 306 0 i = T 306 0 i := hf_115 306 0 i rfl
                      rw [e16] at b15 b15b ⊢
                      refine hK 161 _ [vI o, vI (T 306 0 i), vR 111 0] T3 ?_
                      refine j_callV (y := yX11_mayLead) (Yc := zX11_mayLead) (rest := []) [vI (T 306 0 i), vI o] (ct_X11_mayLead (T := T3) (by omega) (by omega)) cl_X11_613 (qd_c (by decide +kernel)) (nn_ _) rfl (rf_of rfl) (Nat.le_of_ble_eq_true rfl) (Nat.le_of_ble_eq_true rfl) (Nat.le_of_ble_eq_true rfl) rfl ?_
                      rintro _ _ ⟨rfl, x17, rfl, hx17⟩
                      show J_ zX11_findPaths T (po_X11_findPaths T pi f tk) 0 0 164 _ [vI x17] T3
                      have hlx := hx17
                      rw [ld_e (fun j => hf_115 223 0 j rfl) (fun j => hf_115 214 0 j rfl) (fun j => hf_115 232 0 j rfl) (fun j => hf_115 233 0 j rfl)] at hlx
                      refine j_blx (F := fX11) tb_X11 (nn_ _) bk_X11_findPaths_164 bs_X11_findPaths_164 hz (fun K hK => ?_)
                      refine And.intro (fun c18 => ?_) (fun c18 => ?_)
                      · refine hK 171 _ [] T3 ?_
                        refine j_blx (F := fX11) tb_X11 (nn_ _) bk_X11_findPaths_171 bs_X11_findPaths_171 hz (fun K hK => ?_)
                        refine And.intro (fun c19 => ?_) (fun c19 => ?_)
                        · refine hK 206 [some (vR 111 0), some (vI f), some (vI tk), some (vI mr3), some (vI i), some (vI b), some (vI o), some (vI 0)] [] T3 ?_
                          refine j_blx (F := fX11) tb_X11 (nn_ _) bk_X11_findPaths_206 bs_X11_findPaths_206 hz (fun K hK => ?_)
                          refine And.intro (fun c20 => ?_) (fun c20 => ?_)
                          · refine hK 214 _ [] T3 ?_
                            refine j_blx (F := fX11) tb_X11 (nn_ _) bk_X11_findPaths_214 bs_X11_findPaths_214 hz (fun K hK => ?_)
                            refine rg_i (by omega) ?_
                            refine hK 115 [some (vR 111 0), some (vI f), some (vI tk), some (vI 0), some (vI i), some (vI b), some (vI (o + 1)), some (vI 0)] [] T3 ?_
                            refine j_drq [some (vR 111 0), some (vI f), some (vI tk), some (vI 0), some (vI i), some (vI b), some (vI (o + 1)), none] (drq_s (drq_s (drq_s (drq_s (drq_s (drq_s (drq_s (drq_n drq_0)))))))) ?_
                            refine ih_115 _ ?_ 0 b (o + 1) st3 cc3 T3 (Nat.le_refl _) ?_ ?_ ?_ ?_ ?_ ?_
                            · have hm_115 := hm_115 (); omega
                            · exact fr_t (fr_0 _ _) (fr_s hf_115 rfl)
                            · omega
                            · exact fq3
                            · first
                              | exact ⟨pg3.1, fun z => pg3.2 (by omega)⟩
                              | exact ⟨pg3.1, fun z => absurd rfl z⟩
                            · intro z
                              have h9 := rl3 (by omega)
                              refine ⟨h9.1, fun q a b => ?_⟩
                              by_cases y : q = o
                              · rw [y]; intro k1 k2 k3
                                first
                                | exact absurd k1.1 (by omega)
                                | exact absurd (show T 311 0 i = o by omega) k2
                                | exact absurd k1.2 (by rcases hlx with w | w; exact absurd w.1 (by omega); exact w.2)
                              · exact h9.2 q a (by omega)
                            · exact hb3
                          · refine hK 215 [some (vR 111 0), some (vI f), some (vI tk), some (vI mr3), some (vI i), some (vI b), some (vI o), some (vI 0)] [vI 1] T3 ?_
                            refine j_blx (F := fX11) tb_X11 (nn_ _) bk_X11_findPaths_215 bs_X11_findPaths_215 hz (fun K hK => ?_)
                            refine rg_i (by omega) ?_
                            refine hK 115 [some (vR 111 0), some (vI f), some (vI tk), some (vI 1), some (vI i), some (vI b), some (vI (o + 1)), some (vI 0)] [] T3 ?_
                            refine j_drq [some (vR 111 0), some (vI f), some (vI tk), some (vI 1), some (vI i), some (vI b), some (vI (o + 1)), none] (drq_s (drq_s (drq_s (drq_s (drq_s (drq_s (drq_s (drq_n drq_0)))))))) ?_
                            refine ih_115 _ ?_ 1 b (o + 1) st3 cc3 T3 (Nat.le_refl _) ?_ ?_ ?_ ?_ ?_ ?_
                            · have hm_115 := hm_115 (); omega
                            · exact fr_t (fr_0 _ _) (fr_s hf_115 rfl)
                            · omega
                            · exact fq3
                            · first
                              | exact ⟨pg3.1, fun z => pg3.2 (by omega)⟩
                              | exact ⟨pg3.1, fun z => absurd rfl z⟩
                            · intro z; exact absurd z (by decide)
                            · exact hb3
                        · exact absurd c19 (by decide)
                      · have hle := hlx.resolve_right (fun z => absurd z.1 (by omega))
                        replace hle := hle.2
                        refine hK 172 _ [vI 1] T3 ?_
                        refine j_blx (F := fX11) tb_X11 (nn_ _) bk_X11_findPaths_172 bs_X11_findPaths_172 hz (fun K hK => ?_)
                        refine And.intro (fun c21 => ?_) (fun c21 => ?_)
                        · exact absurd c21 (by decide)
                        · refine ix_i (by omega) ?_
                          intro b22 b22b
                          have e23 : T3 306 0 i = T 306 0 i := hf_115 306 0 i rfl
                          rw [e23] at b22 b22b ⊢
                          refine hK 196 [some (vR 111 0), some (vI f), some (vI tk), some (vI mr3), some (vI i), some (vI b), some (vI o), some (vI 1)] [vI o, vI (T 306 0 i), vR 111 0, vI b, vI o, vI i, vR 111 0] T3 ?_
                          refine j_callV (y := yX11_distanceOf) (Yc := zX11_distanceOf) (rest := [vI b, vI o, vI i, vR 111 0]) [vI (T 306 0 i), vI o] (ct_X11_distanceOf (T := T3) (by omega) (by omega)) cl_X11_610 (qd_c (by decide +kernel)) (nn_ _) rfl (rf_of rfl) (Nat.le_of_ble_eq_true rfl) (Nat.le_of_ble_eq_true rfl) (Nat.le_of_ble_eq_true rfl) rfl ?_
                          rintro _ _ ⟨rfl, rfl⟩
                          show J_ zX11_findPaths T (po_X11_findPaths T pi f tk) 0 0 199 _ [vI (di_ T3 (T 306 0 i) o), vI b, vI o, vI i, vR 111 0] T3
                          refine j_blx (F := fX11) tb_X11 (nn_ _) bk_X11_findPaths_199 bs_X11_findPaths_199 hz (fun K hK => ?_)
                          have hdo := hdd i o (by omega) (by omega) (by omega) (by omega)
                          have hedi : di_ T3 (T 306 0 i) o = di_ T (T 306 0 i) o := di_e (fun j => hf_115 222 0 j rfl) (fun j => hf_115 213 0 j rfl) (fun j => hf_115 232 0 j rfl)
                          refine rg_i (by omega) ?_
                          refine hK 200 _ [vI (b + (di_ T3 (T 306 0 i) o)), vI o, vI i, vR 111 0] T3 ?_
                          have hub : b + di_ T (T 306 0 i) o ≤ 10011 + 11 * rc8_ (far_ T3) := by omega
                          refine j_callV (y := yX11_reach) (Yc := zX11_reach) (rest := []) [vI i, vI o, vI (b + (di_ T3 (T 306 0 i) o))] (ct_X11_reach (T := T3) (by omega) (by omega)) cl_X11_616 (qd_c (by decide +kernel)) (nn_ _) rfl (rf_of rfl) (Nat.le_of_ble_eq_true rfl) (Nat.le_of_ble_eq_true rfl) (Nat.le_of_ble_eq_true rfl) rfl ?_
                          rintro U24 _ ⟨x25, rfl, fU24, qU24⟩
                          show J_ zX11_findPaths T (po_X11_findPaths T pi f tk) 0 0 203 _ [vI x25] U24
                          have hq9 := qU24
                          refine j_blx (F := fX11) tb_X11 (nn_ _) bk_X11_findPaths_203 bs_X11_findPaths_203 hz (fun K hK => ?_)
                          refine And.intro (fun c26 => ?_) (fun c26 => ?_)
                          · have hsh : far_ T3 o < 0 ∨ b + di_ T (T 306 0 i) o < far_ T3 o := by
                              have h8 := (hq9.resolve_right (fun z => absurd z.1 (by omega))).2.1
                              rw [hedi] at h8
                              exact h8
                            have hh := hq9.resolve_right (fun z => absurd z.1 (by omega))
                            have hfar : far_ U24 = fu_ (far_ T3) o (b + di_ T (T 306 0 i) o) := by rw [show di_ T (T 306 0 i) o = di_ T3 (T 306 0 i) o from (di_e (fun j => hf_115 222 0 j rfl) (fun j => hf_115 213 0 j rfl) (fun j => hf_115 232 0 j rfl)).symm]; exact hh.2.2.1
                            have hcby : cby_ U24 = fu_ (cby_ T3) o i := hh.2.2.2
                            have hne : gh_ T i ≠ o := hho
                            have hfi := fi_u (F := (ofs_ T tk f)) (st := st3) (c := cc3) (i := i) (o := o) P fq3.1 fq3.2.1 (show f ≤ i ∧ i < T 111 0 107 by omega) ⟨by omega, hle⟩ hne (show 0 ≤ o ∧ o < T 111 0 21 by omega) (by rw [← hb3]; omega) (by rw [← hb3]; exact hsh)
                            rw [← hb3] at hfi
                            have hfb := fb_u (v := b + di_ T (T 306 0 i) o) fq3.2.2 (by omega) (show 0 ≤ o ∧ o < T 111 0 21 by omega) hsh (by have := hfi.1; show (0 : Int) ≤ b + (ofs_ T tk f).d i o; omega) hub
                            have fq9 : FQ_ T U24 tk f pi (fsn_ st3 o (cc3 + 1)) (cc3 + 1) := by
                              refine ⟨fun q a c => ?_, fun q => ?_, ?_⟩
                              · rw [hfar, hcby]; exact hfi.2 q a c
                              · by_cases z : q = o
                                · rw [z, fsn_s]; exact Nat.le_refl _
                                · rw [fsn_n z]; exact Nat.le_succ_of_le (fq3.2.1 q)
                              · rw [hfar]; exact hfb.1
                            refine hK 210 _ [] U24 ?_
                            refine j_blx (F := fX11) tb_X11 (nn_ _) bk_X11_findPaths_210 bs_X11_findPaths_210 hz (fun K hK => ?_)
                            refine hK 215 _ [vI 1] U24 ?_
                            refine j_blx (F := fX11) tb_X11 (nn_ _) bk_X11_findPaths_215 bs_X11_findPaths_215 hz (fun K hK => ?_)
                            refine rg_i (by omega) ?_
                            refine hK 115 [some (vR 111 0), some (vI f), some (vI tk), some (vI 1), some (vI i), some (vI b), some (vI (o + 1)), some (vI 1)] [] U24 ?_
                            refine j_drq [some (vR 111 0), some (vI f), some (vI tk), some (vI 1), some (vI i), some (vI b), some (vI (o + 1)), none] (drq_s (drq_s (drq_s (drq_s (drq_s (drq_s (drq_s (drq_n drq_0)))))))) ?_
                            refine ih_115 _ ?_ 1 b (o + 1) (fsn_ st3 o (cc3 + 1)) (cc3 + 1) U24 (Nat.le_refl _) ?_ ?_ ?_ ?_ ?_ ?_
                            · have hm_115 := hm_115 (); omega
                            · exact fr_t (fr_t (fr_0 _ _) (fr_s hf_115 rfl)) (fr_s fU24 rfl)
                            · omega
                            · exact fq9
                            · unfold PG_
                              rw [hfar]
                              exact ⟨by have := hfb.2; have := pg3.1; omega, fun _ => by have := hfb.2; have := pg3.1; omega⟩
                            · intro z; exact absurd z (by decide)
                            · rw [hfar]
                              unfold bs_
                              rw [fu_n hne]
                              exact hb3
                          · have hh := hq9.resolve_left (fun z => absurd z.1 (by omega))
                            have hfar : far_ U24 = far_ T3 := hh.2.2.2.1
                            have hcby : cby_ U24 = cby_ T3 := hh.2.2.2.2
                            have fq9 := fq_e fq3 hfar hcby
                            refine And.intro (fun c27 => ?_) (fun c27 => ?_)
                            · refine hK 214 [some (vR 111 0), some (vI f), some (vI tk), some (vI mr3), some (vI i), some (vI b), some (vI o), some (vI 1)] [] U24 ?_
                              refine j_blx (F := fX11) tb_X11 (nn_ _) bk_X11_findPaths_214 bs_X11_findPaths_214 hz (fun K hK => ?_)
                              refine rg_i (by omega) ?_
                              refine hK 115 [some (vR 111 0), some (vI f), some (vI tk), some (vI 0), some (vI i), some (vI b), some (vI (o + 1)), some (vI 1)] [] U24 ?_
                              refine j_drq [some (vR 111 0), some (vI f), some (vI tk), some (vI 0), some (vI i), some (vI b), some (vI (o + 1)), none] (drq_s (drq_s (drq_s (drq_s (drq_s (drq_s (drq_s (drq_n drq_0)))))))) ?_
                              refine ih_115 _ ?_ 0 b (o + 1) st3 cc3 U24 (Nat.le_refl _) ?_ ?_ ?_ ?_ ?_ ?_
                              · have hm_115 := hm_115 (); omega
                              · exact fr_t (fr_t (fr_0 _ _) (fr_s hf_115 rfl)) (fr_s fU24 rfl)
                              · omega
                              · exact fq9
                              · unfold PG_
                                rw [hfar]
                                exact ⟨pg3.1, fun z => pg3.2 (by omega)⟩
                              · intro z
                                have h9 := rl3 (by omega)
                                unfold RL_
                                rw [hfar]
                                refine ⟨h9.1, fun q a b => ?_⟩
                                by_cases y : q = o
                                · rw [y]; intro k1 k2 k3
                                  rw [← hb3]
                                  have h8 := hh.2.2.1
                                  rw [hedi] at h8
                                  exact ⟨hh.2.1, h8⟩
                                · exact h9.2 q a (by omega)
                              · rw [show far_ U24 = far_ T3 from hfar]
                                exact hb3
                            · refine hK 215 [some (vR 111 0), some (vI f), some (vI tk), some (vI mr3), some (vI i), some (vI b), some (vI o), some (vI 1)] [vI 1] U24 ?_
                              refine j_blx (F := fX11) tb_X11 (nn_ _) bk_X11_findPaths_215 bs_X11_findPaths_215 hz (fun K hK => ?_)
                              refine rg_i (by omega) ?_
                              refine hK 115 [some (vR 111 0), some (vI f), some (vI tk), some (vI 1), some (vI i), some (vI b), some (vI (o + 1)), some (vI 1)] [] U24 ?_
                              refine j_drq [some (vR 111 0), some (vI f), some (vI tk), some (vI 1), some (vI i), some (vI b), some (vI (o + 1)), none] (drq_s (drq_s (drq_s (drq_s (drq_s (drq_s (drq_s (drq_n drq_0)))))))) ?_
                              refine ih_115 _ ?_ 1 b (o + 1) st3 cc3 U24 (Nat.le_refl _) ?_ ?_ ?_ ?_ ?_ ?_
                              · have hm_115 := hm_115 (); omega
                              · exact fr_t (fr_t (fr_0 _ _) (fr_s hf_115 rfl)) (fr_s fU24 rfl)
                              · omega
                              · exact fq9
                              · unfold PG_
                                rw [hfar]
                                exact ⟨pg3.1, fun z => pg3.2 (by omega)⟩
                              · intro z; exact absurd z (by decide)
                              · rw [show far_ U24 = far_ T3 from hfar]
                                exact hb3
          refine j_blx (F := fX11) tb_X11 (nn_ _) bk_X11_findPaths_34 bs_X11_findPaths_34 hz (fun K hK => ?_)
          intro b28 b28b
          have e29 : T2 111 0 107 = T 111 0 107 := hf_34 111 0 107 rfl
          rw [e29] at b28 b28b ⊢
          refine And.intro (fun c30 => ?_) (fun c30 => ?_)
          · refine hK 228 _ [] T2 ?_
            refine j_blx (F := fX11) tb_X11 (nn_ _) bk_X11_findPaths_228 bs_X11_findPaths_228 hz (fun K hK => ?_)
            refine hK 25 _ [] T2 ?_
            refine j_drq [some (vR 111 0), some (vI f), some (vI tk), some (vI mr2), none, none, none, none] (drq_s (drq_s (drq_s (drq_s (drq_n (drq_n (drq_n (drq_n drq_0)))))))) ?_
            refine ih_25 _ ?_ mr2 st2 cc2 T2 (Nat.le_refl _) ?_ ?_ ?_ ?_
            · have hm_25 := hm_25 (); exact Nat.lt_of_lt_of_le (fm9_l (by omega) (mu8_n _) (mu8_n _) (by by_cases z : mr2 = 0; exact Or.inl z; exact Or.inr (pg2.2 z))) hm_25
            · exact fr_t (fr_0 _ _) (fr_s hf_34 rfl)
            · omega
            · exact fq2
            · intro z j q a b c d
              exact (rl2 z).1 j q a (by omega) c d
          · refine ix_i (by omega) ?_
            intro b31 b31b
            have e32 : T2 311 0 i = T 311 0 i := hf_34 311 0 i rfl
            rw [e32] at b31 b31b ⊢
            refine And.intro (fun c33 => ?_) (fun c33 => ?_)
            · refine hK 60 [some (vR 111 0), some (vI f), some (vI tk), some (vI mr2), some (vI i), none, none, none] [] T2 ?_
              refine j_blx (F := fX11) tb_X11 (nn_ _) bk_X11_findPaths_60 bs_X11_findPaths_60 hz (fun K hK => ?_)
              refine ix_i (by omega) ?_
              intro b34 b34b
              have e35 : T2 311 0 i = T 311 0 i := hf_34 311 0 i rfl
              rw [e35] at b34 b34b ⊢
              refine ix_i (by omega) ?_
              intro b36 b36b
              refine And.intro (fun c37 => ?_) (fun c37 => ?_)
              · refine hK 79 _ [] T2 ?_
                refine j_blx (F := fX11) tb_X11 (nn_ _) bk_X11_findPaths_79 bs_X11_findPaths_79 hz (fun K hK => ?_)
                refine ix_i (by omega) ?_
                intro b38 b38b
                have e39 : T2 311 0 i = T 311 0 i := hf_34 311 0 i rfl
                rw [e39] at b38 b38b ⊢
                refine ix_i (by omega) ?_
                intro b40 b40b
                refine ix_i (by omega) ?_
                intro b41 b41b
                have e42 : T2 306 0 i = T 306 0 i := hf_34 306 0 i rfl
                rw [e42] at b41 b41b ⊢
                refine ix_i (by omega) ?_
                intro b43 b43b
                have e44 : T2 311 0 i = T 311 0 i := hf_34 311 0 i rfl
                rw [e44] at b43 b43b ⊢
                refine hK 106 _ [vI (T 311 0 i), vI (T 306 0 i), vR 111 0, vI (T2 309 0 (T 311 0 i))] T2 ?_
                refine j_callV (y := yX11_distanceOf) (Yc := zX11_distanceOf) (rest := [vI (T2 309 0 (T 311 0 i))]) [vI (T 306 0 i), vI (T 311 0 i)] (ct_X11_distanceOf (T := T2) (by omega) (by omega)) cl_X11_610 (qd_c (by decide +kernel)) (nn_ _) rfl (rf_of rfl) (Nat.le_of_ble_eq_true rfl) (Nat.le_of_ble_eq_true rfl) (Nat.le_of_ble_eq_true rfl) rfl ?_
                rintro _ _ ⟨rfl, rfl⟩
                show J_ zX11_findPaths T (po_X11_findPaths T pi f tk) 0 0 109 _ [vI (di_ T2 (T 306 0 i) (T 311 0 i)), vI (T2 309 0 (T 311 0 i))] T2
                refine j_blx (F := fX11) tb_X11 (nn_ _) bk_X11_findPaths_109 bs_X11_findPaths_109 hz (fun K hK => ?_)
                have hedi2 : di_ T2 (T 306 0 i) (T 311 0 i) = di_ T (T 306 0 i) (T 311 0 i) := di_e (fun j => hf_34 222 0 j rfl) (fun j => hf_34 213 0 j rfl) (fun j => hf_34 232 0 j rfl)
                have hd2 := hdd i (T 311 0 i) (by omega) (by omega) (by omega) (by omega)
                refine rg_i (by omega) ?_
                refine hK 115 [some (vR 111 0), some (vI f), some (vI tk), some (vI mr2), some (vI i), some (vI ((T2 309 0 (T 311 0 i)) - (di_ T2 (T 306 0 i) (T 311 0 i)))), some (vI 0), none] [] T2 ?_
                refine c_115 _ mr2 ((T2 309 0 (T 311 0 i)) - (di_ T2 (T 306 0 i) (T 311 0 i))) 0 st2 cc2 T2 (Nat.le_refl _) ?_ ?_ ?_ ?_ ?_ ?_
                · exact fr_t (fr_0 _ _) (fr_s hf_34 rfl)
                · omega
                · exact fq2
                · exact pg2
                · intro z
                  have h9 := rl2 z
                  exact ⟨h9.1, fun q a b => by omega⟩
                · show _ = bs_ _ _ _ _
                  unfold bs_ gh_ far_
                  rw [if_neg (by omega), if_neg (by omega)]
                  show _ = _ - di_ T (T 306 0 i) _
                  omega
              · refine hK 110 [some (vR 111 0), some (vI f), some (vI tk), some (vI mr2), some (vI i), none, none, none] [vI (-1)] T2 ?_
                refine j_blx (F := fX11) tb_X11 (nn_ _) bk_X11_findPaths_110 bs_X11_findPaths_110 hz (fun K hK => ?_)
                refine hK 115 [some (vR 111 0), some (vI f), some (vI tk), some (vI mr2), some (vI i), some (vI (-1)), some (vI 0), none] [] T2 ?_
                refine c_115 _ mr2 (-1) 0 st2 cc2 T2 (Nat.le_refl _) ?_ ?_ ?_ ?_ ?_ ?_
                · exact fr_t (fr_0 _ _) (fr_s hf_34 rfl)
                · omega
                · exact fq2
                · exact pg2
                · intro z
                  have h9 := rl2 z
                  exact ⟨h9.1, fun q a b => by omega⟩
                · show _ = bs_ _ _ _ _
                  unfold bs_ gh_ far_
                  rw [if_neg (by omega), if_pos (by omega)]
            · refine hK 110 _ [vI 10000] T2 ?_
              refine j_blx (F := fX11) tb_X11 (nn_ _) bk_X11_findPaths_110 bs_X11_findPaths_110 hz (fun K hK => ?_)
              refine hK 115 [some (vR 111 0), some (vI f), some (vI tk), some (vI mr2), some (vI i), some (vI 10000), some (vI 0), none] [] T2 ?_
              refine c_115 _ mr2 10000 0 st2 cc2 T2 (Nat.le_refl _) ?_ ?_ ?_ ?_ ?_ ?_
              · exact fr_t (fr_0 _ _) (fr_s hf_34 rfl)
              · omega
              · exact fq2
              · exact pg2
              · intro z
                have h9 := rl2 z
                exact ⟨h9.1, fun q a b => by omega⟩
              · show _ = bs_ _ _ _ _
                unfold bs_ gh_ far_
                rw [if_pos (by omega)]
      refine j_blx (F := fX11) tb_X11 (nn_ _) bk_X11_findPaths_25 bs_X11_findPaths_25 hz (fun K hK => ?_)
      refine And.intro (fun c45 => ?_) (fun c45 => ?_)
      · refine hK 231 _ [] T1 ?_
        refine j_blx (F := fX11) tb_X11 (nn_ _) bk_X11_findPaths_231 bs_X11_findPaths_231 hz (fun K hK => ?_)
        refine (show po_X11_findPaths T pi f tk T1 (none) from ?_)
        exact ⟨rfl, fr_t (fr_0 _ _) (fr_s hf_25 rfl), st1, P, fq1.1, fun j q a b c d => rx1 (by omega) j q a b c d⟩
      · refine hK 34 [some (vR 111 0), some (vI f), some (vI tk), some (vI 0), some (vI f), none, none, none] [] T1 ?_
        refine c_34 _ 0 f st1 cc1 T1 (Nat.le_refl _) ?_ ?_ ?_ ?_ ?_
        · exact fr_t (fr_0 _ _) (fr_s hf_25 rfl)
        · omega
        · exact fq1
        · exact ⟨Int.le_refl _, fun z => absurd rfl z⟩
        · exact fun _ => ⟨fun j q a b => by omega, fun q a b => by omega⟩
  have c_2 : ∀ (nn : Nat) (o : Int) (T0 : Zt), ((8 - o).toNat) ≤ nn → (fr_ [(309, [])] T T0) → (0 ≤ o ∧ o ≤ 8) → (∀ j, 0 ≤ j → j < o → T0 309 0 j = -1) → J_ zX11_findPaths T (po_X11_findPaths T pi f tk) 0 0 2 [some (vR 111 0), some (vI f), some (vI tk), some (vI o), none, none, none, none] [] T0 := by
    intro nn
    induction nn using Nat.strongRecOn with
    | _ nn ih_2 =>
      intro o T0 hm_2 hf_2 i0 z1
      replace hm_2 := fun (_ : Unit) => hm_2
      refine j_blx (F := fX11) tb_X11 (nn_ _) bk_X11_findPaths_2 bs_X11_findPaths_2 hz (fun K hK => ?_)
      intro b46 b46b
      have e47 : T0 111 0 21 = T 111 0 21 := hf_2 111 0 21 rfl
      rw [e47] at b46 b46b ⊢
      refine And.intro (fun c48 => ?_) (fun c48 => ?_)
      · refine hK 23 _ [] T0 ?_
        have fq0 : FQ_ T T0 tk f pi (fun _ => 0) 0 := ⟨fun q a b => Or.inl (by show T0 309 0 q < 0; rw [z1 q a (by omega)]; decide), fun _ => Nat.le_refl _, fun q a b => by have := rc8_n (far_ T0); show T0 309 0 q ≤ _; rw [z1 q a (by omega)]; omega⟩
        refine j_blx (F := fX11) tb_X11 (nn_ _) bk_X11_findPaths_23 bs_X11_findPaths_23 hz (fun K hK => ?_)
        refine hK 25 [some (vR 111 0), some (vI f), some (vI tk), some (vI 1), none, none, none, none] [] T0 ?_
        refine c_25 _ 1 (fun _ => 0) 0 T0 (Nat.le_refl _) ?_ ?_ ?_ ?_
        · exact fr_t (fr_0 _ _) (fr_s hf_2 rfl)
        · omega
        · exact fq0
        · intro z; exact absurd z (by decide)
      · refine iy_i (by omega) (by omega) ?_
        refine x_nm (fun U49 hU49 => ?_)
        have e50 := up_f hU49
        refine rg_i (by omega) ?_
        refine hK 2 [some (vR 111 0), some (vI f), some (vI tk), some (vI (o + 1)), none, none, none, none] [] U49 ?_
        refine ih_2 _ ?_ (o + 1) U49 (Nat.le_refl _) ?_ ?_ ?_
        · have hm_2 := hm_2 (); omega
        · exact fr_u (fr_t (fr_0 _ _) (fr_s hf_2 rfl)) hU49 rfl
        · omega
        · intro j a b
          by_cases z : j = o
          · rw [z]; exact up_f hU49
          · rw [up_g hU49 (fun q => z q.2.2)]; exact z1 j a (by omega)
  refine j_blx (F := fX11) tb_X11 (nn_ _) bk_X11_findPaths_0 bs_X11_findPaths_0 hz (fun K hK => ?_)
  refine hK 2 [some (vR 111 0), some (vI f), some (vI tk), some (vI 0), none, none, none, none] [] T ?_
  refine c_2 _ 0 T (Nat.le_refl _) ?_ ?_ ?_
  · exact fr_0 _ _
  · omega
  · intro j a b; omega
def hld_ (T : Zt) : Int → Int := fun k => T 308 0 k
def sm9_ (st : Int → Nat) (o : Int) : Nat := if o = -1 then 0 else st o + 1
theorem ofs_e {T T1 : Zt} {tk f : Int} (a : ∀ k, T1 222 0 k = T 222 0 k) (b : ∀ k, T1 213 0 k = T 213 0 k) (c : ∀ k, T1 232 0 k = T 232 0 k) (d : ∀ k, T1 233 0 k = T 233 0 k) (e : ∀ k, T1 223 0 k = T 223 0 k) (g : ∀ k, T1 214 0 k = T 214 0 k) (h : ∀ k, T1 306 0 k = T 306 0 k) (i : T1 111 0 21 = T 111 0 21) (j : T1 111 0 107 = T 111 0 107) : ofs_ T1 tk f = ofs_ T tk f := by
  have e1 : (fun i o => di_ T1 (T1 306 0 i) o) = (fun i o => di_ T (T 306 0 i) o) := funext (fun i => funext (fun o => by rw [h]; exact di_e a b c))
  have e2 : (fun i o => an_ (sr_ tk o) 1 = 0 ∧ ld_ T1 (T1 306 0 i) o) = (fun i o => an_ (sr_ tk o) 1 = 0 ∧ ld_ T (T 306 0 i) o) := funext (fun i => funext (fun o => by rw [h]; exact propext (and_congr Iff.rfl (ld_e e g c d))))
  unfold ofs_
  rw [i, j, e1, e2]
theorem po_0 {F : Of_} {ho : Int → Int} (D : of_d F) (hn : 0 ≤ F.n) (h : ∀ i, F.f ≤ i → i < F.e → ho i = -1) : po_ F ho (fun _ => 10000) := by
  refine ⟨fun _ _ _ => Int.le_refl _, fun i a b => by rw [h i a b]; omega, fun i o a b c d _ _ => ⟨fun _ => ?_, fun z => absurd (h i a b) z⟩⟩
  have := D i o a b c d
  show (10000 : Int) ≤ _
  omega
theorem fx_p {F : Of_} {ho far pi cb : Int → Int} {st : Int → Nat} (X : fx_ F ho pi far cb st) {o : Int} (h : 0 ≤ o ∧ o < F.n) (hr : 0 ≤ far o) : pi o ≤ far o := by
  rcases X.2.1 o h.1 h.2 with w | w
  · omega
  · exact w.1
theorem nh_m {f g : Int → Int} (h : ∀ k, 0 ≤ k → k < 8 → -1 ≤ g k ∧ (f k ≠ -1 → g k ≠ -1)) (hf : ∀ k, 0 ≤ k → k < 8 → -1 ≤ f k) : nh_ g ≤ nh_ f := by
  have k : ∀ q, 0 ≤ q → q < 8 → r1_ (-1 - g q) ≤ r1_ (-1 - f q) := fun q a b => by
    have p := h q a b
    have p2 := hf q a b
    unfold r1_
    by_cases y : f q = -1
    · rw [if_neg (show ¬ (-1 - f q < 0) by omega)]; split <;> omega
    · rw [if_pos (show -1 - g q < 0 by omega), if_pos (show -1 - f q < 0 by omega)]; decide
  have k0 := k 0 (by decide) (by decide); have k1 := k 1 (by decide) (by decide); have k2 := k 2 (by decide) (by decide); have k3 := k 3 (by decide) (by decide); have k4 := k 4 (by decide) (by decide); have k5 := k 5 (by decide) (by decide); have k6 := k 6 (by decide) (by decide); have k7 := k 7 (by decide) (by decide)
  unfold nh_
  omega
theorem nh_8 (f : Int → Int) : nh_ f ≤ 8 := by
  have a0 := r1_n (-1 - f 0); have a1 := r1_n (-1 - f 1); have a2 := r1_n (-1 - f 2); have a3 := r1_n (-1 - f 3); have a4 := r1_n (-1 - f 4); have a5 := r1_n (-1 - f 5); have a6 := r1_n (-1 - f 6); have a7 := r1_n (-1 - f 7)
  unfold nh_; omega
abbrev cX11_matchRest : ByteArray := prog_13_method_126_code
def yX11_matchRest : MethodName := ⟨RX11, "matchRest", "(II)V"⟩
def zX11_matchRest : Zm := (RX11, cX11_matchRest, 8, none, { frames := 2, cells := 0, slots := 0, locals := 51 })
theorem bk_X11_matchRest_190 : ck_ fX11 none cX11_matchRest 190 [.iload 5, .iconst (-1), .if_icmp .eq 239, .aload 0, .tableswitch 0 11 110 #[], .iload 5, .iaload, .istore 6, .aload 0, .tableswitch 0 11 111 #[], .iload 6, .iaload, .istore 7, .aload 0, .tableswitch 0 11 111 #[], .iload 6, .iload 5, .iastore, .aload 0, .tableswitch 0 11 108 #[], .iload 5, .iload 6, .iastore, .iload 7, .istore 5, .goto 190] 239 = true := qck_r (nn_ _) (by decide +kernel)
theorem bs_X11_matchRest_190 {P : Zt → Option Zv → Prop} (K : Int → Zl → List Zv → Zt → Prop) : sx_ K P [.iload 5, .iconst (-1), .if_icmp .eq 239, .aload 0, .tableswitch 0 11 110 #[], .iload 5, .iaload, .istore 6, .aload 0, .tableswitch 0 11 111 #[], .iload 6, .iaload, .istore 7, .aload 0, .tableswitch 0 11 111 #[], .iload 6, .iload 5, .iastore, .aload 0, .tableswitch 0 11 108 #[], .iload 5, .iload 6, .iastore, .iload 7, .istore 5, .goto 190] 239 = x_iload 5 (x_iconst (-1) (x_if_icmp .eq 239 K (x_aload 0 (x_g1 111 310 (x_iload 5 (x_iaload (x_istore 6 (x_aload 0 (x_g1 111 311 (x_iload 6 (x_iaload (x_istore 7 (x_aload 0 (x_g1 111 311 (x_iload 6 (x_iload 5 (x_iastore (x_aload 0 (x_g1 111 308 (x_iload 5 (x_iload 6 (x_iastore (x_iload 7 (x_istore 5 (x_goto 190 K))))))))))))))))))))))))) := ((xe_iload 5).trans (congrArg (x_iload 5) ((xe_iconst (-1)).trans (congrArg (x_iconst (-1)) ((xe_if_icmp .eq 239).trans (congrArg (x_if_icmp .eq 239 K) ((xe_aload 0).trans (congrArg (x_aload 0) ((xe_g1 (kk := 111) rfl tl_11_110).trans (congrArg (x_g1 111 310) ((xe_iload 5).trans (congrArg (x_iload 5) ((xe_iaload).trans (congrArg (x_iaload) ((xe_istore 6).trans (congrArg (x_istore 6) ((xe_aload 0).trans (congrArg (x_aload 0) ((xe_g1 (kk := 111) rfl tl_11_111).trans (congrArg (x_g1 111 311) ((xe_iload 6).trans (congrArg (x_iload 6) ((xe_iaload).trans (congrArg (x_iaload) ((xe_istore 7).trans (congrArg (x_istore 7) ((xe_aload 0).trans (congrArg (x_aload 0) ((xe_g1 (kk := 111) rfl tl_11_111).trans (congrArg (x_g1 111 311) ((xe_iload 6).trans (congrArg (x_iload 6) ((xe_iload 5).trans (congrArg (x_iload 5) ((xe_iastore).trans (congrArg (x_iastore) ((xe_aload 0).trans (congrArg (x_aload 0) ((xe_g1 (kk := 111) rfl tl_11_108).trans (congrArg (x_g1 111 308) ((xe_iload 5).trans (congrArg (x_iload 5) ((xe_iload 6).trans (congrArg (x_iload 6) ((xe_iastore).trans (congrArg (x_iastore) ((xe_iload 7).trans (congrArg (x_iload 7) ((xe_istore 5).trans (congrArg (x_istore 5) (xe_goto 190)))))))))))))))))))))))))))))))))))))))))))))))))))
theorem bk_X11_matchRest_239 : ck_ fX11 none cX11_matchRest 239 [.goto 56] 242 = true := qck_r (nn_ _) (by decide +kernel)
theorem bs_X11_matchRest_239 {P : Zt → Option Zv → Prop} (K : Int → Zl → List Zv → Zt → Prop) : sx_ K P [.goto 56] 242 = x_goto 56 K := (xe_goto 56)
theorem bk_X11_matchRest_72 : ck_ fX11 none cX11_matchRest 72 [.iload 5, .aload 0, .tableswitch 0 11 21 #[], .if_icmp .ge 140, .aload 0, .tableswitch 0 11 109 #[], .iload 5, .iaload, .ifCond .lt 130, .aload 0, .tableswitch 0 11 108 #[], .iload 5, .iaload, .iconst (-1), .if_icmp .ne 130, .iload 4, .iconst (-1), .if_icmp .eq 125, .aload 0, .tableswitch 0 11 109 #[], .iload 5, .iaload, .aload 0, .tableswitch 0 11 109 #[], .iload 4, .iaload, .if_icmp .ge 130, .iload 5, .goto 132] 130 = true := qck_r (nn_ _) (by decide +kernel)
theorem bs_X11_matchRest_72 {P : Zt → Option Zv → Prop} (K : Int → Zl → List Zv → Zt → Prop) : sx_ K P [.iload 5, .aload 0, .tableswitch 0 11 21 #[], .if_icmp .ge 140, .aload 0, .tableswitch 0 11 109 #[], .iload 5, .iaload, .ifCond .lt 130, .aload 0, .tableswitch 0 11 108 #[], .iload 5, .iaload, .iconst (-1), .if_icmp .ne 130, .iload 4, .iconst (-1), .if_icmp .eq 125, .aload 0, .tableswitch 0 11 109 #[], .iload 5, .iaload, .aload 0, .tableswitch 0 11 109 #[], .iload 4, .iaload, .if_icmp .ge 130, .iload 5, .goto 132] 130 = x_iload 5 (x_aload 0 (x_g0 111 21 0 8 (x_if_icmp .ge 140 K (x_aload 0 (x_g1 111 309 (x_iload 5 (x_iaload (x_ifCond .lt 130 K (x_aload 0 (x_g1 111 308 (x_iload 5 (x_iaload (x_iconst (-1) (x_if_icmp .ne 130 K (x_iload 4 (x_iconst (-1) (x_if_icmp .eq 125 K (x_aload 0 (x_g1 111 309 (x_iload 5 (x_iaload (x_aload 0 (x_g1 111 309 (x_iload 4 (x_iaload (x_if_icmp .ge 130 K (x_iload 5 (x_goto 132 K)))))))))))))))))))))))))))) := ((xe_iload 5).trans (congrArg (x_iload 5) ((xe_aload 0).trans (congrArg (x_aload 0) ((xe_g0 (kk := 111) rfl tl_11_21).trans (congrArg (x_g0 111 21 0 8) ((xe_if_icmp .ge 140).trans (congrArg (x_if_icmp .ge 140 K) ((xe_aload 0).trans (congrArg (x_aload 0) ((xe_g1 (kk := 111) rfl tl_11_109).trans (congrArg (x_g1 111 309) ((xe_iload 5).trans (congrArg (x_iload 5) ((xe_iaload).trans (congrArg (x_iaload) ((xe_ifCond .lt 130).trans (congrArg (x_ifCond .lt 130 K) ((xe_aload 0).trans (congrArg (x_aload 0) ((xe_g1 (kk := 111) rfl tl_11_108).trans (congrArg (x_g1 111 308) ((xe_iload 5).trans (congrArg (x_iload 5) ((xe_iaload).trans (congrArg (x_iaload) ((xe_iconst (-1)).trans (congrArg (x_iconst (-1)) ((xe_if_icmp .ne 130).trans (congrArg (x_if_icmp .ne 130 K) ((xe_iload 4).trans (congrArg (x_iload 4) ((xe_iconst (-1)).trans (congrArg (x_iconst (-1)) ((xe_if_icmp .eq 125).trans (congrArg (x_if_icmp .eq 125 K) ((xe_aload 0).trans (congrArg (x_aload 0) ((xe_g1 (kk := 111) rfl tl_11_109).trans (congrArg (x_g1 111 309) ((xe_iload 5).trans (congrArg (x_iload 5) ((xe_iaload).trans (congrArg (x_iaload) ((xe_aload 0).trans (congrArg (x_aload 0) ((xe_g1 (kk := 111) rfl tl_11_109).trans (congrArg (x_g1 111 309) ((xe_iload 4).trans (congrArg (x_iload 4) ((xe_iaload).trans (congrArg (x_iaload) ((xe_if_icmp .ge 130).trans (congrArg (x_if_icmp .ge 130 K) ((xe_iload 5).trans (congrArg (x_iload 5) (xe_goto 132)))))))))))))))))))))))))))))))))))))))))))))))))))))))))
theorem bk_X11_matchRest_140 : ck_ fX11 none cX11_matchRest 140 [.iload 4, .iconst (-1), .if_icmp .eq 150, .iconst 1, .goto 151] 150 = true := qck_r (nn_ _) (by decide +kernel)
theorem bs_X11_matchRest_140 {P : Zt → Option Zv → Prop} (K : Int → Zl → List Zv → Zt → Prop) : sx_ K P [.iload 4, .iconst (-1), .if_icmp .eq 150, .iconst 1, .goto 151] 150 = x_iload 4 (x_iconst (-1) (x_if_icmp .eq 150 K (x_iconst 1 (x_goto 151 K)))) := ((xe_iload 4).trans (congrArg (x_iload 4) ((xe_iconst (-1)).trans (congrArg (x_iconst (-1)) ((xe_if_icmp .eq 150).trans (congrArg (x_if_icmp .eq 150 K) ((xe_iconst 1).trans (congrArg (x_iconst 1) (xe_goto 151)))))))))
theorem bk_X11_matchRest_150 : ck_ fX11 none cX11_matchRest 150 [.iconst 0, .istore 3, .iload 3, .ifCond .eq 186, .aload 0, .dup, .tableswitch 0 11 112 #[], .iconst 1, .iadd, .tableswitch 1 11 112 #[], .aload 0, .dup, .tableswitch 0 11 113 #[], .aload 0, .tableswitch 0 11 109 #[], .iload 4, .iaload, .iconst 10000, .fsub, .fadd, .tableswitch 1 11 113 #[], .iload 4, .istore 5] 190 = true := qck_r (nn_ _) (by decide +kernel)
theorem bs_X11_matchRest_150 {P : Zt → Option Zv → Prop} (K : Int → Zl → List Zv → Zt → Prop) : sx_ K P [.iconst 0, .istore 3, .iload 3, .ifCond .eq 186, .aload 0, .dup, .tableswitch 0 11 112 #[], .iconst 1, .iadd, .tableswitch 1 11 112 #[], .aload 0, .dup, .tableswitch 0 11 113 #[], .aload 0, .tableswitch 0 11 109 #[], .iload 4, .iaload, .iconst 10000, .fsub, .fadd, .tableswitch 1 11 113 #[], .iload 4, .istore 5] 190 = x_iconst 0 (x_istore 3 (x_iload 3 (x_ifCond .eq 186 K (x_aload 0 (x_dup (x_g0 111 112 (-2147483648) 2147483647 (x_iconst 1 (x_iadd (x_p 111 112 (-2147483648) 2147483647 (x_aload 0 (x_dup (x_g0 111 113 (-2147483648) 2147483647 (x_aload 0 (x_g1 111 309 (x_iload 4 (x_iaload (x_iconst 10000 (x_fsub (x_fadd (x_p 111 113 (-2147483648) 2147483647 (x_iload 4 (x_istore 5 (K 190))))))))))))))))))))))) := ((xe_iconst 0).trans (congrArg (x_iconst 0) ((xe_istore 3).trans (congrArg (x_istore 3) ((xe_iload 3).trans (congrArg (x_iload 3) ((xe_ifCond .eq 186).trans (congrArg (x_ifCond .eq 186 K) ((xe_aload 0).trans (congrArg (x_aload 0) ((xe_dup).trans (congrArg (x_dup) ((xe_g0 (kk := 111) rfl tl_11_112).trans (congrArg (x_g0 111 112 (-2147483648) 2147483647) ((xe_iconst 1).trans (congrArg (x_iconst 1) ((xe_iadd).trans (congrArg (x_iadd) ((xe_p (kk := 111) rfl tl_11_112).trans (congrArg (x_p 111 112 (-2147483648) 2147483647) ((xe_aload 0).trans (congrArg (x_aload 0) ((xe_dup).trans (congrArg (x_dup) ((xe_g0 (kk := 111) rfl tl_11_113).trans (congrArg (x_g0 111 113 (-2147483648) 2147483647) ((xe_aload 0).trans (congrArg (x_aload 0) ((xe_g1 (kk := 111) rfl tl_11_109).trans (congrArg (x_g1 111 309) ((xe_iload 4).trans (congrArg (x_iload 4) ((xe_iaload).trans (congrArg (x_iaload) ((xe_iconst 10000).trans (congrArg (x_iconst 10000) ((xe_fsub).trans (congrArg (x_fsub) ((xe_fadd).trans (congrArg (x_fadd) ((xe_p (kk := 111) rfl tl_11_113).trans (congrArg (x_p 111 113 (-2147483648) 2147483647) ((xe_iload 4).trans (congrArg (x_iload 4) ((xe_istore 5).trans (congrArg (x_istore 5) xe_nil))))))))))))))))))))))))))))))))))))))))))))))
theorem bk_X11_matchRest_186 : ck_ fX11 none cX11_matchRest 186 [.iload 4, .istore 5] 190 = true := qck_r (nn_ _) (by decide +kernel)
theorem bs_X11_matchRest_186 {P : Zt → Option Zv → Prop} (K : Int → Zl → List Zv → Zt → Prop) : sx_ K P [.iload 4, .istore 5] 190 = x_iload 4 (x_istore 5 (K 190)) := ((xe_iload 4).trans (congrArg (x_iload 4) ((xe_istore 5).trans (congrArg (x_istore 5) xe_nil))))
theorem bk_X11_matchRest_151 : ck_ fX11 none cX11_matchRest 151 [.istore 3, .iload 3, .ifCond .eq 186, .aload 0, .dup, .tableswitch 0 11 112 #[], .iconst 1, .iadd, .tableswitch 1 11 112 #[], .aload 0, .dup, .tableswitch 0 11 113 #[], .aload 0, .tableswitch 0 11 109 #[], .iload 4, .iaload, .iconst 10000, .fsub, .fadd, .tableswitch 1 11 113 #[], .iload 4, .istore 5] 190 = true := qck_r (nn_ _) (by decide +kernel)
theorem bs_X11_matchRest_151 {P : Zt → Option Zv → Prop} (K : Int → Zl → List Zv → Zt → Prop) : sx_ K P [.istore 3, .iload 3, .ifCond .eq 186, .aload 0, .dup, .tableswitch 0 11 112 #[], .iconst 1, .iadd, .tableswitch 1 11 112 #[], .aload 0, .dup, .tableswitch 0 11 113 #[], .aload 0, .tableswitch 0 11 109 #[], .iload 4, .iaload, .iconst 10000, .fsub, .fadd, .tableswitch 1 11 113 #[], .iload 4, .istore 5] 190 = x_istore 3 (x_iload 3 (x_ifCond .eq 186 K (x_aload 0 (x_dup (x_g0 111 112 (-2147483648) 2147483647 (x_iconst 1 (x_iadd (x_p 111 112 (-2147483648) 2147483647 (x_aload 0 (x_dup (x_g0 111 113 (-2147483648) 2147483647 (x_aload 0 (x_g1 111 309 (x_iload 4 (x_iaload (x_iconst 10000 (x_fsub (x_fadd (x_p 111 113 (-2147483648) 2147483647 (x_iload 4 (x_istore 5 (K 190)))))))))))))))))))))) := ((xe_istore 3).trans (congrArg (x_istore 3) ((xe_iload 3).trans (congrArg (x_iload 3) ((xe_ifCond .eq 186).trans (congrArg (x_ifCond .eq 186 K) ((xe_aload 0).trans (congrArg (x_aload 0) ((xe_dup).trans (congrArg (x_dup) ((xe_g0 (kk := 111) rfl tl_11_112).trans (congrArg (x_g0 111 112 (-2147483648) 2147483647) ((xe_iconst 1).trans (congrArg (x_iconst 1) ((xe_iadd).trans (congrArg (x_iadd) ((xe_p (kk := 111) rfl tl_11_112).trans (congrArg (x_p 111 112 (-2147483648) 2147483647) ((xe_aload 0).trans (congrArg (x_aload 0) ((xe_dup).trans (congrArg (x_dup) ((xe_g0 (kk := 111) rfl tl_11_113).trans (congrArg (x_g0 111 113 (-2147483648) 2147483647) ((xe_aload 0).trans (congrArg (x_aload 0) ((xe_g1 (kk := 111) rfl tl_11_109).trans (congrArg (x_g1 111 309) ((xe_iload 4).trans (congrArg (x_iload 4) ((xe_iaload).trans (congrArg (x_iaload) ((xe_iconst 10000).trans (congrArg (x_iconst 10000) ((xe_fsub).trans (congrArg (x_fsub) ((xe_fadd).trans (congrArg (x_fadd) ((xe_p (kk := 111) rfl tl_11_113).trans (congrArg (x_p 111 113 (-2147483648) 2147483647) ((xe_iload 4).trans (congrArg (x_iload 4) ((xe_istore 5).trans (congrArg (x_istore 5) xe_nil))))))))))))))))))))))))))))))))))))))))))))
theorem bk_X11_matchRest_130 : ck_ fX11 none cX11_matchRest 130 [.iload 4, .istore 4, .iinc 5 1, .goto 72] 140 = true := qck_r (nn_ _) (by decide +kernel)
theorem bs_X11_matchRest_130 {P : Zt → Option Zv → Prop} (K : Int → Zl → List Zv → Zt → Prop) : sx_ K P [.iload 4, .istore 4, .iinc 5 1, .goto 72] 140 = x_iload 4 (x_istore 4 (x_iinc 5 1 (x_goto 72 K))) := ((xe_iload 4).trans (congrArg (x_iload 4) ((xe_istore 4).trans (congrArg (x_istore 4) ((xe_iinc 5 1).trans (congrArg (x_iinc 5 1) (xe_goto 72)))))))
theorem bk_X11_matchRest_125 : ck_ fX11 none cX11_matchRest 125 [.iload 5, .goto 132] 130 = true := qck_r (nn_ _) (by decide +kernel)
theorem bs_X11_matchRest_125 {P : Zt → Option Zv → Prop} (K : Int → Zl → List Zv → Zt → Prop) : sx_ K P [.iload 5, .goto 132] 130 = x_iload 5 (x_goto 132 K) := ((xe_iload 5).trans (congrArg (x_iload 5) (xe_goto 132)))
theorem bk_X11_matchRest_132 : ck_ fX11 none cX11_matchRest 132 [.istore 4, .iinc 5 1, .goto 72] 140 = true := qck_r (nn_ _) (by decide +kernel)
theorem bs_X11_matchRest_132 {P : Zt → Option Zv → Prop} (K : Int → Zl → List Zv → Zt → Prop) : sx_ K P [.istore 4, .iinc 5 1, .goto 72] 140 = x_istore 4 (x_iinc 5 1 (x_goto 72 K)) := ((xe_istore 4).trans (congrArg (x_istore 4) ((xe_iinc 5 1).trans (congrArg (x_iinc 5 1) (xe_goto 72)))))
theorem bk_X11_matchRest_56 : ck_ fX11 none cX11_matchRest 56 [.iload 3, .ifCond .eq 242, .aload 0, .iload 1, .iload 2] 63 = true := qck_r (nn_ _) (by decide +kernel)
theorem bs_X11_matchRest_56 {P : Zt → Option Zv → Prop} (K : Int → Zl → List Zv → Zt → Prop) : sx_ K P [.iload 3, .ifCond .eq 242, .aload 0, .iload 1, .iload 2] 63 = x_iload 3 (x_ifCond .eq 242 K (x_aload 0 (x_iload 1 (x_iload 2 (K 63))))) := ((xe_iload 3).trans (congrArg (x_iload 3) ((xe_ifCond .eq 242).trans (congrArg (x_ifCond .eq 242 K) ((xe_aload 0).trans (congrArg (x_aload 0) ((xe_iload 1).trans (congrArg (x_iload 1) ((xe_iload 2).trans (congrArg (x_iload 2) xe_nil))))))))))
theorem bk_X11_matchRest_242 : ck_ fX11 none cX11_matchRest 242 [.return_] 243 = true := qck_r (nn_ _) (by decide +kernel)
theorem bs_X11_matchRest_242 {P : Zt → Option Zv → Prop} (K : Int → Zl → List Zv → Zt → Prop) : sx_ K P [.return_] 243 = x_return_ P := (xe_return_)
set_option maxRecDepth 100000 in
theorem cl_X11_625 : cv_ RX11 625 yX11_findPaths zX11_findPaths 11 2 := ⟨gi_V (lwq_10 (dqc_m (dqc_m (dqa_m (dqa_m (dqa_m (List.mem_of_getElem? (i := 6) rfl)))))) rfl : Cond.methodLink RX11 625 yX11_findPaths ∈ lw_g) (lwq_10 (dqc_m (dqc_m (dqc_m (List.mem_of_getElem? (i := 0) rfl)))) rfl : Cond.instanceMethod yX11_findPaths ∈ lw_g) (lw_sel 18 rfl : Cond.selects yX11_findPaths.cls yX11_findPaths yX11_findPaths ∈ lw_g) (lwq_1 (dqa_m (List.mem_of_getElem? (i := 2) rfl)) rfl : Cond.initialized yX11_findPaths.cls ∈ lw_g) (lwq_10 (dqc_m (dqc_m (dqc_m (List.mem_of_getElem? (i := 1) rfl)))) rfl : Cond.code yX11_findPaths cX11_findPaths 8 none ∈ lw_g), ⟨nmh_1.1, nmh_1.2, pdq_0⟩, ⟨_, _, rfl⟩⟩
theorem bk_X11_matchRest_66 : ck_ fX11 none cX11_matchRest 66 [.iconst (-1), .istore 4, .iconst 0, .istore 5] 72 = true := qck_r (nn_ _) (by decide +kernel)
theorem bs_X11_matchRest_66 {P : Zt → Option Zv → Prop} (K : Int → Zl → List Zv → Zt → Prop) : sx_ K P [.iconst (-1), .istore 4, .iconst 0, .istore 5] 72 = x_iconst (-1) (x_istore 4 (x_iconst 0 (x_istore 5 (K 72)))) := ((xe_iconst (-1)).trans (congrArg (x_iconst (-1)) ((xe_istore 4).trans (congrArg (x_istore 4) ((xe_iconst 0).trans (congrArg (x_iconst 0) ((xe_istore 5).trans (congrArg (x_istore 5) xe_nil))))))))
theorem bk_X11_matchRest_33 : ck_ fX11 none cX11_matchRest 33 [.iload 3, .aload 0, .tableswitch 0 11 107 #[], .if_icmp .ge 54, .aload 0, .tableswitch 0 11 111 #[], .iload 3, .iconst (-1), .iastore, .iinc 3 1, .goto 33] 54 = true := qck_r (nn_ _) (by decide +kernel)
theorem bs_X11_matchRest_33 {P : Zt → Option Zv → Prop} (K : Int → Zl → List Zv → Zt → Prop) : sx_ K P [.iload 3, .aload 0, .tableswitch 0 11 107 #[], .if_icmp .ge 54, .aload 0, .tableswitch 0 11 111 #[], .iload 3, .iconst (-1), .iastore, .iinc 3 1, .goto 33] 54 = x_iload 3 (x_aload 0 (x_g0 111 107 0 400 (x_if_icmp .ge 54 K (x_aload 0 (x_g1 111 311 (x_iload 3 (x_iconst (-1) (x_iastore (x_iinc 3 1 (x_goto 33 K)))))))))) := ((xe_iload 3).trans (congrArg (x_iload 3) ((xe_aload 0).trans (congrArg (x_aload 0) ((xe_g0 (kk := 111) rfl tl_11_107).trans (congrArg (x_g0 111 107 0 400) ((xe_if_icmp .ge 54).trans (congrArg (x_if_icmp .ge 54 K) ((xe_aload 0).trans (congrArg (x_aload 0) ((xe_g1 (kk := 111) rfl tl_11_111).trans (congrArg (x_g1 111 311) ((xe_iload 3).trans (congrArg (x_iload 3) ((xe_iconst (-1)).trans (congrArg (x_iconst (-1)) ((xe_iastore).trans (congrArg (x_iastore) ((xe_iinc 3 1).trans (congrArg (x_iinc 3 1) (xe_goto 33)))))))))))))))))))))
theorem bk_X11_matchRest_54 : ck_ fX11 none cX11_matchRest 54 [.iconst 1, .istore 3] 56 = true := qck_r (nn_ _) (by decide +kernel)
theorem bs_X11_matchRest_54 {P : Zt → Option Zv → Prop} (K : Int → Zl → List Zv → Zt → Prop) : sx_ K P [.iconst 1, .istore 3] 56 = x_iconst 1 (x_istore 3 (K 56)) := ((xe_iconst 1).trans (congrArg (x_iconst 1) ((xe_istore 3).trans (congrArg (x_istore 3) xe_nil))))
theorem bk_X11_matchRest_12 : ck_ fX11 none cX11_matchRest 12 [.iload 3, .iconst 8, .if_icmp .ge 31, .aload 0, .tableswitch 0 11 108 #[], .iload 3, .iconst (-1), .iastore, .iinc 3 1, .goto 12] 31 = true := qck_r (nn_ _) (by decide +kernel)
theorem bs_X11_matchRest_12 {P : Zt → Option Zv → Prop} (K : Int → Zl → List Zv → Zt → Prop) : sx_ K P [.iload 3, .iconst 8, .if_icmp .ge 31, .aload 0, .tableswitch 0 11 108 #[], .iload 3, .iconst (-1), .iastore, .iinc 3 1, .goto 12] 31 = x_iload 3 (x_iconst 8 (x_if_icmp .ge 31 K (x_aload 0 (x_g1 111 308 (x_iload 3 (x_iconst (-1) (x_iastore (x_iinc 3 1 (x_goto 12 K))))))))) := ((xe_iload 3).trans (congrArg (x_iload 3) ((xe_iconst 8).trans (congrArg (x_iconst 8) ((xe_if_icmp .ge 31).trans (congrArg (x_if_icmp .ge 31 K) ((xe_aload 0).trans (congrArg (x_aload 0) ((xe_g1 (kk := 111) rfl tl_11_108).trans (congrArg (x_g1 111 308) ((xe_iload 3).trans (congrArg (x_iload 3) ((xe_iconst (-1)).trans (congrArg (x_iconst (-1)) ((xe_iastore).trans (congrArg (x_iastore) ((xe_iinc 3 1).trans (congrArg (x_iinc 3 1) (xe_goto 12)))))))))))))))))))
theorem bk_X11_matchRest_31 : ck_ fX11 none cX11_matchRest 31 [.iload 1, .istore 3] 33 = true := qck_r (nn_ _) (by decide +kernel)
theorem bs_X11_matchRest_31 {P : Zt → Option Zv → Prop} (K : Int → Zl → List Zv → Zt → Prop) : sx_ K P [.iload 1, .istore 3] 33 = x_iload 1 (x_istore 3 (K 33)) := ((xe_iload 1).trans (congrArg (x_iload 1) ((xe_istore 3).trans (congrArg (x_istore 3) xe_nil))))
theorem bk_X11_matchRest_0 : ck_ fX11 none cX11_matchRest 0 [.aload 0, .iconst 0, .tableswitch 1 11 112 #[], .aload 0, .iconst 0, .tableswitch 1 11 113 #[], .iconst 0, .istore 3] 12 = true := qck_r (nn_ _) (by decide +kernel)
theorem bs_X11_matchRest_0 {P : Zt → Option Zv → Prop} (K : Int → Zl → List Zv → Zt → Prop) : sx_ K P [.aload 0, .iconst 0, .tableswitch 1 11 112 #[], .aload 0, .iconst 0, .tableswitch 1 11 113 #[], .iconst 0, .istore 3] 12 = x_aload 0 (x_iconst 0 (x_p 111 112 (-2147483648) 2147483647 (x_aload 0 (x_iconst 0 (x_p 111 113 (-2147483648) 2147483647 (x_iconst 0 (x_istore 3 (K 12)))))))) := ((xe_aload 0).trans (congrArg (x_aload 0) ((xe_iconst 0).trans (congrArg (x_iconst 0) ((xe_p (kk := 111) rfl tl_11_112).trans (congrArg (x_p 111 112 (-2147483648) 2147483647) ((xe_aload 0).trans (congrArg (x_aload 0) ((xe_iconst 0).trans (congrArg (x_iconst 0) ((xe_p (kk := 111) rfl tl_11_113).trans (congrArg (x_p 111 113 (-2147483648) 2147483647) ((xe_iconst 0).trans (congrArg (x_iconst 0) ((xe_istore 3).trans (congrArg (x_istore 3) xe_nil))))))))))))))))
abbrev po_X11_matchRest (T : Zt) (f tk : Int) : Zt → Option Zv → Prop := fun T' r => r = none ∧ fr_ [(308, []), (311, []), (309, []), (310, []), (111, [112, 113])] T T' ∧ (0 ≤ T' 111 0 112 ∧ T' 111 0 112 ≤ 8)
set_option maxHeartbeats 4000000 in
theorem ct_X11_matchRest {T : Zt} {f tk : Int} (h1 : 0 ≤ f) : Ct_ yX11_matchRest zX11_matchRest T [vR 111 0, vI f, vI tk] (po_X11_matchRest T f tk) := by
  refine ct_of pn_11 rfl rfl (Nat.le_of_ble_eq_true rfl) (fun hT hav => ?_)
  have hr_f : -2147483648 ≤ f ∧ f ≤ 2147483647 := hav (vI f) (List.mem_cons_of_mem _ List.mem_cons_self)
  have hr_tk : -2147483648 ≤ tk ∧ tk ≤ 2147483647 := hav (vI tk) (List.mem_cons_of_mem _ (List.mem_cons_of_mem _ List.mem_cons_self))
  have hz : zX11_matchRest.2.2.2.1 = some .boolean → ∀ (T' : Zt) (x : Int), po_X11_matchRest T f tk T' (some (vI x)) → 0 ≤ x ∧ x ≤ 1 := fun h => by cases h
  have hb_21 : 0 ≤ T 111 0 21 ∧ T 111 0 21 ≤ 8 := bd_f hT 111 21 tl_11_21 0
  have hb_107 : 0 ≤ T 111 0 107 ∧ T 111 0 107 ≤ 400 := bd_f hT 111 107 tl_11_107 0
  have hdd : ∀ i o, 0 ≤ i → i < 400 → 0 ≤ o → o < 8 → 0 ≤ di_ T (T 306 0 i) o ∧ di_ T (T 306 0 i) o ≤ 11 := by
    intro i o a b c d
    have u1 : 0 ≤ T 306 0 i ∧ T 306 0 i ≤ 399 := bd_a hT 306 (by decide +kernel : ta_ 306 = some (1, some 400, 0, 399)) 0 (by omega)
    have u2 : 0 ≤ T 232 0 (T 306 0 i) ∧ T 232 0 (T 306 0 i) ≤ 11 := bd_a hT 232 (by decide +kernel : ta_ 232 = some (1, some 400, 0, 11)) 0 (by omega)
    have u3 : 0 ≤ T 213 0 (T 232 0 (T 306 0 i)) ∧ T 213 0 (T 232 0 (T 306 0 i)) ≤ 11 := bd_a hT 213 (by decide +kernel : ta_ 213 = some (1, some 12, 0, 11)) 0 (by omega)
    have u4 : 0 ≤ T 222 0 o ∧ T 222 0 o ≤ 11 := bd_a hT 222 (by decide +kernel : ta_ 222 = some (1, some 8, 0, 11)) 0 (by omega)
    unfold di_
    split <;> omega
  show J_ zX11_matchRest T (po_X11_matchRest T f tk) 0 0 0 [some (vR 111 0), some (vI f), some (vI tk), none, none, none, none, none] [] T
  have c_56 : ∀ (nn : Nat) (mr : Int) (pi : Int → Int) (T3 : Zt), (fm9_ mr (nh_ (hld_ T3))) ≤ nn → (fr_ [(308, []), (311, []), (309, []), (310, []), (111, [112, 113])] T T3) → (mr = 0 ∨ mr = 1) → (po_ (ofs_ T tk f) (gh_ T3) pi) → (∀ k, 0 ≤ k → k < 8 → -1 ≤ hld_ T3 k) → (0 ≤ T3 111 0 112 ∧ T3 111 0 112 + nh_ (hld_ T3) ≤ 8) → J_ zX11_matchRest T (po_X11_matchRest T f tk) 0 0 56 [some (vR 111 0), some (vI f), some (vI tk), some (vI mr), none, none, none, none] [] T3 := by
    intro nn
    induction nn using Nat.strongRecOn with
    | _ nn ih_56 =>
      intro mr pi T3 hm_56 hf_56 i3 P3 hh3 fm3
      replace hm_56 := fun (_ : Unit) => hm_56
      have hnn := nh_n (hld_ T3)
      have c_72 : ∀ (nn : Nat) (en : Int) (o : Int) (st : Int → Nat) (T4 : Zt), ((8 - o).toNat) ≤ nn → (fr_ [(309, []), (310, [])] T3 T4) → (mr ≠ 0) → (fx_ (ofs_ T tk f) (gh_ T3) pi (far_ T4) (cby_ T4) st) → (en = -1 ∨ (0 ≤ en ∧ en < T 111 0 21 ∧ 0 ≤ T4 309 0 en ∧ T3 308 0 en = -1)) → (0 ≤ o ∧ o ≤ 8) → J_ zX11_matchRest T (po_X11_matchRest T f tk) 0 0 72 [some (vR 111 0), some (vI f), some (vI tk), some (vI mr), some (vI en), some (vI o), none, none] [] T4 := by
        intro nn
        induction nn using Nat.strongRecOn with
        | _ nn ih_72 =>
          intro en o st T4 hm_72 hf_72 mr1 X4 he i4
          replace hm_72 := fun (_ : Unit) => hm_72
          have c_190 : ∀ (nn : Nat) (mr5 : Int) (o5 : Int) (D : Int) (T5 : Zt), (sm9_ st o5) ≤ nn → (fr_ [(308, []), (311, []), (111, [112, 113])] T4 T5) → (((mr5 = 0 ∧ en = -1) ∨ (mr5 = 1 ∧ en ≠ -1)) ∧ 0 ≤ D ∧ 0 ≤ T5 111 0 112 ∧ T5 111 0 112 ≤ T3 111 0 112 + mr5) → (wy_ (ofs_ T tk f) (gh_ T3) (gh_ T5) pi (far_ T4) st D o5) → (∀ k, 0 ≤ k → k < 8 → -1 ≤ hld_ T5 k ∧ (hld_ T3 k ≠ -1 → hld_ T5 k ≠ -1)) → (en ≠ -1 → o5 = en ∨ T5 308 0 en ≠ -1) → J_ zX11_matchRest T (po_X11_matchRest T f tk) 0 0 190 [some (vR 111 0), some (vI f), some (vI tk), some (vI mr5), some (vI en), some (vI o5), none, none] [] T5 := by
            intro nn
            induction nn using Nat.strongRecOn with
            | _ nn ih_190 =>
              intro mr5 o5 D T5 hm_190 hf_190 i5 W5 h5 e5
              refine j_blx (F := fX11) tb_X11 (nn_ _) bk_X11_matchRest_190 bs_X11_matchRest_190 hz (fun K hK => ?_)
              refine And.intro (fun c1 => ?_) (fun c1 => ?_)
              · have hnl : en ≠ -1 → nh_ (hld_ T5) < nh_ (hld_ T3) := fun z => by
                  have e9 := e5 z
                  exact nh_l (f := hld_ T3) (g := hld_ T5) (o := en) (by omega) h5 (fun k a b => hh3 k a b) (by show T3 308 0 en = -1; omega) (by show T5 308 0 en ≠ -1; omega)
                have hnm := nh_m (f := hld_ T3) (g := hld_ T5) h5 (fun k a b => hh3 k a b)
                refine hK 239 _ [] T5 ?_
                refine j_blx (F := fX11) tb_X11 (nn_ _) bk_X11_matchRest_239 bs_X11_matchRest_239 hz (fun K hK => ?_)
                refine hK 56 _ [] T5 ?_
                refine j_drq [some (vR 111 0), some (vI f), some (vI tk), some (vI mr5), none, none, none, none] (drq_s (drq_s (drq_s (drq_s (drq_n (drq_n (drq_n (drq_n drq_0)))))))) ?_
                refine ih_56 _ ?_ mr5 (pn_ pi (far_ T4) D) T5 (Nat.le_refl _) ?_ ?_ ?_ ?_ ?_
                · have hm_56 := hm_56 (); exact Nat.lt_of_lt_of_le (fm9_l (by omega) (nh_n _) (nh_n _) (by by_cases z : en = -1; exact Or.inl (by omega); exact Or.inr (hnl z))) hm_56
                · exact fr_t (fr_t (fr_t (fr_0 _ _) (fr_s hf_56 rfl)) (fr_s hf_72 rfl)) (fr_s hf_190 rfl)
                · omega
                · exact wy_e (of_9 (fun i o a b c d => hdd i o (by omega) (by omega) (by omega) (by omega))) X4 (by omega) (by rw [show (-1 : Int) = o5 by omega]; exact W5)
                · exact fun k a b => (h5 k a b).1
                · rcases i5.1 with z | z
                  · omega
                  · have z9 := hnl z.2
                    omega
              · obtain ⟨w1, w2, w3, w4⟩ := wy_s (of_9 (fun i o a b c d => hdd i o (by omega) (by omega) (by omega) (by omega))) X4 W5 (by omega)
                have ho5 := W5.1.resolve_left (by omega)
                have ho51 : 0 ≤ o5 ∧ o5 < T 111 0 21 := ho5.1
                refine ix_i (by omega) ?_
                intro b2 b2b
                have e3 : T5 310 0 o5 = T4 310 0 o5 := hf_190 310 0 o5 rfl
                rw [e3] at b2 b2b ⊢
                refine ix_i (by omega) ?_
                intro b4 b4b
                refine iy_i (by omega) (by omega) ?_
                refine x_nm (fun U5 hU5 => ?_)
                have e6 := up_f hU5
                refine iy_i (by omega) (by omega) ?_
                refine x_nm (fun U7 hU7 => ?_)
                have e8 := up_f hU7
                have egh : gh_ U7 = fu_ (gh_ T5) (cby_ T4 o5) o5 := funext (fun k => by
                  show U7 311 0 k = _
                  rw [up_k hU7 (by exact Nat.ne_of_beq_eq_false rfl)]
                  by_cases z : k = T4 310 0 o5
                  · rw [z, up_f hU5]; exact (fu_s _ _ _).symm
                  · rw [up_g hU5 (fun q => z q.2.2)]; exact (fu_n (show k ≠ cby_ T4 o5 from z)).symm)
                refine hK 190 [some (vR 111 0), some (vI f), some (vI tk), some (vI mr5), some (vI en), some (vI (T5 311 0 (T4 310 0 o5))), some (vI (T4 310 0 o5)), some (vI (T5 311 0 (T4 310 0 o5)))] [] U7 ?_
                refine j_drq [some (vR 111 0), some (vI f), some (vI tk), some (vI mr5), some (vI en), some (vI (T5 311 0 (T4 310 0 o5))), none, none] (drq_s (drq_s (drq_s (drq_s (drq_s (drq_s (drq_n (drq_n drq_0)))))))) ?_
                have e9 : U7 111 0 112 = T5 111 0 112 := (up_k hU7 (by exact Nat.ne_of_beq_eq_false rfl) 0 112).trans (up_k hU5 (by exact Nat.ne_of_beq_eq_false rfl) 0 112)
                refine ih_190 _ ?_ mr5 (T5 311 0 (T4 310 0 o5)) D U7 (Nat.le_refl _) ?_ ?_ ?_ ?_ ?_
                · have w9 : T5 311 0 (T4 310 0 o5) = -1 ∨ st (T5 311 0 (T4 310 0 o5)) < st o5 := w4
                  unfold sm9_ at hm_190 ⊢
                  rw [if_neg (by omega)] at hm_190
                  split <;> omega
                · exact fr_u (fr_u (fr_t (fr_0 _ _) (fr_s hf_190 rfl)) hU5 rfl) hU7 rfl
                · first
                  | omega
                  | (have x9 : pi en ≤ T4 309 0 en := fx_p X4 (o := en) (show 0 ≤ en ∧ en < T 111 0 21 by omega) (show 0 ≤ T4 309 0 en by omega); omega)
                · rw [egh]; exact w3
                · intro k a b
                  have h9 := h5 k a b
                  show -1 ≤ U7 308 0 k ∧ (T3 308 0 k ≠ -1 → U7 308 0 k ≠ -1)
                  by_cases z : k = o5
                  · rw [z, up_f hU7]; omega
                  · rw [up_g hU7 (fun q => z q.2.2), up_k hU5 (by exact Nat.ne_of_beq_eq_false rfl)]; exact h9
                · intro z
                  right
                  by_cases y : en = o5
                  · rw [y, up_f hU7]; omega
                  · rw [up_g hU7 (fun q => y q.2.2), up_k hU5 (by exact Nat.ne_of_beq_eq_false rfl)]
                    rcases e5 z with x | x
                    · omega
                    · exact x
          refine j_blx (F := fX11) tb_X11 (nn_ _) bk_X11_matchRest_72 bs_X11_matchRest_72 hz (fun K hK => ?_)
          intro b10 b10b
          have e11 : T4 111 0 21 = T 111 0 21 := (hf_72 111 0 21 rfl).trans (hf_56 111 0 21 rfl)
          rw [e11] at b10 b10b ⊢
          refine And.intro (fun c12 => ?_) (fun c12 => ?_)
          · refine hK 140 _ [] T4 ?_
            refine j_blx (F := fX11) tb_X11 (nn_ _) bk_X11_matchRest_140 bs_X11_matchRest_140 hz (fun K hK => ?_)
            refine And.intro (fun c13 => ?_) (fun c13 => ?_)
            · refine hK 150 _ [] T4 ?_
              refine j_blx (F := fX11) tb_X11 (nn_ _) bk_X11_matchRest_150 bs_X11_matchRest_150 hz (fun K hK => ?_)
              refine And.intro (fun c14 => ?_) (fun c14 => ?_)
              · refine hK 186 [some (vR 111 0), some (vI f), some (vI tk), some (vI 0), some (vI en), some (vI o), none, none] [] T4 ?_
                refine j_blx (F := fX11) tb_X11 (nn_ _) bk_X11_matchRest_186 bs_X11_matchRest_186 hz (fun K hK => ?_)
                refine hK 190 [some (vR 111 0), some (vI f), some (vI tk), some (vI 0), some (vI en), some (vI en), none, none] [] T4 ?_
                have e15 : T4 111 0 112 = T3 111 0 112 := hf_72 111 0 112 rfl
                refine c_190 _ 0 en 0 T4 (Nat.le_refl _) ?_ ?_ ?_ ?_ ?_
                · exact fr_0 _ _
                · first
                  | omega
                  | (have x9 : pi en ≤ T4 309 0 en := fx_p X4 (o := en) (show 0 ≤ en ∧ en < T 111 0 21 by omega) (show 0 ≤ T4 309 0 en by omega); omega)
                · exact ⟨by first | exact Or.inl (by omega) | exact Or.inr ⟨(show 0 ≤ en ∧ en < T 111 0 21 by omega), by show 0 ≤ T4 309 0 en; omega, by show T4 309 0 en ≤ pi en + (T4 309 0 en - pi en); omega⟩, fun i _ _ => Or.inl ((rfl).trans (hf_72 311 0 i rfl))⟩
                · intro k a b
                  have e9 : T4 308 0 k = T3 308 0 k := (rfl).trans (hf_72 308 0 k rfl)
                  have h8 : -1 ≤ T3 308 0 k := hh3 k a b
                  show -1 ≤ T4 308 0 k ∧ (T3 308 0 k ≠ -1 → T4 308 0 k ≠ -1)
                  omega
                · intro _; exact Or.inl rfl
              · exact absurd c14 (by decide)
            · refine hK 151 _ [vI 1] T4 ?_
              refine j_blx (F := fX11) tb_X11 (nn_ _) bk_X11_matchRest_151 bs_X11_matchRest_151 hz (fun K hK => ?_)
              refine And.intro (fun c16 => ?_) (fun c16 => ?_)
              · exact absurd c16 (by decide)
              · intro b17 b17b
                have e18 : T4 111 0 112 = T3 111 0 112 := hf_72 111 0 112 rfl
                rw [e18] at b17 b17b ⊢
                refine rg_i (by omega) ?_
                refine bd_i (by omega) ?_
                refine x_nm (fun U19 hU19 => ?_)
                have e20 := up_f hU19
                intro b21 b21b
                have e22 : U19 111 0 113 = T3 111 0 113 := (up_j hU19 (by exact ni_ rfl) 111 0).trans (hf_72 111 0 113 rfl)
                rw [e22] at b21 b21b ⊢
                refine ix_i (by omega) ?_
                intro b23 b23b
                have e24 : U19 309 0 en = T4 309 0 en := up_k hU19 (by exact Nat.ne_of_beq_eq_false rfl) 0 en
                rw [e24] at b23 b23b ⊢
                intro w25 w25b
                intro w26 w26b
                refine bd_i (by omega) ?_
                refine x_nm (fun U27 hU27 => ?_)
                have e28 := up_f hU27
                refine hK 190 [some (vR 111 0), some (vI f), some (vI tk), some (vI 1), some (vI en), some (vI en), none, none] [] U27 ?_
                have e29 : U27 111 0 112 = (T3 111 0 112) + 1 := (up_j hU27 (by exact ni_ rfl) 111 0).trans (up_f hU19)
                refine c_190 _ 1 en (T4 309 0 en - pi en) U27 (Nat.le_refl _) ?_ ?_ ?_ ?_ ?_
                · exact fr_u (fr_u (fr_0 _ _) hU19 rfl) hU27 rfl
                · first
                  | omega
                  | (have x9 : pi en ≤ T4 309 0 en := fx_p X4 (o := en) (show 0 ≤ en ∧ en < T 111 0 21 by omega) (show 0 ≤ T4 309 0 en by omega); omega)
                · exact ⟨by first | exact Or.inl (by omega) | exact Or.inr ⟨(show 0 ≤ en ∧ en < T 111 0 21 by omega), by show 0 ≤ T4 309 0 en; omega, by show T4 309 0 en ≤ pi en + (T4 309 0 en - pi en); omega⟩, fun i _ _ => Or.inl (((up_k hU27 (by exact Nat.ne_of_beq_eq_false rfl) 0 i).trans (up_k hU19 (by exact Nat.ne_of_beq_eq_false rfl) 0 i)).trans (hf_72 311 0 i rfl))⟩
                · intro k a b
                  have e9 : U27 308 0 k = T3 308 0 k := ((up_k hU27 (by exact Nat.ne_of_beq_eq_false rfl) 0 k).trans (up_k hU19 (by exact Nat.ne_of_beq_eq_false rfl) 0 k)).trans (hf_72 308 0 k rfl)
                  have h8 : -1 ≤ T3 308 0 k := hh3 k a b
                  show -1 ≤ U27 308 0 k ∧ (T3 308 0 k ≠ -1 → U27 308 0 k ≠ -1)
                  omega
                · intro _; exact Or.inl rfl
          · refine ix_i (by omega) ?_
            intro b30 b30b
            refine And.intro (fun c31 => ?_) (fun c31 => ?_)
            · refine hK 130 _ [] T4 ?_
              refine j_blx (F := fX11) tb_X11 (nn_ _) bk_X11_matchRest_130 bs_X11_matchRest_130 hz (fun K hK => ?_)
              refine rg_i (by omega) ?_
              refine hK 72 [some (vR 111 0), some (vI f), some (vI tk), some (vI mr), some (vI en), some (vI (o + 1)), none, none] [] T4 ?_
              refine ih_72 _ ?_ en (o + 1) st T4 (Nat.le_refl _) ?_ ?_ ?_ ?_ ?_
              · have hm_72 := hm_72 (); omega
              · exact fr_t (fr_0 _ _) (fr_s hf_72 rfl)
              · omega
              · exact X4
              · first
                | exact he
                | omega
              · omega
            · refine ix_i (by omega) ?_
              intro b32 b32b
              have e33 : T4 308 0 o = T3 308 0 o := hf_72 308 0 o rfl
              rw [e33] at b32 b32b ⊢
              refine And.intro (fun c34 => ?_) (fun c34 => ?_)
              · refine hK 130 [some (vR 111 0), some (vI f), some (vI tk), some (vI mr), some (vI en), some (vI o), none, none] [] T4 ?_
                refine j_blx (F := fX11) tb_X11 (nn_ _) bk_X11_matchRest_130 bs_X11_matchRest_130 hz (fun K hK => ?_)
                refine rg_i (by omega) ?_
                refine hK 72 [some (vR 111 0), some (vI f), some (vI tk), some (vI mr), some (vI en), some (vI (o + 1)), none, none] [] T4 ?_
                refine ih_72 _ ?_ en (o + 1) st T4 (Nat.le_refl _) ?_ ?_ ?_ ?_ ?_
                · have hm_72 := hm_72 (); omega
                · exact fr_t (fr_0 _ _) (fr_s hf_72 rfl)
                · omega
                · exact X4
                · first
                  | exact he
                  | omega
                · omega
              · refine And.intro (fun c35 => ?_) (fun c35 => ?_)
                · refine hK 125 [some (vR 111 0), some (vI f), some (vI tk), some (vI mr), some (vI en), some (vI o), none, none] [] T4 ?_
                  refine j_blx (F := fX11) tb_X11 (nn_ _) bk_X11_matchRest_125 bs_X11_matchRest_125 hz (fun K hK => ?_)
                  refine hK 132 _ [vI o] T4 ?_
                  refine j_blx (F := fX11) tb_X11 (nn_ _) bk_X11_matchRest_132 bs_X11_matchRest_132 hz (fun K hK => ?_)
                  refine rg_i (by omega) ?_
                  refine hK 72 [some (vR 111 0), some (vI f), some (vI tk), some (vI mr), some (vI o), some (vI (o + 1)), none, none] [] T4 ?_
                  refine ih_72 _ ?_ o (o + 1) st T4 (Nat.le_refl _) ?_ ?_ ?_ ?_ ?_
                  · have hm_72 := hm_72 (); omega
                  · exact fr_t (fr_0 _ _) (fr_s hf_72 rfl)
                  · omega
                  · exact X4
                  · first
                    | exact he
                    | omega
                  · omega
                · refine ix_i (by omega) ?_
                  intro b36 b36b
                  refine ix_i (by omega) ?_
                  intro b37 b37b
                  refine And.intro (fun c38 => ?_) (fun c38 => ?_)
                  · refine hK 130 [some (vR 111 0), some (vI f), some (vI tk), some (vI mr), some (vI en), some (vI o), none, none] [] T4 ?_
                    refine j_blx (F := fX11) tb_X11 (nn_ _) bk_X11_matchRest_130 bs_X11_matchRest_130 hz (fun K hK => ?_)
                    refine rg_i (by omega) ?_
                    refine hK 72 [some (vR 111 0), some (vI f), some (vI tk), some (vI mr), some (vI en), some (vI (o + 1)), none, none] [] T4 ?_
                    refine ih_72 _ ?_ en (o + 1) st T4 (Nat.le_refl _) ?_ ?_ ?_ ?_ ?_
                    · have hm_72 := hm_72 (); omega
                    · exact fr_t (fr_0 _ _) (fr_s hf_72 rfl)
                    · omega
                    · exact X4
                    · first
                      | exact he
                      | omega
                    · omega
                  · refine hK 132 [some (vR 111 0), some (vI f), some (vI tk), some (vI mr), some (vI en), some (vI o), none, none] [vI o] T4 ?_
                    refine j_blx (F := fX11) tb_X11 (nn_ _) bk_X11_matchRest_132 bs_X11_matchRest_132 hz (fun K hK => ?_)
                    refine rg_i (by omega) ?_
                    refine hK 72 [some (vR 111 0), some (vI f), some (vI tk), some (vI mr), some (vI o), some (vI (o + 1)), none, none] [] T4 ?_
                    refine ih_72 _ ?_ o (o + 1) st T4 (Nat.le_refl _) ?_ ?_ ?_ ?_ ?_
                    · have hm_72 := hm_72 (); omega
                    · exact fr_t (fr_0 _ _) (fr_s hf_72 rfl)
                    · omega
                    · exact X4
                    · first
                      | exact he
                      | omega
                    · omega
      refine j_blx (F := fX11) tb_X11 (nn_ _) bk_X11_matchRest_56 bs_X11_matchRest_56 hz (fun K hK => ?_)
      refine And.intro (fun c39 => ?_) (fun c39 => ?_)
      · refine hK 242 _ [] T3 ?_
        refine j_blx (F := fX11) tb_X11 (nn_ _) bk_X11_matchRest_242 bs_X11_matchRest_242 hz (fun K hK => ?_)
        refine (show po_X11_matchRest T f tk T3 (none) from ?_)
        exact ⟨rfl, fr_t (fr_0 _ _) (fr_s hf_56 rfl), by omega⟩
      · have ofe3 : ofs_ T3 tk f = ofs_ T tk f := ofs_e (fun j => hf_56 222 0 j rfl) (fun j => hf_56 213 0 j rfl) (fun j => hf_56 232 0 j rfl) (fun j => hf_56 233 0 j rfl) (fun j => hf_56 223 0 j rfl) (fun j => hf_56 214 0 j rfl) (fun j => hf_56 306 0 j rfl) (hf_56 111 0 21 rfl) (hf_56 111 0 107 rfl)
        refine hK 63 _ [vI tk, vI f, vR 111 0] T3 ?_
        refine j_callV (y := yX11_findPaths) (Yc := zX11_findPaths) (rest := []) [vI f, vI tk] (ct_X11_findPaths (T := T3) (pi := pi) (by omega) (by rw [ofe3]; exact P3)) cl_X11_625 (qd_c (by decide +kernel)) (nn_ _) rfl (rf_of rfl) (Nat.le_of_ble_eq_true rfl) (Nat.le_of_ble_eq_true rfl) (Nat.le_of_ble_eq_true rfl) rfl ?_
        rintro U40 _ ⟨rfl, fU40, st0, X0⟩
        rw [ofe3] at X0
        show J_ zX11_matchRest T (po_X11_matchRest T f tk) 0 0 66 _ [] U40
        refine j_blx (F := fX11) tb_X11 (nn_ _) bk_X11_matchRest_66 bs_X11_matchRest_66 hz (fun K hK => ?_)
        refine hK 72 [some (vR 111 0), some (vI f), some (vI tk), some (vI mr), some (vI (-1)), some (vI 0), none, none] [] U40 ?_
        refine c_72 _ (-1) 0 st0 U40 (Nat.le_refl _) ?_ ?_ ?_ ?_ ?_
        · exact fr_t (fr_0 _ _) (fr_s fU40 rfl)
        · omega
        · exact X0
        · first
          | exact he
          | omega
        · omega
  have c_33 : ∀ (nn : Nat) (i : Int) (T1 : Zt), ((400 - i).toNat) ≤ nn → (fr_ [(308, []), (311, []), (111, [112, 113])] T T1) → (f ≤ i ∧ T1 111 0 112 = 0) → (∀ k, 0 ≤ k → k < 8 → -1 ≤ hld_ T1 k) → (∀ j, f ≤ j → j < i → T1 311 0 j = -1) → J_ zX11_matchRest T (po_X11_matchRest T f tk) 0 0 33 [some (vR 111 0), some (vI f), some (vI tk), some (vI i), none, none, none, none] [] T1 := by
    intro nn
    induction nn using Nat.strongRecOn with
    | _ nn ih_33 =>
      intro i T1 hm_33 hf_33 i1 hd1 z1
      replace hm_33 := fun (_ : Unit) => hm_33
      refine j_blx (F := fX11) tb_X11 (nn_ _) bk_X11_matchRest_33 bs_X11_matchRest_33 hz (fun K hK => ?_)
      intro b41 b41b
      have e42 : T1 111 0 107 = T 111 0 107 := hf_33 111 0 107 rfl
      rw [e42] at b41 b41b ⊢
      refine And.intro (fun c43 => ?_) (fun c43 => ?_)
      · refine hK 54 _ [] T1 ?_
        refine j_blx (F := fX11) tb_X11 (nn_ _) bk_X11_matchRest_54 bs_X11_matchRest_54 hz (fun K hK => ?_)
        refine hK 56 [some (vR 111 0), some (vI f), some (vI tk), some (vI 1), none, none, none, none] [] T1 ?_
        refine c_56 _ 1 (fun _ => 10000) T1 (Nat.le_refl _) ?_ ?_ ?_ ?_ ?_
        · exact fr_t (fr_0 _ _) (fr_s hf_33 rfl)
        · omega
        · exact po_0 (of_9 (fun i o a b c d => hdd i o (by omega) (by omega) (by omega) (by omega))) (show 0 ≤ T 111 0 21 by omega) (fun i a b => z1 i a (by have : i < T 111 0 107 := b; omega))
        · exact hd1
        · have r9 := nh_8 (hld_ T1)
          omega
      · refine iy_i (by omega) (by omega) ?_
        refine x_nm (fun U44 hU44 => ?_)
        have e45 := up_f hU44
        refine rg_i (by omega) ?_
        refine hK 33 [some (vR 111 0), some (vI f), some (vI tk), some (vI (i + 1)), none, none, none, none] [] U44 ?_
        have e46 : U44 111 0 112 = T1 111 0 112 := up_k hU44 (by exact Nat.ne_of_beq_eq_false rfl) 0 112
        refine ih_33 _ ?_ (i + 1) U44 (Nat.le_refl _) ?_ ?_ ?_ ?_
        · have hm_33 := hm_33 (); omega
        · exact fr_u (fr_t (fr_0 _ _) (fr_s hf_33 rfl)) hU44 rfl
        · omega
        · intro k a b
          show -1 ≤ U44 308 0 k
          rw [up_k hU44 (by exact Nat.ne_of_beq_eq_false rfl)]
          exact hd1 k a b
        · intro j a b
          by_cases z : j = i
          · rw [z]; exact up_f hU44
          · rw [up_g hU44 (fun q => z q.2.2)]; exact z1 j a (by omega)
  have c_12 : ∀ (nn : Nat) (o : Int) (T0 : Zt), ((8 - o).toNat) ≤ nn → (fr_ [(308, []), (111, [112, 113])] T T0) → (0 ≤ o ∧ T0 111 0 112 = 0) → (∀ j, 0 ≤ j → j < o → T0 308 0 j = -1) → J_ zX11_matchRest T (po_X11_matchRest T f tk) 0 0 12 [some (vR 111 0), some (vI f), some (vI tk), some (vI o), none, none, none, none] [] T0 := by
    intro nn
    induction nn using Nat.strongRecOn with
    | _ nn ih_12 =>
      intro o T0 hm_12 hf_12 i0 zh
      replace hm_12 := fun (_ : Unit) => hm_12
      refine j_blx (F := fX11) tb_X11 (nn_ _) bk_X11_matchRest_12 bs_X11_matchRest_12 hz (fun K hK => ?_)
      refine And.intro (fun c47 => ?_) (fun c47 => ?_)
      · refine hK 31 _ [] T0 ?_
        refine j_blx (F := fX11) tb_X11 (nn_ _) bk_X11_matchRest_31 bs_X11_matchRest_31 hz (fun K hK => ?_)
        refine hK 33 [some (vR 111 0), some (vI f), some (vI tk), some (vI f), none, none, none, none] [] T0 ?_
        refine c_33 _ f T0 (Nat.le_refl _) ?_ ?_ ?_ ?_
        · exact fr_t (fr_0 _ _) (fr_s hf_12 rfl)
        · omega
        · intro k a b
          show -1 ≤ T0 308 0 k
          rw [zh k a (by omega)]
          decide
        · intro j a b; omega
      · refine iy_i (by omega) (by omega) ?_
        refine x_nm (fun U48 hU48 => ?_)
        have e49 := up_f hU48
        refine rg_i (by omega) ?_
        refine hK 12 [some (vR 111 0), some (vI f), some (vI tk), some (vI (o + 1)), none, none, none, none] [] U48 ?_
        have e50 : U48 111 0 112 = T0 111 0 112 := up_k hU48 (by exact Nat.ne_of_beq_eq_false rfl) 0 112
        refine ih_12 _ ?_ (o + 1) U48 (Nat.le_refl _) ?_ ?_ ?_
        · have hm_12 := hm_12 (); omega
        · exact fr_u (fr_t (fr_0 _ _) (fr_s hf_12 rfl)) hU48 rfl
        · omega
        · intro j a b
          by_cases z : j = o
          · rw [z]; exact up_f hU48
          · rw [up_g hU48 (fun q => z q.2.2)]; exact zh j a (by omega)
  refine j_blx (F := fX11) tb_X11 (nn_ _) bk_X11_matchRest_0 bs_X11_matchRest_0 hz (fun K hK => ?_)
  refine bd_i (by omega) ?_
  refine x_nm (fun U51 hU51 => ?_)
  have e52 := up_f hU51
  refine bd_i (by omega) ?_
  refine x_nm (fun U53 hU53 => ?_)
  have e54 := up_f hU53
  refine hK 12 [some (vR 111 0), some (vI f), some (vI tk), some (vI 0), none, none, none, none] [] U53 ?_
  have e55 : U53 111 0 112 = 0 := (up_j hU53 (by exact ni_ rfl) 111 0).trans (up_f hU51)
  refine c_12 _ 0 U53 (Nat.le_refl _) ?_ ?_ ?_
  · exact fr_u (fr_u (fr_0 _ _) hU51 rfl) hU53 rfl
  · omega
  · intro j a b; omega
abbrev cX11_assign : ByteArray := prog_13_method_127_code
def yX11_assign : MethodName := ⟨RX11, "assign", "(I)I"⟩
def zX11_assign : Zm := (RX11, cX11_assign, 9, (some .int), { frames := 3, cells := 0, slots := 0, locals := 78 })
theorem bk_X11_assign_116 : ck_ fX11 (some .int) cX11_assign 116 [.iload 8, .aload 0, .tableswitch 0 11 21 #[], .if_icmp .ge 219, .iload 7, .iconst (-1), .if_icmp .ne 219, .iload 5, .iload 8, .ishr, .iconst 1, .iand, .ifCond .ne 213, .aload 0, .aload 0, .tableswitch 0 11 106 #[], .iload 6, .iaload, .iload 8] 151 = true := qck_r (nn_ _) (by decide +kernel)
theorem bs_X11_assign_116 {P : Zt → Option Zv → Prop} (K : Int → Zl → List Zv → Zt → Prop) : sx_ K P [.iload 8, .aload 0, .tableswitch 0 11 21 #[], .if_icmp .ge 219, .iload 7, .iconst (-1), .if_icmp .ne 219, .iload 5, .iload 8, .ishr, .iconst 1, .iand, .ifCond .ne 213, .aload 0, .aload 0, .tableswitch 0 11 106 #[], .iload 6, .iaload, .iload 8] 151 = x_iload 8 (x_aload 0 (x_g0 111 21 0 8 (x_if_icmp .ge 219 K (x_iload 7 (x_iconst (-1) (x_if_icmp .ne 219 K (x_iload 5 (x_iload 8 (x_ishr (x_iconst 1 (x_iand (x_ifCond .ne 213 K (x_aload 0 (x_aload 0 (x_g1 111 306 (x_iload 6 (x_iaload (x_iload 8 (K 151))))))))))))))))))) := ((xe_iload 8).trans (congrArg (x_iload 8) ((xe_aload 0).trans (congrArg (x_aload 0) ((xe_g0 (kk := 111) rfl tl_11_21).trans (congrArg (x_g0 111 21 0 8) ((xe_if_icmp .ge 219).trans (congrArg (x_if_icmp .ge 219 K) ((xe_iload 7).trans (congrArg (x_iload 7) ((xe_iconst (-1)).trans (congrArg (x_iconst (-1)) ((xe_if_icmp .ne 219).trans (congrArg (x_if_icmp .ne 219 K) ((xe_iload 5).trans (congrArg (x_iload 5) ((xe_iload 8).trans (congrArg (x_iload 8) ((xe_ishr).trans (congrArg (x_ishr) ((xe_iconst 1).trans (congrArg (x_iconst 1) ((xe_iand).trans (congrArg (x_iand) ((xe_ifCond .ne 213).trans (congrArg (x_ifCond .ne 213 K) ((xe_aload 0).trans (congrArg (x_aload 0) ((xe_aload 0).trans (congrArg (x_aload 0) ((xe_g1 (kk := 111) rfl tl_11_106).trans (congrArg (x_g1 111 306) ((xe_iload 6).trans (congrArg (x_iload 6) ((xe_iaload).trans (congrArg (x_iaload) ((xe_iload 8).trans (congrArg (x_iload 8) xe_nil))))))))))))))))))))))))))))))))))))))
theorem bk_X11_assign_219 : ck_ fX11 (some .int) cX11_assign 219 [.aload 0, .tableswitch 0 11 38 #[], .aload 0, .tableswitch 0 11 106 #[], .iload 6, .iaload, .iload 7, .iastore, .iload 7, .iconst (-1), .if_icmp .eq 269, .iload 5, .iconst 1, .iload 7, .ishl, .ior, .istore 5, .iinc 3 (-1), .iload 4, .aload 0, .aload 0, .tableswitch 0 11 106 #[], .iload 6, .iaload, .iload 7] 263 = true := qck_r (nn_ _) (by decide +kernel)
theorem bs_X11_assign_219 {P : Zt → Option Zv → Prop} (K : Int → Zl → List Zv → Zt → Prop) : sx_ K P [.aload 0, .tableswitch 0 11 38 #[], .aload 0, .tableswitch 0 11 106 #[], .iload 6, .iaload, .iload 7, .iastore, .iload 7, .iconst (-1), .if_icmp .eq 269, .iload 5, .iconst 1, .iload 7, .ishl, .ior, .istore 5, .iinc 3 (-1), .iload 4, .aload 0, .aload 0, .tableswitch 0 11 106 #[], .iload 6, .iaload, .iload 7] 263 = x_aload 0 (x_g1 111 238 (x_aload 0 (x_g1 111 306 (x_iload 6 (x_iaload (x_iload 7 (x_iastore (x_iload 7 (x_iconst (-1) (x_if_icmp .eq 269 K (x_iload 5 (x_iconst 1 (x_iload 7 (x_ishl (x_ior (x_istore 5 (x_iinc 3 (-1) (x_iload 4 (x_aload 0 (x_aload 0 (x_g1 111 306 (x_iload 6 (x_iaload (x_iload 7 (K 263))))))))))))))))))))))))) := ((xe_aload 0).trans (congrArg (x_aload 0) ((xe_g1 (kk := 111) rfl tl_11_38).trans (congrArg (x_g1 111 238) ((xe_aload 0).trans (congrArg (x_aload 0) ((xe_g1 (kk := 111) rfl tl_11_106).trans (congrArg (x_g1 111 306) ((xe_iload 6).trans (congrArg (x_iload 6) ((xe_iaload).trans (congrArg (x_iaload) ((xe_iload 7).trans (congrArg (x_iload 7) ((xe_iastore).trans (congrArg (x_iastore) ((xe_iload 7).trans (congrArg (x_iload 7) ((xe_iconst (-1)).trans (congrArg (x_iconst (-1)) ((xe_if_icmp .eq 269).trans (congrArg (x_if_icmp .eq 269 K) ((xe_iload 5).trans (congrArg (x_iload 5) ((xe_iconst 1).trans (congrArg (x_iconst 1) ((xe_iload 7).trans (congrArg (x_iload 7) ((xe_ishl).trans (congrArg (x_ishl) ((xe_ior).trans (congrArg (x_ior) ((xe_istore 5).trans (congrArg (x_istore 5) ((xe_iinc 3 (-1)).trans (congrArg (x_iinc 3 (-1)) ((xe_iload 4).trans (congrArg (x_iload 4) ((xe_aload 0).trans (congrArg (x_aload 0) ((xe_aload 0).trans (congrArg (x_aload 0) ((xe_g1 (kk := 111) rfl tl_11_106).trans (congrArg (x_g1 111 306) ((xe_iload 6).trans (congrArg (x_iload 6) ((xe_iaload).trans (congrArg (x_iaload) ((xe_iload 7).trans (congrArg (x_iload 7) xe_nil))))))))))))))))))))))))))))))))))))))))))))))))))
theorem bk_X11_assign_269 : ck_ fX11 (some .int) cX11_assign 269 [.iinc 6 1, .goto 101] 275 = true := qck_r (nn_ _) (by decide +kernel)
theorem bs_X11_assign_269 {P : Zt → Option Zv → Prop} (K : Int → Zl → List Zv → Zt → Prop) : sx_ K P [.iinc 6 1, .goto 101] 275 = x_iinc 6 1 (x_goto 101 K) := ((xe_iinc 6 1).trans (congrArg (x_iinc 6 1) (xe_goto 101)))
theorem bk_X11_assign_266 : ck_ fX11 (some .int) cX11_assign 266 [.fsub, .istore 4, .iinc 6 1, .goto 101] 275 = true := qck_r (nn_ _) (by decide +kernel)
theorem bs_X11_assign_266 {P : Zt → Option Zv → Prop} (K : Int → Zl → List Zv → Zt → Prop) : sx_ K P [.fsub, .istore 4, .iinc 6 1, .goto 101] 275 = x_fsub (x_istore 4 (x_iinc 6 1 (x_goto 101 K))) := ((xe_fsub).trans (congrArg (x_fsub) ((xe_istore 4).trans (congrArg (x_istore 4) ((xe_iinc 6 1).trans (congrArg (x_iinc 6 1) (xe_goto 101)))))))
theorem bk_X11_assign_213 : ck_ fX11 (some .int) cX11_assign 213 [.iinc 8 1, .goto 116] 219 = true := qck_r (nn_ _) (by decide +kernel)
theorem bs_X11_assign_213 {P : Zt → Option Zv → Prop} (K : Int → Zl → List Zv → Zt → Prop) : sx_ K P [.iinc 8 1, .goto 116] 219 = x_iinc 8 1 (x_goto 116 K) := ((xe_iinc 8 1).trans (congrArg (x_iinc 8 1) (xe_goto 116)))
theorem bk_X11_assign_154 : ck_ fX11 (some .int) cX11_assign 154 [.ifCond .eq 213, .aload 0, .iload 6, .iconst 1, .iadd, .iload 5, .iconst 1, .iload 8, .ishl, .ior] 169 = true := qck_r (nn_ _) (by decide +kernel)
theorem bs_X11_assign_154 {P : Zt → Option Zv → Prop} (K : Int → Zl → List Zv → Zt → Prop) : sx_ K P [.ifCond .eq 213, .aload 0, .iload 6, .iconst 1, .iadd, .iload 5, .iconst 1, .iload 8, .ishl, .ior] 169 = x_ifCond .eq 213 K (x_aload 0 (x_iload 6 (x_iconst 1 (x_iadd (x_iload 5 (x_iconst 1 (x_iload 8 (x_ishl (x_ior (K 169)))))))))) := ((xe_ifCond .eq 213).trans (congrArg (x_ifCond .eq 213 K) ((xe_aload 0).trans (congrArg (x_aload 0) ((xe_iload 6).trans (congrArg (x_iload 6) ((xe_iconst 1).trans (congrArg (x_iconst 1) ((xe_iadd).trans (congrArg (x_iadd) ((xe_iload 5).trans (congrArg (x_iload 5) ((xe_iconst 1).trans (congrArg (x_iconst 1) ((xe_iload 8).trans (congrArg (x_iload 8) ((xe_ishl).trans (congrArg (x_ishl) ((xe_ior).trans (congrArg (x_ior) xe_nil))))))))))))))))))))
set_option maxRecDepth 100000 in
theorem cl_X11_628 : cv_ RX11 628 yX11_matchRest zX11_matchRest 11 2 := ⟨gi_V (lwq_10 (dqc_m (dqc_m (dqa_m (dqa_m (dqa_m (List.mem_of_getElem? (i := 2) rfl)))))) rfl : Cond.methodLink RX11 628 yX11_matchRest ∈ lw_g) (lwq_10 (dqc_m (dqc_m (dqa_m (dqa_m (dqa_m (List.mem_of_getElem? (i := 4) rfl)))))) rfl : Cond.instanceMethod yX11_matchRest ∈ lw_g) (lw_sel 36 rfl : Cond.selects yX11_matchRest.cls yX11_matchRest yX11_matchRest ∈ lw_g) (lwq_1 (dqa_m (List.mem_of_getElem? (i := 2) rfl)) rfl : Cond.initialized yX11_matchRest.cls ∈ lw_g) (lwq_10 (dqc_m (dqc_m (dqa_m (dqa_m (dqa_m (List.mem_of_getElem? (i := 5) rfl)))))) rfl : Cond.code yX11_matchRest cX11_matchRest 8 none ∈ lw_g), ⟨nmh_1.1, nmh_1.2, pdq_0⟩, ⟨_, _, rfl⟩⟩
theorem bk_X11_assign_172 : ck_ fX11 (some .int) cX11_assign 172 [.aload 0, .tableswitch 0 11 112 #[], .iconst 1, .fadd, .iload 3, .if_icmp .ne 210, .aload 0, .tableswitch 0 11 113 #[], .aload 0, .aload 0, .tableswitch 0 11 106 #[], .iload 6, .iaload, .iload 8] 196 = true := qck_r (nn_ _) (by decide +kernel)
theorem bs_X11_assign_172 {P : Zt → Option Zv → Prop} (K : Int → Zl → List Zv → Zt → Prop) : sx_ K P [.aload 0, .tableswitch 0 11 112 #[], .iconst 1, .fadd, .iload 3, .if_icmp .ne 210, .aload 0, .tableswitch 0 11 113 #[], .aload 0, .aload 0, .tableswitch 0 11 106 #[], .iload 6, .iaload, .iload 8] 196 = x_aload 0 (x_g0 111 112 (-2147483648) 2147483647 (x_iconst 1 (x_fadd (x_iload 3 (x_if_icmp .ne 210 K (x_aload 0 (x_g0 111 113 (-2147483648) 2147483647 (x_aload 0 (x_aload 0 (x_g1 111 306 (x_iload 6 (x_iaload (x_iload 8 (K 196)))))))))))))) := ((xe_aload 0).trans (congrArg (x_aload 0) ((xe_g0 (kk := 111) rfl tl_11_112).trans (congrArg (x_g0 111 112 (-2147483648) 2147483647) ((xe_iconst 1).trans (congrArg (x_iconst 1) ((xe_fadd).trans (congrArg (x_fadd) ((xe_iload 3).trans (congrArg (x_iload 3) ((xe_if_icmp .ne 210).trans (congrArg (x_if_icmp .ne 210 K) ((xe_aload 0).trans (congrArg (x_aload 0) ((xe_g0 (kk := 111) rfl tl_11_113).trans (congrArg (x_g0 111 113 (-2147483648) 2147483647) ((xe_aload 0).trans (congrArg (x_aload 0) ((xe_aload 0).trans (congrArg (x_aload 0) ((xe_g1 (kk := 111) rfl tl_11_106).trans (congrArg (x_g1 111 306) ((xe_iload 6).trans (congrArg (x_iload 6) ((xe_iaload).trans (congrArg (x_iaload) ((xe_iload 8).trans (congrArg (x_iload 8) xe_nil))))))))))))))))))))))))))))
theorem bk_X11_assign_210 : ck_ fX11 (some .int) cX11_assign 210 [.iconst (-1), .istore 7, .iinc 8 1, .goto 116] 219 = true := qck_r (nn_ _) (by decide +kernel)
theorem bs_X11_assign_210 {P : Zt → Option Zv → Prop} (K : Int → Zl → List Zv → Zt → Prop) : sx_ K P [.iconst (-1), .istore 7, .iinc 8 1, .goto 116] 219 = x_iconst (-1) (x_istore 7 (x_iinc 8 1 (x_goto 116 K))) := ((xe_iconst (-1)).trans (congrArg (x_iconst (-1)) ((xe_istore 7).trans (congrArg (x_istore 7) ((xe_iinc 8 1).trans (congrArg (x_iinc 8 1) (xe_goto 116)))))))
theorem bk_X11_assign_199 : ck_ fX11 (some .int) cX11_assign 199 [.fadd, .iload 4, .if_icmp .ne 210, .iload 8, .goto 211] 210 = true := qck_r (nn_ _) (by decide +kernel)
theorem bs_X11_assign_199 {P : Zt → Option Zv → Prop} (K : Int → Zl → List Zv → Zt → Prop) : sx_ K P [.fadd, .iload 4, .if_icmp .ne 210, .iload 8, .goto 211] 210 = x_fadd (x_iload 4 (x_if_icmp .ne 210 K (x_iload 8 (x_goto 211 K)))) := ((xe_fadd).trans (congrArg (x_fadd) ((xe_iload 4).trans (congrArg (x_iload 4) ((xe_if_icmp .ne 210).trans (congrArg (x_if_icmp .ne 210 K) ((xe_iload 8).trans (congrArg (x_iload 8) (xe_goto 211)))))))))
theorem bk_X11_assign_211 : ck_ fX11 (some .int) cX11_assign 211 [.istore 7, .iinc 8 1, .goto 116] 219 = true := qck_r (nn_ _) (by decide +kernel)
theorem bs_X11_assign_211 {P : Zt → Option Zv → Prop} (K : Int → Zl → List Zv → Zt → Prop) : sx_ K P [.istore 7, .iinc 8 1, .goto 116] 219 = x_istore 7 (x_iinc 8 1 (x_goto 116 K)) := ((xe_istore 7).trans (congrArg (x_istore 7) ((xe_iinc 8 1).trans (congrArg (x_iinc 8 1) (xe_goto 116)))))
theorem bk_X11_assign_101 : ck_ fX11 (some .int) cX11_assign 101 [.iload 6, .aload 0, .tableswitch 0 11 107 #[], .if_icmp .ge 275, .iconst (-1), .istore 7, .iconst 0, .istore 8] 116 = true := qck_r (nn_ _) (by decide +kernel)
theorem bs_X11_assign_101 {P : Zt → Option Zv → Prop} (K : Int → Zl → List Zv → Zt → Prop) : sx_ K P [.iload 6, .aload 0, .tableswitch 0 11 107 #[], .if_icmp .ge 275, .iconst (-1), .istore 7, .iconst 0, .istore 8] 116 = x_iload 6 (x_aload 0 (x_g0 111 107 0 400 (x_if_icmp .ge 275 K (x_iconst (-1) (x_istore 7 (x_iconst 0 (x_istore 8 (K 116)))))))) := ((xe_iload 6).trans (congrArg (x_iload 6) ((xe_aload 0).trans (congrArg (x_aload 0) ((xe_g0 (kk := 111) rfl tl_11_107).trans (congrArg (x_g0 111 107 0 400) ((xe_if_icmp .ge 275).trans (congrArg (x_if_icmp .ge 275 K) ((xe_iconst (-1)).trans (congrArg (x_iconst (-1)) ((xe_istore 7).trans (congrArg (x_istore 7) ((xe_iconst 0).trans (congrArg (x_iconst 0) ((xe_istore 8).trans (congrArg (x_istore 8) xe_nil))))))))))))))))
theorem bk_X11_assign_275 : ck_ fX11 (some .int) cX11_assign 275 [.iload 2, .ireturn] 277 = true := qck_r (nn_ _) (by decide +kernel)
theorem bs_X11_assign_275 {P : Zt → Option Zv → Prop} (K : Int → Zl → List Zv → Zt → Prop) : sx_ K P [.iload 2, .ireturn] 277 = x_iload 2 (x_ireturn P) := ((xe_iload 2).trans (congrArg (x_iload 2) (xe_ireturn)))
theorem bk_X11_assign_21 : ck_ fX11 (some .int) cX11_assign 21 [.iload 2, .aload 0, .tableswitch 0 11 29 #[], .if_icmp .ge 73, .aload 0, .tableswitch 0 11 34 #[], .iload 2, .iaload, .iload 1, .if_icmp .ne 67, .aload 0, .iload 2] 41 = true := qck_r (nn_ _) (by decide +kernel)
theorem bs_X11_assign_21 {P : Zt → Option Zv → Prop} (K : Int → Zl → List Zv → Zt → Prop) : sx_ K P [.iload 2, .aload 0, .tableswitch 0 11 29 #[], .if_icmp .ge 73, .aload 0, .tableswitch 0 11 34 #[], .iload 2, .iaload, .iload 1, .if_icmp .ne 67, .aload 0, .iload 2] 41 = x_iload 2 (x_aload 0 (x_g0 111 29 0 400 (x_if_icmp .ge 73 K (x_aload 0 (x_g1 111 234 (x_iload 2 (x_iaload (x_iload 1 (x_if_icmp .ne 67 K (x_aload 0 (x_iload 2 (K 41)))))))))))) := ((xe_iload 2).trans (congrArg (x_iload 2) ((xe_aload 0).trans (congrArg (x_aload 0) ((xe_g0 (kk := 111) rfl tl_11_29).trans (congrArg (x_g0 111 29 0 400) ((xe_if_icmp .ge 73).trans (congrArg (x_if_icmp .ge 73 K) ((xe_aload 0).trans (congrArg (x_aload 0) ((xe_g1 (kk := 111) rfl tl_11_34).trans (congrArg (x_g1 111 234) ((xe_iload 2).trans (congrArg (x_iload 2) ((xe_iaload).trans (congrArg (x_iaload) ((xe_iload 1).trans (congrArg (x_iload 1) ((xe_if_icmp .ne 67).trans (congrArg (x_if_icmp .ne 67 K) ((xe_aload 0).trans (congrArg (x_aload 0) ((xe_iload 2).trans (congrArg (x_iload 2) xe_nil))))))))))))))))))))))))
theorem bk_X11_assign_73 : ck_ fX11 (some .int) cX11_assign 73 [.aload 0, .iconst 0, .iconst 0] 76 = true := qck_r (nn_ _) (by decide +kernel)
theorem bs_X11_assign_73 {P : Zt → Option Zv → Prop} (K : Int → Zl → List Zv → Zt → Prop) : sx_ K P [.aload 0, .iconst 0, .iconst 0] 76 = x_aload 0 (x_iconst 0 (x_iconst 0 (K 76))) := ((xe_aload 0).trans (congrArg (x_aload 0) ((xe_iconst 0).trans (congrArg (x_iconst 0) ((xe_iconst 0).trans (congrArg (x_iconst 0) xe_nil))))))
theorem bk_X11_assign_79 : ck_ fX11 (some .int) cX11_assign 79 [.aload 0, .tableswitch 0 11 112 #[], .istore 2, .aload 0, .tableswitch 0 11 112 #[], .istore 3, .aload 0, .tableswitch 0 11 113 #[], .istore 4, .iconst 0, .istore 5, .iconst 0, .istore 6] 101 = true := qck_r (nn_ _) (by decide +kernel)
theorem bs_X11_assign_79 {P : Zt → Option Zv → Prop} (K : Int → Zl → List Zv → Zt → Prop) : sx_ K P [.aload 0, .tableswitch 0 11 112 #[], .istore 2, .aload 0, .tableswitch 0 11 112 #[], .istore 3, .aload 0, .tableswitch 0 11 113 #[], .istore 4, .iconst 0, .istore 5, .iconst 0, .istore 6] 101 = x_aload 0 (x_g0 111 112 (-2147483648) 2147483647 (x_istore 2 (x_aload 0 (x_g0 111 112 (-2147483648) 2147483647 (x_istore 3 (x_aload 0 (x_g0 111 113 (-2147483648) 2147483647 (x_istore 4 (x_iconst 0 (x_istore 5 (x_iconst 0 (x_istore 6 (K 101))))))))))))) := ((xe_aload 0).trans (congrArg (x_aload 0) ((xe_g0 (kk := 111) rfl tl_11_112).trans (congrArg (x_g0 111 112 (-2147483648) 2147483647) ((xe_istore 2).trans (congrArg (x_istore 2) ((xe_aload 0).trans (congrArg (x_aload 0) ((xe_g0 (kk := 111) rfl tl_11_112).trans (congrArg (x_g0 111 112 (-2147483648) 2147483647) ((xe_istore 3).trans (congrArg (x_istore 3) ((xe_aload 0).trans (congrArg (x_aload 0) ((xe_g0 (kk := 111) rfl tl_11_113).trans (congrArg (x_g0 111 113 (-2147483648) 2147483647) ((xe_istore 4).trans (congrArg (x_istore 4) ((xe_iconst 0).trans (congrArg (x_iconst 0) ((xe_istore 5).trans (congrArg (x_istore 5) ((xe_iconst 0).trans (congrArg (x_iconst 0) ((xe_istore 6).trans (congrArg (x_istore 6) xe_nil))))))))))))))))))))))))))
theorem bk_X11_assign_67 : ck_ fX11 (some .int) cX11_assign 67 [.iinc 2 1, .goto 21] 73 = true := qck_r (nn_ _) (by decide +kernel)
theorem bs_X11_assign_67 {P : Zt → Option Zv → Prop} (K : Int → Zl → List Zv → Zt → Prop) : sx_ K P [.iinc 2 1, .goto 21] 73 = x_iinc 2 1 (x_goto 21 K) := ((xe_iinc 2 1).trans (congrArg (x_iinc 2 1) (xe_goto 21)))
theorem bk_X11_assign_44 : ck_ fX11 (some .int) cX11_assign 44 [.ifCond .eq 67, .aload 0, .tableswitch 0 11 106 #[], .aload 0, .tableswitch 0 11 107 #[], .iload 2, .iastore, .aload 0, .dup, .tableswitch 0 11 107 #[], .iconst 1, .iadd, .tableswitch 1 11 107 #[], .iinc 2 1, .goto 21] 73 = true := qck_r (nn_ _) (by decide +kernel)
theorem bs_X11_assign_44 {P : Zt → Option Zv → Prop} (K : Int → Zl → List Zv → Zt → Prop) : sx_ K P [.ifCond .eq 67, .aload 0, .tableswitch 0 11 106 #[], .aload 0, .tableswitch 0 11 107 #[], .iload 2, .iastore, .aload 0, .dup, .tableswitch 0 11 107 #[], .iconst 1, .iadd, .tableswitch 1 11 107 #[], .iinc 2 1, .goto 21] 73 = x_ifCond .eq 67 K (x_aload 0 (x_g1 111 306 (x_aload 0 (x_g0 111 107 0 400 (x_iload 2 (x_iastore (x_aload 0 (x_dup (x_g0 111 107 0 400 (x_iconst 1 (x_iadd (x_p 111 107 0 400 (x_iinc 2 1 (x_goto 21 K)))))))))))))) := ((xe_ifCond .eq 67).trans (congrArg (x_ifCond .eq 67 K) ((xe_aload 0).trans (congrArg (x_aload 0) ((xe_g1 (kk := 111) rfl tl_11_106).trans (congrArg (x_g1 111 306) ((xe_aload 0).trans (congrArg (x_aload 0) ((xe_g0 (kk := 111) rfl tl_11_107).trans (congrArg (x_g0 111 107 0 400) ((xe_iload 2).trans (congrArg (x_iload 2) ((xe_iastore).trans (congrArg (x_iastore) ((xe_aload 0).trans (congrArg (x_aload 0) ((xe_dup).trans (congrArg (x_dup) ((xe_g0 (kk := 111) rfl tl_11_107).trans (congrArg (x_g0 111 107 0 400) ((xe_iconst 1).trans (congrArg (x_iconst 1) ((xe_iadd).trans (congrArg (x_iadd) ((xe_p (kk := 111) rfl tl_11_107).trans (congrArg (x_p 111 107 0 400) ((xe_iinc 2 1).trans (congrArg (x_iinc 2 1) (xe_goto 21)))))))))))))))))))))))))))))
theorem bk_X11_assign_0 : ck_ fX11 (some .int) cX11_assign 0 [.iload 1, .iconst 0, .iconst 999] 5 = true := qck_r (nn_ _) (by decide +kernel)
theorem bs_X11_assign_0 {P : Zt → Option Zv → Prop} (K : Int → Zl → List Zv → Zt → Prop) : sx_ K P [.iload 1, .iconst 0, .iconst 999] 5 = x_iload 1 (x_iconst 0 (x_iconst 999 (K 5))) := ((xe_iload 1).trans (congrArg (x_iload 1) ((xe_iconst 0).trans (congrArg (x_iconst 0) ((xe_iconst 999).trans (congrArg (x_iconst 999) xe_nil))))))
theorem bk_X11_assign_8 : ck_ fX11 (some .int) cX11_assign 8 [.ifCond .ne 14, .iconst (-3), .ireturn] 14 = true := qck_r (nn_ _) (by decide +kernel)
theorem bs_X11_assign_8 {P : Zt → Option Zv → Prop} (K : Int → Zl → List Zv → Zt → Prop) : sx_ K P [.ifCond .ne 14, .iconst (-3), .ireturn] 14 = x_ifCond .ne 14 K (x_iconst (-3) (x_ireturn P)) := ((xe_ifCond .ne 14).trans (congrArg (x_ifCond .ne 14 K) ((xe_iconst (-3)).trans (congrArg (x_iconst (-3)) (xe_ireturn)))))
theorem bk_X11_assign_14 : ck_ fX11 (some .int) cX11_assign 14 [.aload 0, .iconst 0, .tableswitch 1 11 107 #[], .iconst 0, .istore 2] 21 = true := qck_r (nn_ _) (by decide +kernel)
theorem bs_X11_assign_14 {P : Zt → Option Zv → Prop} (K : Int → Zl → List Zv → Zt → Prop) : sx_ K P [.aload 0, .iconst 0, .tableswitch 1 11 107 #[], .iconst 0, .istore 2] 21 = x_aload 0 (x_iconst 0 (x_p 111 107 0 400 (x_iconst 0 (x_istore 2 (K 21))))) := ((xe_aload 0).trans (congrArg (x_aload 0) ((xe_iconst 0).trans (congrArg (x_iconst 0) ((xe_p (kk := 111) rfl tl_11_107).trans (congrArg (x_p 111 107 0 400) ((xe_iconst 0).trans (congrArg (x_iconst 0) ((xe_istore 2).trans (congrArg (x_istore 2) xe_nil))))))))))
abbrev po_X11_assign (T : Zt) (d : Int) : Zt → Option Zv → Prop := fun T' r => ∃ x : Int, r = some (vI x) ∧ fr_ [(306, []), (308, []), (311, []), (309, []), (310, []), (238, []), (111, [107, 112, 113])] T T' ∧ (x = x)
set_option maxHeartbeats 4000000 in
theorem ct_X11_assign {T : Zt} {d : Int} : Ct_ yX11_assign zX11_assign T [vR 111 0, vI d] (po_X11_assign T d) := by
  refine ct_of pn_11 rfl rfl (Nat.le_of_ble_eq_true rfl) (fun hT hav => ?_)
  have hr_d : -2147483648 ≤ d ∧ d ≤ 2147483647 := hav (vI d) (List.mem_cons_of_mem _ List.mem_cons_self)
  have hz : zX11_assign.2.2.2.1 = some .boolean → ∀ (T' : Zt) (x : Int), po_X11_assign T d T' (some (vI x)) → 0 ≤ x ∧ x ≤ 1 := fun h => by cases h
  have hb_29 : 0 ≤ T 111 0 29 ∧ T 111 0 29 ≤ 400 := bd_f hT 111 29 tl_11_29 0
  have hb_21 : 0 ≤ T 111 0 21 ∧ T 111 0 21 ≤ 8 := bd_f hT 111 21 tl_11_21 0
  show J_ zX11_assign T (po_X11_assign T d) 0 0 0 [some (vR 111 0), some (vI d), none, none, none, none, none, none, none] [] T
  have c_101 : ∀ (nn : Nat) (mn : Int) (wn : Int) (sm : Int) (tk : Int) (i : Int) (T2 : Zt), ((400 - i).toNat) ≤ nn → (fr_ [(306, []), (308, []), (311, []), (309, []), (310, []), (238, []), (111, [107, 112, 113])] T T2) → (0 ≤ i ∧ wn ≤ 8 ∧ -i ≤ wn) → J_ zX11_assign T (po_X11_assign T d) 0 0 101 [some (vR 111 0), some (vI d), some (vI mn), some (vI wn), some (vI sm), some (vI tk), some (vI i), none, none] [] T2 := by
    intro nn
    induction nn using Nat.strongRecOn with
    | _ nn ih_101 =>
      intro mn wn sm tk i T2 hm_101 hf_101 i2
      replace hm_101 := fun (_ : Unit) => hm_101
      have c_116 : ∀ (nn : Nat) (wh : Int) (o : Int) (T3 : Zt), ((8 - o).toNat) ≤ nn → (fr_ [(306, []), (308, []), (311, []), (309, []), (310, []), (238, []), (111, [107, 112, 113])] T T3) → (-1 ≤ wh ∧ wh ≤ 7 ∧ 0 ≤ o ∧ o ≤ 8 ∧ i < 400) → J_ zX11_assign T (po_X11_assign T d) 0 0 116 [some (vR 111 0), some (vI d), some (vI mn), some (vI wn), some (vI sm), some (vI tk), some (vI i), some (vI wh), some (vI o)] [] T3 := by
        intro nn
        induction nn using Nat.strongRecOn with
        | _ nn ih_116 =>
          intro wh o T3 hm_116 hf_116 i3
          replace hm_116 := fun (_ : Unit) => hm_116
          refine j_blx (F := fX11) tb_X11 (nn_ _) bk_X11_assign_116 bs_X11_assign_116 hz (fun K hK => ?_)
          intro b1 b1b
          have e2 : T3 111 0 21 = T 111 0 21 := hf_116 111 0 21 rfl
          rw [e2] at b1 b1b ⊢
          refine And.intro (fun c3 => ?_) (fun c3 => ?_)
          · refine hK 219 _ [] T3 ?_
            refine j_blx (F := fX11) tb_X11 (nn_ _) bk_X11_assign_219 bs_X11_assign_219 hz (fun K hK => ?_)
            refine ix_i (by omega) ?_
            intro b4 b4b
            refine iy_i (by omega) (by omega) ?_
            refine x_nm (fun U5 hU5 => ?_)
            have e6 := up_f hU5
            refine And.intro (fun c7 => ?_) (fun c7 => ?_)
            · refine hK 269 _ [] U5 ?_
              refine j_blx (F := fX11) tb_X11 (nn_ _) bk_X11_assign_269 bs_X11_assign_269 hz (fun K hK => ?_)
              refine rg_i (by omega) ?_
              refine hK 101 [some (vR 111 0), some (vI d), some (vI mn), some (vI wn), some (vI sm), some (vI tk), some (vI (i + 1)), some (vI wh), some (vI o)] [] U5 ?_
              refine j_drq [some (vR 111 0), some (vI d), some (vI mn), some (vI wn), some (vI sm), some (vI tk), some (vI (i + 1)), none, none] (drq_s (drq_s (drq_s (drq_s (drq_s (drq_s (drq_s (drq_n (drq_n drq_0))))))))) ?_
              refine ih_101 _ ?_ mn wn sm tk (i + 1) U5 (Nat.le_refl _) ?_ ?_
              · have hm_101 := hm_101 (); omega
              · exact fr_u (fr_t (fr_0 _ _) (fr_s hf_116 rfl)) hU5 rfl
              · omega
            · intro w8 w8b
              intro w9 w9b
              refine rg_i (by omega) ?_
              refine ix_i (by omega) ?_
              intro b10 b10b
              have e11 : U5 306 0 i = T3 306 0 i := up_k hU5 (by exact Nat.ne_of_beq_eq_false rfl) 0 i
              rw [e11] at b10 b10b ⊢
              refine hK 263 [some (vR 111 0), some (vI d), some (vI mn), some (vI (wn + (-1))), some (vI sm), some (vI (or_ tk (sl_ 1 wh))), some (vI i), some (vI wh), some (vI o)] [vI wh, vI (T3 306 0 i), vR 111 0, vI sm] U5 ?_
              refine j_callV (y := yX11_distanceOf) (Yc := zX11_distanceOf) (rest := [vI sm]) [vI (T3 306 0 i), vI wh] (ct_X11_distanceOf (T := U5) (by omega) (by omega)) cl_X11_610 (qd_c (by decide +kernel)) (nn_ _) rfl (rf_of rfl) (Nat.le_of_ble_eq_true rfl) (Nat.le_of_ble_eq_true rfl) (Nat.le_of_ble_eq_true rfl) rfl ?_
              rintro _ _ ⟨rfl, rfl⟩
              show J_ zX11_assign T (po_X11_assign T d) 0 0 266 _ [vI (di_ U5 (T3 306 0 i) wh), vI sm] U5
              refine j_blx (F := fX11) tb_X11 (nn_ _) bk_X11_assign_266 bs_X11_assign_266 hz (fun K hK => ?_)
              intro w12 w12b
              refine rg_i (by omega) ?_
              refine hK 101 [some (vR 111 0), some (vI d), some (vI mn), some (vI (wn + (-1))), some (vI (wr_ (sm - (di_ U5 (T3 306 0 i) wh)))), some (vI (or_ tk (sl_ 1 wh))), some (vI (i + 1)), some (vI wh), some (vI o)] [] U5 ?_
              refine j_drq [some (vR 111 0), some (vI d), some (vI mn), some (vI (wn + (-1))), some (vI (wr_ (sm - (di_ U5 (T3 306 0 i) wh)))), some (vI (or_ tk (sl_ 1 wh))), some (vI (i + 1)), none, none] (drq_s (drq_s (drq_s (drq_s (drq_s (drq_s (drq_s (drq_n (drq_n drq_0))))))))) ?_
              refine ih_101 _ ?_ mn (wn + (-1)) (wr_ (sm - (di_ U5 (T3 306 0 i) wh))) (or_ tk (sl_ 1 wh)) (i + 1) U5 (Nat.le_refl _) ?_ ?_
              · have hm_101 := hm_101 (); omega
              · exact fr_u (fr_t (fr_0 _ _) (fr_s hf_116 rfl)) hU5 rfl
              · omega
          · refine And.intro (fun c13 => ?_) (fun c13 => ?_)
            · refine hK 219 _ [] T3 ?_
              refine j_blx (F := fX11) tb_X11 (nn_ _) bk_X11_assign_219 bs_X11_assign_219 hz (fun K hK => ?_)
              refine ix_i (by omega) ?_
              intro b14 b14b
              refine iy_i (by omega) (by omega) ?_
              refine x_nm (fun U15 hU15 => ?_)
              have e16 := up_f hU15
              refine And.intro (fun c17 => ?_) (fun c17 => ?_)
              · refine hK 269 _ [] U15 ?_
                refine j_blx (F := fX11) tb_X11 (nn_ _) bk_X11_assign_269 bs_X11_assign_269 hz (fun K hK => ?_)
                refine rg_i (by omega) ?_
                refine hK 101 [some (vR 111 0), some (vI d), some (vI mn), some (vI wn), some (vI sm), some (vI tk), some (vI (i + 1)), some (vI wh), some (vI o)] [] U15 ?_
                refine j_drq [some (vR 111 0), some (vI d), some (vI mn), some (vI wn), some (vI sm), some (vI tk), some (vI (i + 1)), none, none] (drq_s (drq_s (drq_s (drq_s (drq_s (drq_s (drq_s (drq_n (drq_n drq_0))))))))) ?_
                refine ih_101 _ ?_ mn wn sm tk (i + 1) U15 (Nat.le_refl _) ?_ ?_
                · have hm_101 := hm_101 (); omega
                · exact fr_u (fr_t (fr_0 _ _) (fr_s hf_116 rfl)) hU15 rfl
                · omega
              · intro w18 w18b
                intro w19 w19b
                refine rg_i (by omega) ?_
                refine ix_i (by omega) ?_
                intro b20 b20b
                have e21 : U15 306 0 i = T3 306 0 i := up_k hU15 (by exact Nat.ne_of_beq_eq_false rfl) 0 i
                rw [e21] at b20 b20b ⊢
                refine hK 263 [some (vR 111 0), some (vI d), some (vI mn), some (vI (wn + (-1))), some (vI sm), some (vI (or_ tk (sl_ 1 wh))), some (vI i), some (vI wh), some (vI o)] [vI wh, vI (T3 306 0 i), vR 111 0, vI sm] U15 ?_
                refine j_callV (y := yX11_distanceOf) (Yc := zX11_distanceOf) (rest := [vI sm]) [vI (T3 306 0 i), vI wh] (ct_X11_distanceOf (T := U15) (by omega) (by omega)) cl_X11_610 (qd_c (by decide +kernel)) (nn_ _) rfl (rf_of rfl) (Nat.le_of_ble_eq_true rfl) (Nat.le_of_ble_eq_true rfl) (Nat.le_of_ble_eq_true rfl) rfl ?_
                rintro _ _ ⟨rfl, rfl⟩
                show J_ zX11_assign T (po_X11_assign T d) 0 0 266 _ [vI (di_ U15 (T3 306 0 i) wh), vI sm] U15
                refine j_blx (F := fX11) tb_X11 (nn_ _) bk_X11_assign_266 bs_X11_assign_266 hz (fun K hK => ?_)
                intro w22 w22b
                refine rg_i (by omega) ?_
                refine hK 101 [some (vR 111 0), some (vI d), some (vI mn), some (vI (wn + (-1))), some (vI (wr_ (sm - (di_ U15 (T3 306 0 i) wh)))), some (vI (or_ tk (sl_ 1 wh))), some (vI (i + 1)), some (vI wh), some (vI o)] [] U15 ?_
                refine j_drq [some (vR 111 0), some (vI d), some (vI mn), some (vI (wn + (-1))), some (vI (wr_ (sm - (di_ U15 (T3 306 0 i) wh)))), some (vI (or_ tk (sl_ 1 wh))), some (vI (i + 1)), none, none] (drq_s (drq_s (drq_s (drq_s (drq_s (drq_s (drq_s (drq_n (drq_n drq_0))))))))) ?_
                refine ih_101 _ ?_ mn (wn + (-1)) (wr_ (sm - (di_ U15 (T3 306 0 i) wh))) (or_ tk (sl_ 1 wh)) (i + 1) U15 (Nat.le_refl _) ?_ ?_
                · have hm_101 := hm_101 (); omega
                · exact fr_u (fr_t (fr_0 _ _) (fr_s hf_116 rfl)) hU15 rfl
                · omega
            · intro w23 w23b
              intro w24 w24b
              refine And.intro (fun c25 => ?_) (fun c25 => ?_)
              · refine hK 213 _ [] T3 ?_
                refine j_blx (F := fX11) tb_X11 (nn_ _) bk_X11_assign_213 bs_X11_assign_213 hz (fun K hK => ?_)
                refine rg_i (by omega) ?_
                refine hK 116 [some (vR 111 0), some (vI d), some (vI mn), some (vI wn), some (vI sm), some (vI tk), some (vI i), some (vI wh), some (vI (o + 1))] [] T3 ?_
                refine ih_116 _ ?_ wh (o + 1) T3 (Nat.le_refl _) ?_ ?_
                · have hm_116 := hm_116 (); omega
                · exact fr_t (fr_0 _ _) (fr_s hf_116 rfl)
                · omega
              · refine ix_i (by omega) ?_
                intro b26 b26b
                refine hK 151 [some (vR 111 0), some (vI d), some (vI mn), some (vI wn), some (vI sm), some (vI tk), some (vI i), some (vI wh), some (vI o)] [vI o, vI (T3 306 0 i), vR 111 0] T3 ?_
                refine j_callV (y := yX11_mayLead) (Yc := zX11_mayLead) (rest := []) [vI (T3 306 0 i), vI o] (ct_X11_mayLead (T := T3) (by omega) (by omega)) cl_X11_613 (qd_c (by decide +kernel)) (nn_ _) rfl (rf_of rfl) (Nat.le_of_ble_eq_true rfl) (Nat.le_of_ble_eq_true rfl) (Nat.le_of_ble_eq_true rfl) rfl ?_
                rintro _ _ ⟨rfl, x27, rfl, hx27⟩
                show J_ zX11_assign T (po_X11_assign T d) 0 0 154 _ [vI x27] T3
                refine j_blx (F := fX11) tb_X11 (nn_ _) bk_X11_assign_154 bs_X11_assign_154 hz (fun K hK => ?_)
                refine And.intro (fun c28 => ?_) (fun c28 => ?_)
                · replace hx27 := hx27.resolve_left (fun z => absurd (c28.symm.trans z.1) (by decide))
                  clear c28
                  refine hK 213 _ [] T3 ?_
                  refine j_blx (F := fX11) tb_X11 (nn_ _) bk_X11_assign_213 bs_X11_assign_213 hz (fun K hK => ?_)
                  refine rg_i (by omega) ?_
                  refine hK 116 [some (vR 111 0), some (vI d), some (vI mn), some (vI wn), some (vI sm), some (vI tk), some (vI i), some (vI wh), some (vI (o + 1))] [] T3 ?_
                  refine ih_116 _ ?_ wh (o + 1) T3 (Nat.le_refl _) ?_ ?_
                  · have hm_116 := hm_116 (); omega
                  · exact fr_t (fr_0 _ _) (fr_s hf_116 rfl)
                  · omega
                · replace hx27 := hx27.resolve_right (fun z => c28 z.1)
                  clear c28
                  refine rg_i (by omega) ?_
                  intro w29 w29b
                  intro w30 w30b
                  refine hK 169 [some (vR 111 0), some (vI d), some (vI mn), some (vI wn), some (vI sm), some (vI tk), some (vI i), some (vI wh), some (vI o)] [vI (or_ tk (sl_ 1 o)), vI (i + 1), vR 111 0] T3 ?_
                  refine j_callV (y := yX11_matchRest) (Yc := zX11_matchRest) (rest := []) [vI (i + 1), vI (or_ tk (sl_ 1 o))] (ct_X11_matchRest (T := T3) (by omega)) cl_X11_628 (qd_c (by decide +kernel)) (nn_ _) rfl (rf_of rfl) (Nat.le_of_ble_eq_true rfl) (Nat.le_of_ble_eq_true rfl) (Nat.le_of_ble_eq_true rfl) rfl ?_
                  rintro U31 _ ⟨rfl, fU31, qU31⟩
                  show J_ zX11_assign T (po_X11_assign T d) 0 0 172 _ [] U31
                  refine j_blx (F := fX11) tb_X11 (nn_ _) bk_X11_assign_172 bs_X11_assign_172 hz (fun K hK => ?_)
                  intro b32 b32b
                  intro w33 w33b
                  refine And.intro (fun c34 => ?_) (fun c34 => ?_)
                  · refine hK 210 _ [] U31 ?_
                    refine j_blx (F := fX11) tb_X11 (nn_ _) bk_X11_assign_210 bs_X11_assign_210 hz (fun K hK => ?_)
                    refine rg_i (by omega) ?_
                    refine hK 116 [some (vR 111 0), some (vI d), some (vI mn), some (vI wn), some (vI sm), some (vI tk), some (vI i), some (vI (-1)), some (vI (o + 1))] [] U31 ?_
                    refine ih_116 _ ?_ (-1) (o + 1) U31 (Nat.le_refl _) ?_ ?_
                    · have hm_116 := hm_116 (); omega
                    · exact fr_t (fr_t (fr_0 _ _) (fr_s hf_116 rfl)) (fr_s fU31 rfl)
                    · omega
                  · intro b35 b35b
                    refine ix_i (by omega) ?_
                    intro b36 b36b
                    have e37 : U31 306 0 i = T3 306 0 i := fU31 306 0 i rfl
                    rw [e37] at b36 b36b ⊢
                    refine hK 196 [some (vR 111 0), some (vI d), some (vI mn), some (vI wn), some (vI sm), some (vI tk), some (vI i), some (vI wh), some (vI o)] [vI o, vI (T3 306 0 i), vR 111 0, vI (U31 111 0 113)] U31 ?_
                    refine j_callV (y := yX11_distanceOf) (Yc := zX11_distanceOf) (rest := [vI (U31 111 0 113)]) [vI (T3 306 0 i), vI o] (ct_X11_distanceOf (T := U31) (by omega) (by omega)) cl_X11_610 (qd_c (by decide +kernel)) (nn_ _) rfl (rf_of rfl) (Nat.le_of_ble_eq_true rfl) (Nat.le_of_ble_eq_true rfl) (Nat.le_of_ble_eq_true rfl) rfl ?_
                    rintro _ _ ⟨rfl, rfl⟩
                    show J_ zX11_assign T (po_X11_assign T d) 0 0 199 _ [vI (di_ U31 (T3 306 0 i) o), vI (U31 111 0 113)] U31
                    refine j_blx (F := fX11) tb_X11 (nn_ _) bk_X11_assign_199 bs_X11_assign_199 hz (fun K hK => ?_)
                    intro w38 w38b
                    refine And.intro (fun c39 => ?_) (fun c39 => ?_)
                    · refine hK 210 _ [] U31 ?_
                      refine j_blx (F := fX11) tb_X11 (nn_ _) bk_X11_assign_210 bs_X11_assign_210 hz (fun K hK => ?_)
                      refine rg_i (by omega) ?_
                      refine hK 116 [some (vR 111 0), some (vI d), some (vI mn), some (vI wn), some (vI sm), some (vI tk), some (vI i), some (vI (-1)), some (vI (o + 1))] [] U31 ?_
                      refine ih_116 _ ?_ (-1) (o + 1) U31 (Nat.le_refl _) ?_ ?_
                      · have hm_116 := hm_116 (); omega
                      · exact fr_t (fr_t (fr_0 _ _) (fr_s hf_116 rfl)) (fr_s fU31 rfl)
                      · omega
                    · refine hK 211 [some (vR 111 0), some (vI d), some (vI mn), some (vI wn), some (vI sm), some (vI tk), some (vI i), some (vI wh), some (vI o)] [vI o] U31 ?_
                      refine j_blx (F := fX11) tb_X11 (nn_ _) bk_X11_assign_211 bs_X11_assign_211 hz (fun K hK => ?_)
                      refine rg_i (by omega) ?_
                      refine hK 116 [some (vR 111 0), some (vI d), some (vI mn), some (vI wn), some (vI sm), some (vI tk), some (vI i), some (vI o), some (vI (o + 1))] [] U31 ?_
                      refine ih_116 _ ?_ o (o + 1) U31 (Nat.le_refl _) ?_ ?_
                      · have hm_116 := hm_116 (); omega
                      · exact fr_t (fr_t (fr_0 _ _) (fr_s hf_116 rfl)) (fr_s fU31 rfl)
                      · omega
      refine j_blx (F := fX11) tb_X11 (nn_ _) bk_X11_assign_101 bs_X11_assign_101 hz (fun K hK => ?_)
      intro b40 b40b
      refine And.intro (fun c41 => ?_) (fun c41 => ?_)
      · refine hK 275 _ [] T2 ?_
        refine j_blx (F := fX11) tb_X11 (nn_ _) bk_X11_assign_275 bs_X11_assign_275 hz (fun K hK => ?_)
        refine (show po_X11_assign T d T2 (some (vI mn)) from ?_)
        exact ⟨_, rfl, fr_t (fr_0 _ _) (fr_s hf_101 rfl), by rfl⟩
      · refine hK 116 [some (vR 111 0), some (vI d), some (vI mn), some (vI wn), some (vI sm), some (vI tk), some (vI i), some (vI (-1)), some (vI 0)] [] T2 ?_
        refine c_116 _ (-1) 0 T2 (Nat.le_refl _) ?_ ?_
        · exact fr_t (fr_0 _ _) (fr_s hf_101 rfl)
        · omega
  have c_21 : ∀ (nn : Nat) (m : Int) (T1 : Zt), ((400 - m).toNat) ≤ nn → (fr_ [(306, []), (111, [107])] T T1) → (0 ≤ m ∧ m ≤ 400 ∧ 0 ≤ T1 111 0 107 ∧ T1 111 0 107 ≤ m) → J_ zX11_assign T (po_X11_assign T d) 0 0 21 [some (vR 111 0), some (vI d), some (vI m), none, none, none, none, none, none] [] T1 := by
    intro nn
    induction nn using Nat.strongRecOn with
    | _ nn ih_21 =>
      intro m T1 hm_21 hf_21 i1
      replace hm_21 := fun (_ : Unit) => hm_21
      refine j_blx (F := fX11) tb_X11 (nn_ _) bk_X11_assign_21 bs_X11_assign_21 hz (fun K hK => ?_)
      intro b42 b42b
      have e43 : T1 111 0 29 = T 111 0 29 := hf_21 111 0 29 rfl
      rw [e43] at b42 b42b ⊢
      refine And.intro (fun c44 => ?_) (fun c44 => ?_)
      · refine hK 73 _ [] T1 ?_
        refine j_blx (F := fX11) tb_X11 (nn_ _) bk_X11_assign_73 bs_X11_assign_73 hz (fun K hK => ?_)
        refine hK 76 _ [vI 0, vI 0, vR 111 0] T1 ?_
        refine j_callV (y := yX11_matchRest) (Yc := zX11_matchRest) (rest := []) [vI 0, vI 0] (ct_X11_matchRest (T := T1) (by omega)) cl_X11_628 (qd_c (by decide +kernel)) (nn_ _) rfl (rf_of rfl) (Nat.le_of_ble_eq_true rfl) (Nat.le_of_ble_eq_true rfl) (Nat.le_of_ble_eq_true rfl) rfl ?_
        rintro U45 _ ⟨rfl, fU45, qU45⟩
        show J_ zX11_assign T (po_X11_assign T d) 0 0 79 _ [] U45
        refine j_blx (F := fX11) tb_X11 (nn_ _) bk_X11_assign_79 bs_X11_assign_79 hz (fun K hK => ?_)
        intro b46 b46b
        intro b47 b47b
        intro b48 b48b
        refine hK 101 [some (vR 111 0), some (vI d), some (vI (U45 111 0 112)), some (vI (U45 111 0 112)), some (vI (U45 111 0 113)), some (vI 0), some (vI 0), none, none] [] U45 ?_
        refine c_101 _ (U45 111 0 112) (U45 111 0 112) (U45 111 0 113) 0 0 U45 (Nat.le_refl _) ?_ ?_
        · exact fr_t (fr_t (fr_0 _ _) (fr_s hf_21 rfl)) (fr_s fU45 rfl)
        · omega
      · refine ix_i (by omega) ?_
        intro b49 b49b
        have e50 : T1 234 0 m = T 234 0 m := hf_21 234 0 m rfl
        rw [e50] at b49 b49b ⊢
        refine And.intro (fun c51 => ?_) (fun c51 => ?_)
        · refine hK 67 [some (vR 111 0), some (vI d), some (vI m), none, none, none, none, none, none] [] T1 ?_
          refine j_blx (F := fX11) tb_X11 (nn_ _) bk_X11_assign_67 bs_X11_assign_67 hz (fun K hK => ?_)
          refine rg_i (by omega) ?_
          refine hK 21 [some (vR 111 0), some (vI d), some (vI (m + 1)), none, none, none, none, none, none] [] T1 ?_
          refine ih_21 _ ?_ (m + 1) T1 (Nat.le_refl _) ?_ ?_
          · have hm_21 := hm_21 (); omega
          · exact fr_t (fr_0 _ _) (fr_s hf_21 rfl)
          · omega
        · refine hK 41 [some (vR 111 0), some (vI d), some (vI m), none, none, none, none, none, none] [vI m, vR 111 0] T1 ?_
          refine j_callV (y := yX11_isLeft) (Yc := zX11_isLeft) (rest := []) [vI m] (ct_X11_isLeft (T := T1) (by omega)) cl_X11_538 (qd_c (by decide +kernel)) (nn_ _) rfl (rf_of rfl) (Nat.le_of_ble_eq_true rfl) (Nat.le_of_ble_eq_true rfl) (Nat.le_of_ble_eq_true rfl) rfl ?_
          rintro _ _ ⟨rfl, x52, rfl, hx52⟩
          show J_ zX11_assign T (po_X11_assign T d) 0 0 44 _ [vI x52] T1
          refine j_blx (F := fX11) tb_X11 (nn_ _) bk_X11_assign_44 bs_X11_assign_44 hz (fun K hK => ?_)
          refine And.intro (fun c53 => ?_) (fun c53 => ?_)
          · replace hx52 := hx52.resolve_left (fun z => absurd (c53.symm.trans z.1) (by decide))
            clear c53
            refine hK 67 _ [] T1 ?_
            refine j_blx (F := fX11) tb_X11 (nn_ _) bk_X11_assign_67 bs_X11_assign_67 hz (fun K hK => ?_)
            refine rg_i (by omega) ?_
            refine hK 21 [some (vR 111 0), some (vI d), some (vI (m + 1)), none, none, none, none, none, none] [] T1 ?_
            refine ih_21 _ ?_ (m + 1) T1 (Nat.le_refl _) ?_ ?_
            · have hm_21 := hm_21 (); omega
            · exact fr_t (fr_0 _ _) (fr_s hf_21 rfl)
            · omega
          · replace hx52 := hx52.resolve_right (fun z => c53 z.1)
            clear c53
            intro b54 b54b
            refine iy_i (by omega) (by omega) ?_
            refine x_nm (fun U55 hU55 => ?_)
            have e56 := up_f hU55
            intro b57 b57b
            have e58 : U55 111 0 107 = T1 111 0 107 := up_k hU55 (by exact Nat.ne_of_beq_eq_false rfl) 0 107
            rw [e58] at b57 b57b ⊢
            refine rg_i (by omega) ?_
            refine bd_i (by omega) ?_
            refine x_nm (fun U59 hU59 => ?_)
            have e60 := up_f hU59
            refine rg_i (by omega) ?_
            refine hK 21 _ [] U59 ?_
            have e61 : U59 111 0 107 = (T1 111 0 107) + 1 := up_f hU59
            refine ih_21 _ ?_ (m + 1) U59 (Nat.le_refl _) ?_ ?_
            · have hm_21 := hm_21 (); omega
            · exact fr_u (fr_u (fr_t (fr_0 _ _) (fr_s hf_21 rfl)) hU55 rfl) hU59 rfl
            · omega
  refine j_blx (F := fX11) tb_X11 (nn_ _) bk_X11_assign_0 bs_X11_assign_0 hz (fun K hK => ?_)
  refine hK 5 _ [vI 999, vI 0, vI d] T ?_
  refine j_callS (y := yX11_in) (Yc := zX11_in) (rest := []) [vI d, vI 0, vI 999] (ct_X11_in (T := T)) cl_X11_255 (qd_c (by decide +kernel)) (nn_ _) rfl (rf_of rfl) (Nat.le_of_ble_eq_true rfl) (Nat.le_of_ble_eq_true rfl) (Nat.le_of_ble_eq_true rfl) rfl ?_
  rintro _ _ ⟨rfl, x62, rfl, hx62⟩
  show J_ zX11_assign T (po_X11_assign T d) 0 0 8 _ [vI x62] T
  refine j_blx (F := fX11) tb_X11 (nn_ _) bk_X11_assign_8 bs_X11_assign_8 hz (fun K hK => ?_)
  refine And.intro (fun c63 => ?_) (fun c63 => ?_)
  · replace hx62 := hx62.resolve_right (fun z => c63 z.1)
    clear c63
    refine hK 14 _ [] T ?_
    refine j_blx (F := fX11) tb_X11 (nn_ _) bk_X11_assign_14 bs_X11_assign_14 hz (fun K hK => ?_)
    refine bd_i (by omega) ?_
    refine x_nm (fun U64 hU64 => ?_)
    have e65 := up_f hU64
    refine hK 21 [some (vR 111 0), some (vI d), some (vI 0), none, none, none, none, none, none] [] U64 ?_
    have e66 : U64 111 0 107 = 0 := up_f hU64
    refine c_21 _ 0 U64 (Nat.le_refl _) ?_ ?_
    · exact fr_u (fr_0 _ _) hU64 rfl
    · omega
  · replace hx62 := hx62.resolve_left (fun z => absurd (c63.symm.trans z.1) (by decide))
    clear c63
    refine (show po_X11_assign T d T (some (vI (-3))) from ?_)
    exact ⟨_, rfl, fr_0 _ _, by rfl⟩
/-- matches of c are added; behind them nothing is changed -/
def am2_ (T T' : Zt) (c : Int) : Prop := T 111 0 29 ≤ T' 111 0 29 ∧ (∀ j, j < T 111 0 29 → T' 230 0 j = T 230 0 j ∧ T' 231 0 j = T 231 0 j ∧ T' 232 0 j = T 232 0 j ∧ T' 233 0 j = T 233 0 j ∧ T' 234 0 j = T 234 0 j ∧ T' 235 0 j = T 235 0 j ∧ T' 238 0 j = T 238 0 j ∧ T' 253 0 j = T 253 0 j ∧ T' 255 0 j = T 255 0 j) ∧ (∀ j, T 111 0 29 ≤ j → j < T' 111 0 29 → T' 230 0 j = c ∧ T' 235 0 j = 0 ∧ T' 253 0 j = -1 ∧ T' 255 0 j = -1) ∧ ∀ j, T' 111 0 29 ≤ j → T' 235 0 j = T 235 0 j
theorem am2_s {T T1 T2 : Zt} {c : Int} (h : am2_ T T1 c) (g : am1_ T1 T2 c) : am2_ T T2 c := by
  obtain ⟨h1, h2, h3, h4⟩ := h
  have k := am_s ⟨h1, h2, h3⟩ g
  refine ⟨k.1, k.2.1, k.2.2, fun j a => ?_⟩
  obtain ⟨g1, g2, -⟩ := g
  exact (g2 j (by omega)).2.2.2.2.2.1.trans (h4 j (by omega))
abbrev po_X11_competition_k (T : Zt) : Zt → Option Zv → Prop := fun T' r => ∃ x : Int, r = some (vI x) ∧ fr_ [(111, [1, 2, 6, 57, 58, 59, 60, 61, 62, 63]), (204, []), (269, []), (270, []), (205, [])] T T' ∧ ((x < 0 ∧ T' 111 0 6 = T 111 0 6 ∨ x = T 111 0 6 ∧ T' 111 0 6 = x + 1) ∧ RI_ T' ∧ RW_ T' ∧ ∀ j, j < 23 * T 111 0 6 → T' 205 0 j = T 205 0 j)
abbrev po_X11_plan_k (T : Zt) (c f : Int) : Zt → Option Zv → Prop := fun T' r => ∃ x : Int, r = some (vI x) ∧ fr_ [(230, []), (231, []), (232, []), (233, []), (234, []), (235, []), (238, []), (253, []), (255, []), (111, [29]), (209, []), (210, []), (211, [])] T T' ∧ ((x < 0 ∧ T = T') ∨ (0 ≤ c ∧ c < T 111 0 6 ∧ am2_ T T' c ∧ T' 111 0 29 ≤ 400 ∧ T' 210 0 c = T 111 0 29 ∧ T' 211 0 c = T' 111 0 29 - T 111 0 29 ∧ (∀ z, z ≠ c → T' 210 0 z = T 210 0 z ∧ T' 211 0 z = T 211 0 z ∧ T' 209 0 z = T 209 0 z)))
abbrev po_X11_lineUp_k (T : Zt) (p m sd : Int) : Zt → Option Zv → Prop := fun T' r => ∃ x : Int, r = some (vI x) ∧ fr_ [(239, []), (240, [])] T T' ∧ (SH_ T' ∧ ∀ z, T 239 0 z ≤ T' 239 0 z)
theorem rz_f {T T1 : Zt} (h : RZ_ T) (a : T1 111 0 29 = T 111 0 29) (b : ∀ j, T1 254 0 j = T 254 0 j) (c : ∀ j, T1 256 0 j = T 256 0 j) : RZ_ T1 := fun m p q => by rw [b, c]; exact h m (by omega) q
/-- what holds between the calls -/
def IR_ (T : Zt) : Prop := CW_ T ∧ RI_ T ∧ RW_ T ∧ EN_ T ∧ ML_ T ∧ MC_ T ∧ SH_ T ∧ FM_ T ∧ RX_ T [] ∧ RZ_ T ∧ ZS_ T ∧ GX_ T (-1)
theorem en_c {T T1 : Zt} (h : EN_ T) (a : ∀ j, T1 208 0 j = T 208 0 j) (b : ∀ j, T1 207 0 j = T 207 0 j) (c : T 111 0 12 ≤ T1 111 0 12) : EN_ T1 := fun k p q => by
  have y := h k p q
  refine ⟨fun j u v => ?_, fun i j u v w => ?_⟩
  · rw [a] at v
    rw [b]
    have := y.1 j u v
    omega
  · rw [a] at w
    rw [b, b]
    exact y.2 i j u v w
theorem mc_c {T T1 : Zt} (h : MC_ T) (a : ∀ j, T1 230 0 j = T 230 0 j) (b : T1 111 0 29 = T 111 0 29) (c : T 111 0 6 ≤ T1 111 0 6) : MC_ T1 := fun m p q => by
  rw [a]
  have := h m p (by omega)
  omega
theorem sh_c {T T1 : Zt} (h : SH_ T) (g : MC_ T) (nn : ∀ j, 0 ≤ j → 0 ≤ T 230 0 j) (a : ∀ j, T1 230 0 j = T 230 0 j) (b : T1 111 0 29 = T 111 0 29) (c : ∀ j, T1 239 0 j = T 239 0 j) (d : ∀ j, j < 23 * T 111 0 6 → T1 205 0 j = T 205 0 j) : SH_ T1 := fun m s p q u v => by
  have y := h m s p q u v
  rw [a, b, c]
  refine ⟨fun z => ?_, y.2⟩
  have k := g m p z
  rw [d _ (by omega)]
  exact y.1 z
theorem zs_l {T T1 : Zt} (h : ZS_ T) (a : ∀ j, T1 242 0 j = T 242 0 j) (c : ∀ j, T 239 0 j ≤ T1 239 0 j) : ZS_ T1 := fun j p q r => by
  rw [a]
  have := c (j / 10)
  exact h j p q (by omega)
theorem rz_o {T T1 : Zt} {m : Int} (h : RZ_ T) (a : T1 111 0 29 = T 111 0 29) (b : ∀ j, j ≠ m ∨ T 111 0 29 ≤ j → T1 254 0 j = T 254 0 j ∧ T1 256 0 j = T 256 0 j) : RZ_ T1 := fun k p q => by
  have y := b k (Or.inr (by omega))
  rw [y.1, y.2]
  exact h k (by omega) q
theorem ml_p {T T1 : Zt} {c : Int} (h : ML_ T) (le : T 111 0 29 ≤ T1 111 0 29) (a : T1 210 0 c = T 111 0 29) (b : T1 211 0 c = T1 111 0 29 - T 111 0 29) (d : ∀ z, z ≠ c → T1 210 0 z = T 210 0 z ∧ T1 211 0 z = T 211 0 z ∧ T1 209 0 z = T 209 0 z) : ML_ T1 := fun k p q => by
  by_cases z : k = c
  · rw [z, a, b]; omega
  · rw [(d k z).1, (d k z).2.1]
    have := h k p q
    omega
theorem mc_p {T T1 : Zt} {c : Int} (h : MC_ T) (hc : c < T 111 0 6) (a : am2_ T T1 c) (b : T1 111 0 6 = T 111 0 6) : MC_ T1 := fun m p q => by
  rw [b]
  by_cases z : m < T 111 0 29
  · rw [(a.2.1 m z).1]; exact h m p z
  · rw [(a.2.2.1 m (by omega) q).1]; exact hc
theorem sh_p {T T1 : Zt} {c : Int} (h : SH_ T) (g : RI_ T) (hc : 0 ≤ c ∧ c < T 111 0 6) (a : am2_ T T1 c) (b : ∀ j, T1 239 0 j = T 239 0 j) (d : ∀ j, T1 205 0 j = T 205 0 j) : SH_ T1 := fun m s p q u v => by
  have y := h m s p q u v
  have a1 := a.1
  rw [b, d]
  refine ⟨fun z => ?_, fun z => y.2 (by omega)⟩
  by_cases w : m < T 111 0 29
  · rw [(a.2.1 m w).1]; exact y.1 w
  · rw [(a.2.2.1 m (by omega) z).1, y.2 (by omega)]
    have k : (1 : Int) ≤ T 205 0 (23 * c + 9) ∧ T 205 0 (23 * c + 9) ≤ (6 : Int) := g c 9 hc.1 hc.2 (by decide) (by decide)
    omega
theorem fm_p {T T1 : Zt} {c : Int} (h : FM_ T) (a : am2_ T T1 c) (b : ∀ j, T1 244 0 j = T 244 0 j) : FM_ T1 := fun m s p q u v w => by
  rw [b]
  by_cases z : m < T 111 0 29
  · rw [(a.2.1 m z).2.2.2.2.2.1] at w; exact h m s p q u v w
  · by_cases y : m < T1 111 0 29
    · rw [(a.2.2.1 m (by omega) y).2.1] at w; omega
    · rw [a.2.2.2 m (by omega)] at w; exact h m s p q u v w
theorem ir_sign {T T' : Zt} {c : Int} {r : Option Zv} (h : IR_ T) (p : po_X11_sign T c T' r) : IR_ T' := by
  obtain ⟨x, rfl, f, q⟩ := p
  exact ⟨CW_f h.1 f ⟨fun _ => rfl, fun _ => rfl, fun _ => rfl, fun _ => rfl, fun _ => rfl⟩, RI__f h.2.1 f ⟨fun _ => rfl, rfl, trivial⟩, RW__f h.2.2.1 f ⟨fun _ => rfl, rfl, trivial⟩, EN__f h.2.2.2.1 f ⟨fun _ => rfl, fun _ => rfl, rfl, trivial⟩, ML__f h.2.2.2.2.1 f ⟨fun _ => rfl, fun _ => rfl, rfl, trivial⟩, MC__f h.2.2.2.2.2.1 f ⟨fun _ => rfl, rfl, rfl, trivial⟩, SH__f h.2.2.2.2.2.2.1 f ⟨fun _ => rfl, fun _ => rfl, fun _ => rfl, rfl, trivial⟩, FM__f h.2.2.2.2.2.2.2.1 f ⟨fun _ => rfl, fun _ => rfl, trivial⟩, rx_f h.2.2.2.2.2.2.2.2.1 (f 111 0 29 rfl) (f 111 0 47 rfl) (fun k j h => f k 0 j (by rcases h with rfl | rfl | rfl | rfl | rfl <;> rfl)), rz_f h.2.2.2.2.2.2.2.2.2.1 (f 111 0 29 rfl) (fun j => f 254 0 j rfl) (fun j => f 256 0 j rfl), ZS__f h.2.2.2.2.2.2.2.2.2.2.1 f ⟨fun _ => rfl, fun _ => rfl, trivial⟩, gx_f (x := -1) (y := -1) h.2.2.2.2.2.2.2.2.2.2.2 f ⟨fun _ => rfl, fun _ => rfl, fun _ => rfl⟩ (fun j _ => f 254 0 j rfl) (Or.inl rfl)⟩
theorem ir_wipe {T T' : Zt} {r : Option Zv} (h : IR_ T) (p : po_X11_wipe T  T' r) : IR_ T' := by
  obtain ⟨x, rfl, f, q⟩ := p
  exact ⟨CW_f h.1 f ⟨fun _ => rfl, fun _ => rfl, fun _ => rfl, fun _ => rfl, fun _ => rfl⟩, RI__f h.2.1 f ⟨fun _ => rfl, rfl, trivial⟩, RW__f h.2.2.1 f ⟨fun _ => rfl, rfl, trivial⟩, EN__f h.2.2.2.1 f ⟨fun _ => rfl, fun _ => rfl, rfl, trivial⟩, ML__f h.2.2.2.2.1 f ⟨fun _ => rfl, fun _ => rfl, rfl, trivial⟩, MC__f h.2.2.2.2.2.1 f ⟨fun _ => rfl, rfl, rfl, trivial⟩, SH__f h.2.2.2.2.2.2.1 f ⟨fun _ => rfl, fun _ => rfl, fun _ => rfl, rfl, trivial⟩, FM__f h.2.2.2.2.2.2.2.1 f ⟨fun _ => rfl, fun _ => rfl, trivial⟩, rx_f h.2.2.2.2.2.2.2.2.1 (f 111 0 29 rfl) (f 111 0 47 rfl) (fun k j h => f k 0 j (by rcases h with rfl | rfl | rfl | rfl | rfl <;> rfl)), rz_f h.2.2.2.2.2.2.2.2.2.1 (f 111 0 29 rfl) (fun j => f 254 0 j rfl) (fun j => f 256 0 j rfl), ZS__f h.2.2.2.2.2.2.2.2.2.2.1 f ⟨fun _ => rfl, fun _ => rfl, trivial⟩, gx_f (x := -1) (y := -1) h.2.2.2.2.2.2.2.2.2.2.2 f ⟨fun _ => rfl, fun _ => rfl, fun _ => rfl⟩ (fun j _ => f 254 0 j rfl) (Or.inl rfl)⟩
theorem ir_competition {T T' : Zt} {r : Option Zv} (hT : ok_T T) (h : IR_ T) (p : po_X11_competition_k T  T' r) : IR_ T' := by
  obtain ⟨x, rfl, f, q⟩ := p
  exact ⟨CW_f h.1 f ⟨fun _ => rfl, fun _ => rfl, fun _ => rfl, fun _ => rfl, fun _ => rfl⟩, q.2.1, q.2.2.1, EN__f h.2.2.2.1 f ⟨fun _ => rfl, fun _ => rfl, rfl, trivial⟩, ML__f h.2.2.2.2.1 f ⟨fun _ => rfl, fun _ => rfl, rfl, trivial⟩, mc_c h.2.2.2.2.2.1 (fun j => f 230 0 j rfl) (f 111 0 29 rfl) (by omega), sh_c h.2.2.2.2.2.2.1 h.2.2.2.2.2.1 (fun j hj => (bd_a hT 230 (by decide +kernel : ta_ 230 = some (1, some 400, 0, 3)) 0 hj).1) (fun j => f 230 0 j rfl) (f 111 0 29 rfl) (fun j => f 239 0 j rfl) q.2.2.2, FM__f h.2.2.2.2.2.2.2.1 f ⟨fun _ => rfl, fun _ => rfl, trivial⟩, rx_f h.2.2.2.2.2.2.2.2.1 (f 111 0 29 rfl) (f 111 0 47 rfl) (fun k j h => f k 0 j (by rcases h with rfl | rfl | rfl | rfl | rfl <;> rfl)), rz_f h.2.2.2.2.2.2.2.2.2.1 (f 111 0 29 rfl) (fun j => f 254 0 j rfl) (fun j => f 256 0 j rfl), ZS__f h.2.2.2.2.2.2.2.2.2.2.1 f ⟨fun _ => rfl, fun _ => rfl, trivial⟩, gx_f (x := -1) (y := -1) h.2.2.2.2.2.2.2.2.2.2.2 f ⟨fun _ => rfl, fun _ => rfl, fun _ => rfl⟩ (fun j _ => f 254 0 j rfl) (Or.inl rfl)⟩
theorem ir_club {T T' : Zt} {s c : Int} {r : Option Zv} (h : IR_ T) (p : po_X11_club T s c T' r) : IR_ T' := by
  obtain ⟨x, rfl, f, q⟩ := p
  exact ⟨CW_f h.1 f ⟨fun _ => rfl, fun _ => rfl, fun _ => rfl, fun _ => rfl, fun _ => rfl⟩, RI__f h.2.1 f ⟨fun _ => rfl, rfl, trivial⟩, RW__f h.2.2.1 f ⟨fun _ => rfl, rfl, trivial⟩, en_c h.2.2.2.1 (fun j => f 208 0 j rfl) (fun j => f 207 0 j rfl) (by omega), ML__f h.2.2.2.2.1 f ⟨fun _ => rfl, fun _ => rfl, rfl, trivial⟩, MC__f h.2.2.2.2.2.1 f ⟨fun _ => rfl, rfl, rfl, trivial⟩, SH__f h.2.2.2.2.2.2.1 f ⟨fun _ => rfl, fun _ => rfl, fun _ => rfl, rfl, trivial⟩, FM__f h.2.2.2.2.2.2.2.1 f ⟨fun _ => rfl, fun _ => rfl, trivial⟩, rx_f h.2.2.2.2.2.2.2.2.1 (f 111 0 29 rfl) (f 111 0 47 rfl) (fun k j h => f k 0 j (by rcases h with rfl | rfl | rfl | rfl | rfl <;> rfl)), rz_f h.2.2.2.2.2.2.2.2.2.1 (f 111 0 29 rfl) (fun j => f 254 0 j rfl) (fun j => f 256 0 j rfl), ZS__f h.2.2.2.2.2.2.2.2.2.2.1 f ⟨fun _ => rfl, fun _ => rfl, trivial⟩, gx_f (x := -1) (y := -1) h.2.2.2.2.2.2.2.2.2.2.2 f ⟨fun _ => rfl, fun _ => rfl, fun _ => rfl⟩ (fun j _ => f 254 0 j rfl) (Or.inl rfl)⟩
theorem ir_person {T T' : Zt} {r : Option Zv} (h : IR_ T) (p : po_X11_person T  T' r) : IR_ T' := by
  obtain ⟨x, rfl, f, q⟩ := p
  exact ⟨CW_f h.1 f ⟨fun _ => rfl, fun _ => rfl, fun _ => rfl, fun _ => rfl, fun _ => rfl⟩, RI__f h.2.1 f ⟨fun _ => rfl, rfl, trivial⟩, RW__f h.2.2.1 f ⟨fun _ => rfl, rfl, trivial⟩, EN__f h.2.2.2.1 f ⟨fun _ => rfl, fun _ => rfl, rfl, trivial⟩, ML__f h.2.2.2.2.1 f ⟨fun _ => rfl, fun _ => rfl, rfl, trivial⟩, MC__f h.2.2.2.2.2.1 f ⟨fun _ => rfl, rfl, rfl, trivial⟩, SH__f h.2.2.2.2.2.2.1 f ⟨fun _ => rfl, fun _ => rfl, fun _ => rfl, rfl, trivial⟩, FM__f h.2.2.2.2.2.2.2.1 f ⟨fun _ => rfl, fun _ => rfl, trivial⟩, rx_f h.2.2.2.2.2.2.2.2.1 (f 111 0 29 rfl) (f 111 0 47 rfl) (fun k j h => f k 0 j (by rcases h with rfl | rfl | rfl | rfl | rfl <;> rfl)), rz_f h.2.2.2.2.2.2.2.2.2.1 (f 111 0 29 rfl) (fun j => f 254 0 j rfl) (fun j => f 256 0 j rfl), ZS__f h.2.2.2.2.2.2.2.2.2.2.1 f ⟨fun _ => rfl, fun _ => rfl, trivial⟩, gx_f (x := -1) (y := -1) h.2.2.2.2.2.2.2.2.2.2.2 f ⟨fun _ => rfl, fun _ => rfl, fun _ => rfl⟩ (fun j _ => f 254 0 j rfl) (Or.inl rfl)⟩
theorem ir_register {T T' : Zt} {p cl fr to : Int} {r : Option Zv} (h : IR_ T) (p : po_X11_register T p cl fr to T' r) : IR_ T' := by
  obtain ⟨x, rfl, f, q⟩ := p
  exact ⟨CW_f h.1 f ⟨fun _ => rfl, fun _ => rfl, fun _ => rfl, fun _ => rfl, fun _ => rfl⟩, RI__f h.2.1 f ⟨fun _ => rfl, rfl, trivial⟩, RW__f h.2.2.1 f ⟨fun _ => rfl, rfl, trivial⟩, EN__f h.2.2.2.1 f ⟨fun _ => rfl, fun _ => rfl, rfl, trivial⟩, ML__f h.2.2.2.2.1 f ⟨fun _ => rfl, fun _ => rfl, rfl, trivial⟩, MC__f h.2.2.2.2.2.1 f ⟨fun _ => rfl, rfl, rfl, trivial⟩, SH__f h.2.2.2.2.2.2.1 f ⟨fun _ => rfl, fun _ => rfl, fun _ => rfl, rfl, trivial⟩, FM__f h.2.2.2.2.2.2.2.1 f ⟨fun _ => rfl, fun _ => rfl, trivial⟩, rx_f h.2.2.2.2.2.2.2.2.1 (f 111 0 29 rfl) (f 111 0 47 rfl) (fun k j h => f k 0 j (by rcases h with rfl | rfl | rfl | rfl | rfl <;> rfl)), rz_f h.2.2.2.2.2.2.2.2.2.1 (f 111 0 29 rfl) (fun j => f 254 0 j rfl) (fun j => f 256 0 j rfl), ZS__f h.2.2.2.2.2.2.2.2.2.2.1 f ⟨fun _ => rfl, fun _ => rfl, trivial⟩, gx_f (x := -1) (y := -1) h.2.2.2.2.2.2.2.2.2.2.2 f ⟨fun _ => rfl, fun _ => rfl, fun _ => rfl⟩ (fun j _ => f 254 0 j rfl) (Or.inl rfl)⟩
theorem ir_official {T T' : Zt} {s c : Int} {r : Option Zv} (h : IR_ T) (p : po_X11_official T s c T' r) : IR_ T' := by
  obtain ⟨x, rfl, f, q⟩ := p
  exact ⟨CW_f h.1 f ⟨fun _ => rfl, fun _ => rfl, fun _ => rfl, fun _ => rfl, fun _ => rfl⟩, RI__f h.2.1 f ⟨fun _ => rfl, rfl, trivial⟩, RW__f h.2.2.1 f ⟨fun _ => rfl, rfl, trivial⟩, EN__f h.2.2.2.1 f ⟨fun _ => rfl, fun _ => rfl, rfl, trivial⟩, ML__f h.2.2.2.2.1 f ⟨fun _ => rfl, fun _ => rfl, rfl, trivial⟩, MC__f h.2.2.2.2.2.1 f ⟨fun _ => rfl, rfl, rfl, trivial⟩, SH__f h.2.2.2.2.2.2.1 f ⟨fun _ => rfl, fun _ => rfl, fun _ => rfl, rfl, trivial⟩, FM__f h.2.2.2.2.2.2.2.1 f ⟨fun _ => rfl, fun _ => rfl, trivial⟩, rx_f h.2.2.2.2.2.2.2.2.1 (f 111 0 29 rfl) (f 111 0 47 rfl) (fun k j h => f k 0 j (by rcases h with rfl | rfl | rfl | rfl | rfl <;> rfl)), rz_f h.2.2.2.2.2.2.2.2.2.1 (f 111 0 29 rfl) (fun j => f 254 0 j rfl) (fun j => f 256 0 j rfl), ZS__f h.2.2.2.2.2.2.2.2.2.2.1 f ⟨fun _ => rfl, fun _ => rfl, trivial⟩, gx_f (x := -1) (y := -1) h.2.2.2.2.2.2.2.2.2.2.2 f ⟨fun _ => rfl, fun _ => rfl, fun _ => rfl⟩ (fun j _ => f 254 0 j rfl) (Or.inl rfl)⟩
theorem ir_day {T T' : Zt} {d : Int} {r : Option Zv} (h : IR_ T) (p : po_X11_day T d T' r) : IR_ T' := by
  obtain ⟨x, rfl, f, q⟩ := p
  exact ⟨CW_f h.1 f ⟨fun _ => rfl, fun _ => rfl, fun _ => rfl, fun _ => rfl, fun _ => rfl⟩, RI__f h.2.1 f ⟨fun _ => rfl, rfl, trivial⟩, RW__f h.2.2.1 f ⟨fun _ => rfl, rfl, trivial⟩, EN__f h.2.2.2.1 f ⟨fun _ => rfl, fun _ => rfl, rfl, trivial⟩, ML__f h.2.2.2.2.1 f ⟨fun _ => rfl, fun _ => rfl, rfl, trivial⟩, MC__f h.2.2.2.2.2.1 f ⟨fun _ => rfl, rfl, rfl, trivial⟩, SH__f h.2.2.2.2.2.2.1 f ⟨fun _ => rfl, fun _ => rfl, fun _ => rfl, rfl, trivial⟩, FM__f h.2.2.2.2.2.2.2.1 f ⟨fun _ => rfl, fun _ => rfl, trivial⟩, rx_f h.2.2.2.2.2.2.2.2.1 (f 111 0 29 rfl) (f 111 0 47 rfl) (fun k j h => f k 0 j (by rcases h with rfl | rfl | rfl | rfl | rfl <;> rfl)), rz_f h.2.2.2.2.2.2.2.2.2.1 (f 111 0 29 rfl) (fun j => f 254 0 j rfl) (fun j => f 256 0 j rfl), ZS__f h.2.2.2.2.2.2.2.2.2.2.1 f ⟨fun _ => rfl, fun _ => rfl, trivial⟩, gx_f (x := -1) (y := -1) h.2.2.2.2.2.2.2.2.2.2.2 f ⟨fun _ => rfl, fun _ => rfl, fun _ => rfl⟩ (fun j _ => f 254 0 j rfl) (Or.inl rfl)⟩
theorem ir_enter {T T' : Zt} {c cl : Int} {r : Option Zv} (h : IR_ T) (p : po_X11_enter T c cl T' r) : IR_ T' := by
  obtain ⟨x, rfl, f, q⟩ := p
  exact ⟨CW_f h.1 f ⟨fun _ => rfl, fun _ => rfl, fun _ => rfl, fun _ => rfl, fun _ => rfl⟩, RI__f h.2.1 f ⟨fun _ => rfl, rfl, trivial⟩, RW__f h.2.2.1 f ⟨fun _ => rfl, rfl, trivial⟩, q, ML__f h.2.2.2.2.1 f ⟨fun _ => rfl, fun _ => rfl, rfl, trivial⟩, MC__f h.2.2.2.2.2.1 f ⟨fun _ => rfl, rfl, rfl, trivial⟩, SH__f h.2.2.2.2.2.2.1 f ⟨fun _ => rfl, fun _ => rfl, fun _ => rfl, rfl, trivial⟩, FM__f h.2.2.2.2.2.2.2.1 f ⟨fun _ => rfl, fun _ => rfl, trivial⟩, rx_f h.2.2.2.2.2.2.2.2.1 (f 111 0 29 rfl) (f 111 0 47 rfl) (fun k j h => f k 0 j (by rcases h with rfl | rfl | rfl | rfl | rfl <;> rfl)), rz_f h.2.2.2.2.2.2.2.2.2.1 (f 111 0 29 rfl) (fun j => f 254 0 j rfl) (fun j => f 256 0 j rfl), ZS__f h.2.2.2.2.2.2.2.2.2.2.1 f ⟨fun _ => rfl, fun _ => rfl, trivial⟩, gx_f (x := -1) (y := -1) h.2.2.2.2.2.2.2.2.2.2.2 f ⟨fun _ => rfl, fun _ => rfl, fun _ => rfl⟩ (fun j _ => f 254 0 j rfl) (Or.inl rfl)⟩
theorem ir_postpone {T T' : Zt} {m d : Int} {r : Option Zv} (h : IR_ T) (p : po_X11_postpone T m d T' r) : IR_ T' := by
  obtain ⟨x, rfl, f, q⟩ := p
  exact ⟨CW_f h.1 f ⟨fun _ => rfl, fun _ => rfl, fun _ => rfl, fun _ => rfl, fun _ => rfl⟩, RI__f h.2.1 f ⟨fun _ => rfl, rfl, trivial⟩, RW__f h.2.2.1 f ⟨fun _ => rfl, rfl, trivial⟩, EN__f h.2.2.2.1 f ⟨fun _ => rfl, fun _ => rfl, rfl, trivial⟩, ML__f h.2.2.2.2.1 f ⟨fun _ => rfl, fun _ => rfl, rfl, trivial⟩, MC__f h.2.2.2.2.2.1 f ⟨fun _ => rfl, rfl, rfl, trivial⟩, SH__f h.2.2.2.2.2.2.1 f ⟨fun _ => rfl, fun _ => rfl, fun _ => rfl, rfl, trivial⟩, FM__f h.2.2.2.2.2.2.2.1 f ⟨fun _ => rfl, fun _ => rfl, trivial⟩, rx_f h.2.2.2.2.2.2.2.2.1 (f 111 0 29 rfl) (f 111 0 47 rfl) (fun k j h => f k 0 j (by rcases h with rfl | rfl | rfl | rfl | rfl <;> rfl)), rz_f h.2.2.2.2.2.2.2.2.2.1 (f 111 0 29 rfl) (fun j => f 254 0 j rfl) (fun j => f 256 0 j rfl), ZS__f h.2.2.2.2.2.2.2.2.2.2.1 f ⟨fun _ => rfl, fun _ => rfl, trivial⟩, gx_f (x := -1) (y := -1) h.2.2.2.2.2.2.2.2.2.2.2 f ⟨fun _ => rfl, fun _ => rfl, fun _ => rfl⟩ (fun j _ => f 254 0 j rfl) (Or.inl rfl)⟩
theorem ir_deduct {T T' : Zt} {c cl p : Int} {r : Option Zv} (h : IR_ T) (p : po_X11_deduct T c cl p T' r) : IR_ T' := by
  obtain ⟨x, rfl, f, q⟩ := p
  exact ⟨CW_f h.1 f ⟨fun _ => rfl, fun _ => rfl, fun _ => rfl, fun _ => rfl, fun _ => rfl⟩, RI__f h.2.1 f ⟨fun _ => rfl, rfl, trivial⟩, RW__f h.2.2.1 f ⟨fun _ => rfl, rfl, trivial⟩, EN__f h.2.2.2.1 f ⟨fun _ => rfl, fun _ => rfl, rfl, trivial⟩, ML__f h.2.2.2.2.1 f ⟨fun _ => rfl, fun _ => rfl, rfl, trivial⟩, MC__f h.2.2.2.2.2.1 f ⟨fun _ => rfl, rfl, rfl, trivial⟩, SH__f h.2.2.2.2.2.2.1 f ⟨fun _ => rfl, fun _ => rfl, fun _ => rfl, rfl, trivial⟩, FM__f h.2.2.2.2.2.2.2.1 f ⟨fun _ => rfl, fun _ => rfl, trivial⟩, rx_f h.2.2.2.2.2.2.2.2.1 (f 111 0 29 rfl) (f 111 0 47 rfl) (fun k j h => f k 0 j (by rcases h with rfl | rfl | rfl | rfl | rfl <;> rfl)), rz_f h.2.2.2.2.2.2.2.2.2.1 (f 111 0 29 rfl) (fun j => f 254 0 j rfl) (fun j => f 256 0 j rfl), ZS__f h.2.2.2.2.2.2.2.2.2.2.1 f ⟨fun _ => rfl, fun _ => rfl, trivial⟩, gx_f (x := -1) (y := -1) h.2.2.2.2.2.2.2.2.2.2.2 f ⟨fun _ => rfl, fun _ => rfl, fun _ => rfl⟩ (fun j _ => f 254 0 j rfl) (Or.inl rfl)⟩
theorem ir_lineUp {T T' : Zt} {p m sd : Int} {r : Option Zv} (h : IR_ T) (p : po_X11_lineUp_k T p m sd T' r) : IR_ T' := by
  obtain ⟨x, rfl, f, q⟩ := p
  exact ⟨CW_f h.1 f ⟨fun _ => rfl, fun _ => rfl, fun _ => rfl, fun _ => rfl, fun _ => rfl⟩, RI__f h.2.1 f ⟨fun _ => rfl, rfl, trivial⟩, RW__f h.2.2.1 f ⟨fun _ => rfl, rfl, trivial⟩, EN__f h.2.2.2.1 f ⟨fun _ => rfl, fun _ => rfl, rfl, trivial⟩, ML__f h.2.2.2.2.1 f ⟨fun _ => rfl, fun _ => rfl, rfl, trivial⟩, MC__f h.2.2.2.2.2.1 f ⟨fun _ => rfl, rfl, rfl, trivial⟩, q.1, FM__f h.2.2.2.2.2.2.2.1 f ⟨fun _ => rfl, fun _ => rfl, trivial⟩, rx_f h.2.2.2.2.2.2.2.2.1 (f 111 0 29 rfl) (f 111 0 47 rfl) (fun k j h => f k 0 j (by rcases h with rfl | rfl | rfl | rfl | rfl <;> rfl)), rz_f h.2.2.2.2.2.2.2.2.2.1 (f 111 0 29 rfl) (fun j => f 254 0 j rfl) (fun j => f 256 0 j rfl), zs_l h.2.2.2.2.2.2.2.2.2.2.1 (fun j => f 242 0 j rfl) q.2, gx_f (x := -1) (y := -1) h.2.2.2.2.2.2.2.2.2.2.2 f ⟨fun _ => rfl, fun _ => rfl, fun _ => rfl⟩ (fun j _ => f 254 0 j rfl) (Or.inl rfl)⟩
theorem ir_start {T T' : Zt} {m : Int} {r : Option Zv} (h : IR_ T) (p : po_X11_start T m T' r) : IR_ T' := by
  obtain ⟨x, rfl, f, q⟩ := p
  exact ⟨CW_f h.1 f ⟨fun _ => rfl, fun _ => rfl, fun _ => rfl, fun _ => rfl, fun _ => rfl⟩, RI__f h.2.1 f ⟨fun _ => rfl, rfl, trivial⟩, RW__f h.2.2.1 f ⟨fun _ => rfl, rfl, trivial⟩, EN__f h.2.2.2.1 f ⟨fun _ => rfl, fun _ => rfl, rfl, trivial⟩, ML__f h.2.2.2.2.1 f ⟨fun _ => rfl, fun _ => rfl, rfl, trivial⟩, MC__f h.2.2.2.2.2.1 f ⟨fun _ => rfl, rfl, rfl, trivial⟩, SH__f h.2.2.2.2.2.2.1 f ⟨fun _ => rfl, fun _ => rfl, fun _ => rfl, rfl, trivial⟩, q.1, rx_f h.2.2.2.2.2.2.2.2.1 (f 111 0 29 rfl) (f 111 0 47 rfl) (fun k j h => f k 0 j (by rcases h with rfl | rfl | rfl | rfl | rfl <;> rfl)), rz_f h.2.2.2.2.2.2.2.2.2.1 (f 111 0 29 rfl) (fun j => f 254 0 j rfl) (fun j => f 256 0 j rfl), q.2.1, q.2.2⟩
theorem ir_walkOver {T T' : Zt} {m s : Int} {r : Option Zv} (h : IR_ T) (p : po_X11_walkOver T m s T' r) : IR_ T' := by
  obtain ⟨x, rfl, f, q⟩ := p
  exact ⟨CW_f h.1 f ⟨fun _ => rfl, fun _ => rfl, fun _ => rfl, fun _ => rfl, fun _ => rfl⟩, RI__f h.2.1 f ⟨fun _ => rfl, rfl, trivial⟩, RW__f h.2.2.1 f ⟨fun _ => rfl, rfl, trivial⟩, EN__f h.2.2.2.1 f ⟨fun _ => rfl, fun _ => rfl, rfl, trivial⟩, ML__f h.2.2.2.2.1 f ⟨fun _ => rfl, fun _ => rfl, rfl, trivial⟩, MC__f h.2.2.2.2.2.1 f ⟨fun _ => rfl, rfl, rfl, trivial⟩, SH__f h.2.2.2.2.2.2.1 f ⟨fun _ => rfl, fun _ => rfl, fun _ => rfl, rfl, trivial⟩, q.1, rx_f h.2.2.2.2.2.2.2.2.1 (f 111 0 29 rfl) (f 111 0 47 rfl) (fun k j h => f k 0 j (by rcases h with rfl | rfl | rfl | rfl | rfl <;> rfl)), rz_f h.2.2.2.2.2.2.2.2.2.1 (f 111 0 29 rfl) (fun j => f 254 0 j rfl) (fun j => f 256 0 j rfl), q.2.1, q.2.2⟩
theorem ir_event {T T' : Zt} {m k s p q9 : Int} {r : Option Zv} (h : IR_ T) (p : po_X11_event T m k s p q9 T' r) : IR_ T' := by
  obtain ⟨x, rfl, f, q⟩ := p
  exact ⟨CW_f h.1 f ⟨fun _ => rfl, fun _ => rfl, fun _ => rfl, fun _ => rfl, fun _ => rfl⟩, RI__f h.2.1 f ⟨fun _ => rfl, rfl, trivial⟩, RW__f h.2.2.1 f ⟨fun _ => rfl, rfl, trivial⟩, EN__f h.2.2.2.1 f ⟨fun _ => rfl, fun _ => rfl, rfl, trivial⟩, ML__f h.2.2.2.2.1 f ⟨fun _ => rfl, fun _ => rfl, rfl, trivial⟩, MC__f h.2.2.2.2.2.1 f ⟨fun _ => rfl, rfl, rfl, trivial⟩, SH__f h.2.2.2.2.2.2.1 f ⟨fun _ => rfl, fun _ => rfl, fun _ => rfl, rfl, trivial⟩, q.1, q.2.1, rz_o h.2.2.2.2.2.2.2.2.2.1 (f 111 0 29 rfl) q.2.2.2.2, q.2.2.1, q.2.2.2.1⟩
theorem ir_review {T T' : Zt} {m i k s p q9 : Int} {r : Option Zv} (h : IR_ T) (p : po_X11_review T m i k s p q9 T' r) : IR_ T' := by
  obtain ⟨x, rfl, f, q⟩ := p
  exact ⟨CW_f h.1 f ⟨fun _ => rfl, fun _ => rfl, fun _ => rfl, fun _ => rfl, fun _ => rfl⟩, RI__f h.2.1 f ⟨fun _ => rfl, rfl, trivial⟩, RW__f h.2.2.1 f ⟨fun _ => rfl, rfl, trivial⟩, EN__f h.2.2.2.1 f ⟨fun _ => rfl, fun _ => rfl, rfl, trivial⟩, ML__f h.2.2.2.2.1 f ⟨fun _ => rfl, fun _ => rfl, rfl, trivial⟩, MC__f h.2.2.2.2.2.1 f ⟨fun _ => rfl, rfl, rfl, trivial⟩, SH__f h.2.2.2.2.2.2.1 f ⟨fun _ => rfl, fun _ => rfl, fun _ => rfl, rfl, trivial⟩, q.1, q.2.1, rz_o h.2.2.2.2.2.2.2.2.2.1 (f 111 0 29 rfl) q.2.2.2.2, q.2.2.1, q.2.2.2.1⟩
theorem ir_table {T T' : Zt} {c d cl w : Int} {r : Option Zv} (h : IR_ T) (p : po_X11_table T c d cl w T' r) : IR_ T' := by
  obtain ⟨x, rfl, f, q⟩ := p
  exact ⟨CW_f h.1 f ⟨fun _ => rfl, fun _ => rfl, fun _ => rfl, fun _ => rfl, fun _ => rfl⟩, RI__f h.2.1 f ⟨fun _ => rfl, rfl, trivial⟩, RW__f h.2.2.1 f ⟨fun _ => rfl, rfl, trivial⟩, EN__f h.2.2.2.1 f ⟨fun _ => rfl, fun _ => rfl, rfl, trivial⟩, ML__f h.2.2.2.2.1 f ⟨fun _ => rfl, fun _ => rfl, rfl, trivial⟩, MC__f h.2.2.2.2.2.1 f ⟨fun _ => rfl, rfl, rfl, trivial⟩, SH__f h.2.2.2.2.2.2.1 f ⟨fun _ => rfl, fun _ => rfl, fun _ => rfl, rfl, trivial⟩, FM__f h.2.2.2.2.2.2.2.1 f ⟨fun _ => rfl, fun _ => rfl, trivial⟩, rx_f h.2.2.2.2.2.2.2.2.1 (f 111 0 29 rfl) (f 111 0 47 rfl) (fun k j h => f k 0 j (by rcases h with rfl | rfl | rfl | rfl | rfl <;> rfl)), rz_f h.2.2.2.2.2.2.2.2.2.1 (f 111 0 29 rfl) (fun j => f 254 0 j rfl) (fun j => f 256 0 j rfl), ZS__f h.2.2.2.2.2.2.2.2.2.2.1 f ⟨fun _ => rfl, fun _ => rfl, trivial⟩, gx_f (x := -1) (y := -1) h.2.2.2.2.2.2.2.2.2.2.2 f ⟨fun _ => rfl, fun _ => rfl, fun _ => rfl⟩ (fun j _ => f 254 0 j rfl) (Or.inl rfl)⟩
theorem ir_standing {T T' : Zt} {c d k : Int} {r : Option Zv} (h : IR_ T) (p : po_X11_standing T c d k T' r) : IR_ T' := by
  obtain ⟨x, rfl, f, q⟩ := p
  exact ⟨CW_f h.1 f ⟨fun _ => rfl, fun _ => rfl, fun _ => rfl, fun _ => rfl, fun _ => rfl⟩, RI__f h.2.1 f ⟨fun _ => rfl, rfl, trivial⟩, RW__f h.2.2.1 f ⟨fun _ => rfl, rfl, trivial⟩, EN__f h.2.2.2.1 f ⟨fun _ => rfl, fun _ => rfl, rfl, trivial⟩, ML__f h.2.2.2.2.1 f ⟨fun _ => rfl, fun _ => rfl, rfl, trivial⟩, MC__f h.2.2.2.2.2.1 f ⟨fun _ => rfl, rfl, rfl, trivial⟩, SH__f h.2.2.2.2.2.2.1 f ⟨fun _ => rfl, fun _ => rfl, fun _ => rfl, rfl, trivial⟩, FM__f h.2.2.2.2.2.2.2.1 f ⟨fun _ => rfl, fun _ => rfl, trivial⟩, rx_f h.2.2.2.2.2.2.2.2.1 (f 111 0 29 rfl) (f 111 0 47 rfl) (fun k j h => f k 0 j (by rcases h with rfl | rfl | rfl | rfl | rfl <;> rfl)), rz_f h.2.2.2.2.2.2.2.2.2.1 (f 111 0 29 rfl) (fun j => f 254 0 j rfl) (fun j => f 256 0 j rfl), ZS__f h.2.2.2.2.2.2.2.2.2.2.1 f ⟨fun _ => rfl, fun _ => rfl, trivial⟩, gx_f (x := -1) (y := -1) h.2.2.2.2.2.2.2.2.2.2.2 f ⟨fun _ => rfl, fun _ => rfl, fun _ => rfl⟩ (fun j _ => f 254 0 j rfl) (Or.inl rfl)⟩
theorem ir_parted {T T' : Zt} {c d k : Int} {r : Option Zv} (h : IR_ T) (p : po_X11_parted T c d k T' r) : IR_ T' := by
  obtain ⟨x, rfl, f, q⟩ := p
  exact ⟨CW_f h.1 f ⟨fun _ => rfl, fun _ => rfl, fun _ => rfl, fun _ => rfl, fun _ => rfl⟩, RI__f h.2.1 f ⟨fun _ => rfl, rfl, trivial⟩, RW__f h.2.2.1 f ⟨fun _ => rfl, rfl, trivial⟩, EN__f h.2.2.2.1 f ⟨fun _ => rfl, fun _ => rfl, rfl, trivial⟩, ML__f h.2.2.2.2.1 f ⟨fun _ => rfl, fun _ => rfl, rfl, trivial⟩, MC__f h.2.2.2.2.2.1 f ⟨fun _ => rfl, rfl, rfl, trivial⟩, SH__f h.2.2.2.2.2.2.1 f ⟨fun _ => rfl, fun _ => rfl, fun _ => rfl, rfl, trivial⟩, FM__f h.2.2.2.2.2.2.2.1 f ⟨fun _ => rfl, fun _ => rfl, trivial⟩, rx_f h.2.2.2.2.2.2.2.2.1 (f 111 0 29 rfl) (f 111 0 47 rfl) (fun k j h => f k 0 j (by rcases h with rfl | rfl | rfl | rfl | rfl <;> rfl)), rz_f h.2.2.2.2.2.2.2.2.2.1 (f 111 0 29 rfl) (fun j => f 254 0 j rfl) (fun j => f 256 0 j rfl), ZS__f h.2.2.2.2.2.2.2.2.2.2.1 f ⟨fun _ => rfl, fun _ => rfl, trivial⟩, gx_f (x := -1) (y := -1) h.2.2.2.2.2.2.2.2.2.2.2 f ⟨fun _ => rfl, fun _ => rfl, fun _ => rfl⟩ (fun j _ => f 254 0 j rfl) (Or.inl rfl)⟩
theorem ir_can {T T' : Zt} {c cl : Int} {r : Option Zv} (h : IR_ T) (p : po_X11_can T c cl T' r) : IR_ T' := by
  obtain ⟨x, rfl, f, q⟩ := p
  exact ⟨CW_f h.1 f ⟨fun _ => rfl, fun _ => rfl, fun _ => rfl, fun _ => rfl, fun _ => rfl⟩, RI__f h.2.1 f ⟨fun _ => rfl, rfl, trivial⟩, RW__f h.2.2.1 f ⟨fun _ => rfl, rfl, trivial⟩, EN__f h.2.2.2.1 f ⟨fun _ => rfl, fun _ => rfl, rfl, trivial⟩, ML__f h.2.2.2.2.1 f ⟨fun _ => rfl, fun _ => rfl, rfl, trivial⟩, MC__f h.2.2.2.2.2.1 f ⟨fun _ => rfl, rfl, rfl, trivial⟩, SH__f h.2.2.2.2.2.2.1 f ⟨fun _ => rfl, fun _ => rfl, fun _ => rfl, rfl, trivial⟩, FM__f h.2.2.2.2.2.2.2.1 f ⟨fun _ => rfl, fun _ => rfl, trivial⟩, rx_f h.2.2.2.2.2.2.2.2.1 (f 111 0 29 rfl) (f 111 0 47 rfl) (fun k j h => f k 0 j (by rcases h with rfl | rfl | rfl | rfl | rfl <;> rfl)), rz_f h.2.2.2.2.2.2.2.2.2.1 (f 111 0 29 rfl) (fun j => f 254 0 j rfl) (fun j => f 256 0 j rfl), ZS__f h.2.2.2.2.2.2.2.2.2.2.1 f ⟨fun _ => rfl, fun _ => rfl, trivial⟩, gx_f (x := -1) (y := -1) h.2.2.2.2.2.2.2.2.2.2.2 f ⟨fun _ => rfl, fun _ => rfl, fun _ => rfl⟩ (fun j _ => f 254 0 j rfl) (Or.inl rfl)⟩
theorem ir_firsts {T T' : Zt} {c cl : Int} {r : Option Zv} (h : IR_ T) (p : po_X11_firsts T c cl T' r) : IR_ T' := by
  obtain ⟨x, rfl, f, q⟩ := p
  exact ⟨CW_f h.1 f ⟨fun _ => rfl, fun _ => rfl, fun _ => rfl, fun _ => rfl, fun _ => rfl⟩, RI__f h.2.1 f ⟨fun _ => rfl, rfl, trivial⟩, RW__f h.2.2.1 f ⟨fun _ => rfl, rfl, trivial⟩, EN__f h.2.2.2.1 f ⟨fun _ => rfl, fun _ => rfl, rfl, trivial⟩, ML__f h.2.2.2.2.1 f ⟨fun _ => rfl, fun _ => rfl, rfl, trivial⟩, MC__f h.2.2.2.2.2.1 f ⟨fun _ => rfl, rfl, rfl, trivial⟩, SH__f h.2.2.2.2.2.2.1 f ⟨fun _ => rfl, fun _ => rfl, fun _ => rfl, rfl, trivial⟩, FM__f h.2.2.2.2.2.2.2.1 f ⟨fun _ => rfl, fun _ => rfl, trivial⟩, rx_f h.2.2.2.2.2.2.2.2.1 (f 111 0 29 rfl) (f 111 0 47 rfl) (fun k j h => f k 0 j (by rcases h with rfl | rfl | rfl | rfl | rfl <;> rfl)), rz_f h.2.2.2.2.2.2.2.2.2.1 (f 111 0 29 rfl) (fun j => f 254 0 j rfl) (fun j => f 256 0 j rfl), ZS__f h.2.2.2.2.2.2.2.2.2.2.1 f ⟨fun _ => rfl, fun _ => rfl, trivial⟩, gx_f (x := -1) (y := -1) h.2.2.2.2.2.2.2.2.2.2.2 f ⟨fun _ => rfl, fun _ => rfl, fun _ => rfl⟩ (fun j _ => f 254 0 j rfl) (Or.inl rfl)⟩
theorem ir_drawing {T T' : Zt} {g l : Int} {r : Option Zv} (h : IR_ T) (p : po_X11_drawing T g l T' r) : IR_ T' := by
  obtain ⟨x, rfl, f, q⟩ := p
  exact ⟨CW_f h.1 f ⟨fun _ => rfl, fun _ => rfl, fun _ => rfl, fun _ => rfl, fun _ => rfl⟩, RI__f h.2.1 f ⟨fun _ => rfl, rfl, trivial⟩, RW__f h.2.2.1 f ⟨fun _ => rfl, rfl, trivial⟩, EN__f h.2.2.2.1 f ⟨fun _ => rfl, fun _ => rfl, rfl, trivial⟩, ML__f h.2.2.2.2.1 f ⟨fun _ => rfl, fun _ => rfl, rfl, trivial⟩, MC__f h.2.2.2.2.2.1 f ⟨fun _ => rfl, rfl, rfl, trivial⟩, SH__f h.2.2.2.2.2.2.1 f ⟨fun _ => rfl, fun _ => rfl, fun _ => rfl, rfl, trivial⟩, FM__f h.2.2.2.2.2.2.2.1 f ⟨fun _ => rfl, fun _ => rfl, trivial⟩, rx_f h.2.2.2.2.2.2.2.2.1 (f 111 0 29 rfl) (f 111 0 47 rfl) (fun k j h => f k 0 j (by rcases h with rfl | rfl | rfl | rfl | rfl <;> rfl)), rz_f h.2.2.2.2.2.2.2.2.2.1 (f 111 0 29 rfl) (fun j => f 254 0 j rfl) (fun j => f 256 0 j rfl), ZS__f h.2.2.2.2.2.2.2.2.2.2.1 f ⟨fun _ => rfl, fun _ => rfl, trivial⟩, gx_f (x := -1) (y := -1) h.2.2.2.2.2.2.2.2.2.2.2 f ⟨fun _ => rfl, fun _ => rfl, fun _ => rfl⟩ (fun j _ => f 254 0 j rfl) (Or.inl rfl)⟩
theorem ir_pot {T T' : Zt} {cl p : Int} {r : Option Zv} (h : IR_ T) (p : po_X11_pot T cl p T' r) : IR_ T' := by
  obtain ⟨x, rfl, f, q⟩ := p
  exact ⟨CW_f h.1 f ⟨fun _ => rfl, fun _ => rfl, fun _ => rfl, fun _ => rfl, fun _ => rfl⟩, RI__f h.2.1 f ⟨fun _ => rfl, rfl, trivial⟩, RW__f h.2.2.1 f ⟨fun _ => rfl, rfl, trivial⟩, EN__f h.2.2.2.1 f ⟨fun _ => rfl, fun _ => rfl, rfl, trivial⟩, ML__f h.2.2.2.2.1 f ⟨fun _ => rfl, fun _ => rfl, rfl, trivial⟩, MC__f h.2.2.2.2.2.1 f ⟨fun _ => rfl, rfl, rfl, trivial⟩, SH__f h.2.2.2.2.2.2.1 f ⟨fun _ => rfl, fun _ => rfl, fun _ => rfl, rfl, trivial⟩, FM__f h.2.2.2.2.2.2.2.1 f ⟨fun _ => rfl, fun _ => rfl, trivial⟩, rx_f h.2.2.2.2.2.2.2.2.1 (f 111 0 29 rfl) (f 111 0 47 rfl) (fun k j h => f k 0 j (by rcases h with rfl | rfl | rfl | rfl | rfl <;> rfl)), rz_f h.2.2.2.2.2.2.2.2.2.1 (f 111 0 29 rfl) (fun j => f 254 0 j rfl) (fun j => f 256 0 j rfl), ZS__f h.2.2.2.2.2.2.2.2.2.2.1 f ⟨fun _ => rfl, fun _ => rfl, trivial⟩, gx_f (x := -1) (y := -1) h.2.2.2.2.2.2.2.2.2.2.2 f ⟨fun _ => rfl, fun _ => rfl, fun _ => rfl⟩ (fun j _ => f 254 0 j rfl) (Or.inl rfl)⟩
theorem ir_ways {T T' : Zt} {r : Option Zv} (h : IR_ T) (p : po_X11_ways T  T' r) : IR_ T' := by
  obtain ⟨x, rfl, f, q⟩ := p
  exact ⟨CW_f h.1 f ⟨fun _ => rfl, fun _ => rfl, fun _ => rfl, fun _ => rfl, fun _ => rfl⟩, RI__f h.2.1 f ⟨fun _ => rfl, rfl, trivial⟩, RW__f h.2.2.1 f ⟨fun _ => rfl, rfl, trivial⟩, EN__f h.2.2.2.1 f ⟨fun _ => rfl, fun _ => rfl, rfl, trivial⟩, ML__f h.2.2.2.2.1 f ⟨fun _ => rfl, fun _ => rfl, rfl, trivial⟩, MC__f h.2.2.2.2.2.1 f ⟨fun _ => rfl, rfl, rfl, trivial⟩, SH__f h.2.2.2.2.2.2.1 f ⟨fun _ => rfl, fun _ => rfl, fun _ => rfl, rfl, trivial⟩, FM__f h.2.2.2.2.2.2.2.1 f ⟨fun _ => rfl, fun _ => rfl, trivial⟩, rx_f h.2.2.2.2.2.2.2.2.1 (f 111 0 29 rfl) (f 111 0 47 rfl) (fun k j h => f k 0 j (by rcases h with rfl | rfl | rfl | rfl | rfl <;> rfl)), rz_f h.2.2.2.2.2.2.2.2.2.1 (f 111 0 29 rfl) (fun j => f 254 0 j rfl) (fun j => f 256 0 j rfl), ZS__f h.2.2.2.2.2.2.2.2.2.2.1 f ⟨fun _ => rfl, fun _ => rfl, trivial⟩, gx_f (x := -1) (y := -1) h.2.2.2.2.2.2.2.2.2.2.2 f ⟨fun _ => rfl, fun _ => rfl, fun _ => rfl⟩ (fun j _ => f 254 0 j rfl) (Or.inl rfl)⟩
theorem ir_chance {T T' : Zt} {cl g : Int} {r : Option Zv} (h : IR_ T) (p : po_X11_chance T cl g T' r) : IR_ T' := by
  obtain ⟨x, rfl, f, q⟩ := p
  exact ⟨CW_f h.1 f ⟨fun _ => rfl, fun _ => rfl, fun _ => rfl, fun _ => rfl, fun _ => rfl⟩, RI__f h.2.1 f ⟨fun _ => rfl, rfl, trivial⟩, RW__f h.2.2.1 f ⟨fun _ => rfl, rfl, trivial⟩, EN__f h.2.2.2.1 f ⟨fun _ => rfl, fun _ => rfl, rfl, trivial⟩, ML__f h.2.2.2.2.1 f ⟨fun _ => rfl, fun _ => rfl, rfl, trivial⟩, MC__f h.2.2.2.2.2.1 f ⟨fun _ => rfl, rfl, rfl, trivial⟩, SH__f h.2.2.2.2.2.2.1 f ⟨fun _ => rfl, fun _ => rfl, fun _ => rfl, rfl, trivial⟩, FM__f h.2.2.2.2.2.2.2.1 f ⟨fun _ => rfl, fun _ => rfl, trivial⟩, rx_f h.2.2.2.2.2.2.2.2.1 (f 111 0 29 rfl) (f 111 0 47 rfl) (fun k j h => f k 0 j (by rcases h with rfl | rfl | rfl | rfl | rfl <;> rfl)), rz_f h.2.2.2.2.2.2.2.2.2.1 (f 111 0 29 rfl) (fun j => f 254 0 j rfl) (fun j => f 256 0 j rfl), ZS__f h.2.2.2.2.2.2.2.2.2.2.1 f ⟨fun _ => rfl, fun _ => rfl, trivial⟩, gx_f (x := -1) (y := -1) h.2.2.2.2.2.2.2.2.2.2.2 f ⟨fun _ => rfl, fun _ => rfl, fun _ => rfl⟩ (fun j _ => f 254 0 j rfl) (Or.inl rfl)⟩
theorem ir_ball {T T' : Zt} {ta fi : Int} {r : Option Zv} (h : IR_ T) (p : po_X11_ball T ta fi T' r) : IR_ T' := by
  obtain ⟨x, rfl, f, q⟩ := p
  exact ⟨CW_f h.1 f ⟨fun _ => rfl, fun _ => rfl, fun _ => rfl, fun _ => rfl, fun _ => rfl⟩, RI__f h.2.1 f ⟨fun _ => rfl, rfl, trivial⟩, RW__f h.2.2.1 f ⟨fun _ => rfl, rfl, trivial⟩, EN__f h.2.2.2.1 f ⟨fun _ => rfl, fun _ => rfl, rfl, trivial⟩, ML__f h.2.2.2.2.1 f ⟨fun _ => rfl, fun _ => rfl, rfl, trivial⟩, MC__f h.2.2.2.2.2.1 f ⟨fun _ => rfl, rfl, rfl, trivial⟩, SH__f h.2.2.2.2.2.2.1 f ⟨fun _ => rfl, fun _ => rfl, fun _ => rfl, rfl, trivial⟩, FM__f h.2.2.2.2.2.2.2.1 f ⟨fun _ => rfl, fun _ => rfl, trivial⟩, rx_f h.2.2.2.2.2.2.2.2.1 (f 111 0 29 rfl) (f 111 0 47 rfl) (fun k j h => f k 0 j (by rcases h with rfl | rfl | rfl | rfl | rfl <;> rfl)), rz_f h.2.2.2.2.2.2.2.2.2.1 (f 111 0 29 rfl) (fun j => f 254 0 j rfl) (fun j => f 256 0 j rfl), ZS__f h.2.2.2.2.2.2.2.2.2.2.1 f ⟨fun _ => rfl, fun _ => rfl, trivial⟩, gx_f (x := -1) (y := -1) h.2.2.2.2.2.2.2.2.2.2.2 f ⟨fun _ => rfl, fun _ => rfl, fun _ => rfl⟩ (fun j _ => f 254 0 j rfl) (Or.inl rfl)⟩
theorem ir_assign {T T' : Zt} {d : Int} {r : Option Zv} (h : IR_ T) (p : po_X11_assign T d T' r) : IR_ T' := by
  obtain ⟨x, rfl, f, q⟩ := p
  exact ⟨CW_f h.1 f ⟨fun _ => rfl, fun _ => rfl, fun _ => rfl, fun _ => rfl, fun _ => rfl⟩, RI__f h.2.1 f ⟨fun _ => rfl, rfl, trivial⟩, RW__f h.2.2.1 f ⟨fun _ => rfl, rfl, trivial⟩, EN__f h.2.2.2.1 f ⟨fun _ => rfl, fun _ => rfl, rfl, trivial⟩, ML__f h.2.2.2.2.1 f ⟨fun _ => rfl, fun _ => rfl, rfl, trivial⟩, MC__f h.2.2.2.2.2.1 f ⟨fun _ => rfl, rfl, rfl, trivial⟩, SH__f h.2.2.2.2.2.2.1 f ⟨fun _ => rfl, fun _ => rfl, fun _ => rfl, rfl, trivial⟩, FM__f h.2.2.2.2.2.2.2.1 f ⟨fun _ => rfl, fun _ => rfl, trivial⟩, rx_f h.2.2.2.2.2.2.2.2.1 (f 111 0 29 rfl) (f 111 0 47 rfl) (fun k j h => f k 0 j (by rcases h with rfl | rfl | rfl | rfl | rfl <;> rfl)), rz_f h.2.2.2.2.2.2.2.2.2.1 (f 111 0 29 rfl) (fun j => f 254 0 j rfl) (fun j => f 256 0 j rfl), ZS__f h.2.2.2.2.2.2.2.2.2.2.1 f ⟨fun _ => rfl, fun _ => rfl, trivial⟩, gx_f (x := -1) (y := -1) h.2.2.2.2.2.2.2.2.2.2.2 f ⟨fun _ => rfl, fun _ => rfl, fun _ => rfl⟩ (fun j _ => f 254 0 j rfl) (Or.inl rfl)⟩
theorem ir_plan {T T' : Zt} {c g : Int} {r : Option Zv} (hT : ok_T T) (h : IR_ T) (p : po_X11_plan_k T c g T' r) : IR_ T' := by
  obtain ⟨x, rfl, f, q⟩ := p
  rcases q with ⟨-, e⟩ | ⟨c0, c1, a, l4, e1, e2, e3⟩
  · rw [← e]; exact h
  · have hb_29 : 0 ≤ T 111 0 29 ∧ T 111 0 29 ≤ 400 := bd_f hT 111 29 tl_11_29 0
    have rx := rx_am h.2.2.2.2.2.2.2.2.1 h.2.2.2.2.2.2.2.2.2.1 (by omega) a.1 l4 (f 111 0 47 rfl) (fun z => f 252 0 z rfl) (fun j => f 254 0 j rfl) (fun j => f 256 0 j rfl) (fun j hj => ⟨(a.2.1 j hj).2.2.2.2.2.2.2.1, (a.2.1 j hj).2.2.2.2.2.2.2.2⟩) (fun j u v => (a.2.2.1 j u v).2.2)
    exact ⟨CW_f h.1 f ⟨fun _ => rfl, fun _ => rfl, fun _ => rfl, fun _ => rfl, fun _ => rfl⟩, RI__f h.2.1 f ⟨fun _ => rfl, rfl, trivial⟩, RW__f h.2.2.1 f ⟨fun _ => rfl, rfl, trivial⟩, EN__f h.2.2.2.1 f ⟨fun _ => rfl, fun _ => rfl, rfl, trivial⟩, ml_p h.2.2.2.2.1 a.1 e1 e2 e3, mc_p h.2.2.2.2.2.1 c1 a (f 111 0 6 rfl), sh_p h.2.2.2.2.2.2.1 h.2.1 ⟨c0, c1⟩ a (fun j => f 239 0 j rfl) (fun j => f 205 0 j rfl), fm_p h.2.2.2.2.2.2.2.1 a (fun j => f 244 0 j rfl), rx.1, rx.2, ZS__f h.2.2.2.2.2.2.2.2.2.2.1 f ⟨fun _ => rfl, fun _ => rfl, trivial⟩, gx_f (x := -1) (y := -1) h.2.2.2.2.2.2.2.2.2.2.2 f ⟨fun _ => rfl, fun _ => rfl, fun _ => rfl⟩ (fun j _ => f 254 0 j rfl) (Or.inl rfl)⟩
-- Math.max, min and abs of ints, by the library's contracts
section J2
variable {Y : Zm} {T0 T : Zt} {P : Zt → Option Zv → Prop} {bc bs : Nat} {pc : Int} {ls : Zl} {rest : List Zv}
theorem j_mx {idx : Nat} {a b : Int} (hml : Cond.methodLink Y.1 idx Lib.Math.max.name ∈ lw_g) (hst : Cond.static Lib.Math.max.name ∈ lw_g) (hin : Cond.initialized "java/lang/Math" ∈ lw_g) (hco : Cond.code Lib.Math.max.name Lib.Math.max.code 2 (some .int) ∈ lw_g) (hd : decode Y.2.1 pc.toNat = .ok (.invokestatic idx, 3)) (hp : 0 ≤ pc) (hf : 1 ≤ Y.2.2.2.2.frames) (hlo : 21 ≤ Y.2.2.2.2.locals) (hrest : rest.length ≤ 4)
    (k : J_ Y T0 P bc bs (pc + 3) ls (vI (if a < b then b else a) :: rest) T) : J_ Y T0 P bc bs pc ls (vI b :: vI a :: rest) T := by
  intro l p e s m args below meth c D cA ad0 A X ad H locs cells slots lsC hc hs hR hS hB hT hL hl hln
  have ab : -2147483648 ≤ b ∧ b ≤ 2147483647 := ok_head hL
  have aa : -2147483648 ≤ a ∧ a ≤ 2147483647 := ok_head (ok_tail hL)
  have w := X.2.2.2.2.2.1
  have sm := en_sum (ad := ad) rest
  have kk := k l p e s m args below meth c D cA ad0 A X ad H locs cells slots lsC hc hs hR hS hB hT (ok_push (show ok_v T (vI (if a < b then b else a)) from (by split; exact ab; exact aa)) (ok_tail (ok_tail hL))) hl hln
  refine va_mmax (x := Int32.ofInt a) (y := Int32.ofInt b) X.1 X.2.1 (X.2.2.1.trans hl.1.symm) X.2.2.2.2.2.2.1 (w _ hml) (w _ hst) (w _ hin) (w _ hco) hf (by omega) (by omega) (by omega) hd ?_
  have e1 : (if Int32.ofInt a < Int32.ofInt b then Int32.ofInt b else Int32.ofInt a) = Int32.ofInt (if a < b then b else a) := by
    by_cases z : a < b
    · rw [if_pos z, if_pos ((i3_lt aa ab).mpr z)]
    · rw [if_neg z, if_neg (fun q => z ((i3_lt aa ab).mp q))]
  rw [e1]
  rw [show (pc + 3).toNat = pc.toNat + 3 by omega] at kk
  exact kk
end J2
section J3
variable {Y : Zm} {T0 T : Zt} {P : Zt → Option Zv → Prop} {bc bs : Nat} {pc : Int} {ls : Zl} {rest : List Zv}
theorem j_mn {idx : Nat} {a b : Int} (hml : Cond.methodLink Y.1 idx Lib.Math.min.name ∈ lw_g) (hst : Cond.static Lib.Math.min.name ∈ lw_g) (hin : Cond.initialized "java/lang/Math" ∈ lw_g) (hco : Cond.code Lib.Math.min.name Lib.Math.min.code 2 (some .int) ∈ lw_g) (hd : decode Y.2.1 pc.toNat = .ok (.invokestatic idx, 3)) (hp : 0 ≤ pc) (hf : 1 ≤ Y.2.2.2.2.frames) (hlo : 21 ≤ Y.2.2.2.2.locals) (hrest : rest.length ≤ 4)
    (k : J_ Y T0 P bc bs (pc + 3) ls (vI (if b < a then b else a) :: rest) T) : J_ Y T0 P bc bs pc ls (vI b :: vI a :: rest) T := by
  intro l p e s m args below meth c D cA ad0 A X ad H locs cells slots lsC hc hs hR hS hB hT hL hl hln
  have ab : -2147483648 ≤ b ∧ b ≤ 2147483647 := ok_head hL
  have aa : -2147483648 ≤ a ∧ a ≤ 2147483647 := ok_head (ok_tail hL)
  have w := X.2.2.2.2.2.1
  have sm := en_sum (ad := ad) rest
  have kk := k l p e s m args below meth c D cA ad0 A X ad H locs cells slots lsC hc hs hR hS hB hT (ok_push (show ok_v T (vI (if b < a then b else a)) from (by split; exact ab; exact aa)) (ok_tail (ok_tail hL))) hl hln
  refine va_mmin (x := Int32.ofInt a) (y := Int32.ofInt b) X.1 X.2.1 (X.2.2.1.trans hl.1.symm) X.2.2.2.2.2.2.1 (w _ hml) (w _ hst) (w _ hin) (w _ hco) hf (by omega) (by omega) (by omega) hd ?_
  have e1 : (if Int32.ofInt b < Int32.ofInt a then Int32.ofInt b else Int32.ofInt a) = Int32.ofInt (if b < a then b else a) := by
    by_cases z : b < a
    · rw [if_pos z, if_pos ((i3_lt ab aa).mpr z)]
    · rw [if_neg z, if_neg (fun q => z ((i3_lt ab aa).mp q))]
  rw [e1]
  rw [show (pc + 3).toNat = pc.toNat + 3 by omega] at kk
  exact kk
theorem j_ab {idx : Nat} {a : Int} (ha : -2147483647 ≤ a) (hml : Cond.methodLink Y.1 idx Lib.Math.abs.name ∈ lw_g) (hst : Cond.static Lib.Math.abs.name ∈ lw_g) (hin : Cond.initialized "java/lang/Math" ∈ lw_g) (hco : Cond.code Lib.Math.abs.name Lib.Math.abs.code 1 (some .int) ∈ lw_g) (hd : decode Y.2.1 pc.toNat = .ok (.invokestatic idx, 3)) (hp : 0 ≤ pc) (hf : 1 ≤ Y.2.2.2.2.frames) (hlo : 21 ≤ Y.2.2.2.2.locals) (hrest : rest.length ≤ 4)
    (k : J_ Y T0 P bc bs (pc + 3) ls (vI (if 0 ≤ a then a else -a) :: rest) T) : J_ Y T0 P bc bs pc ls (vI a :: rest) T := by
  intro l p e s m args below meth c D cA ad0 A X ad H locs cells slots lsC hc hs hR hS hB hT hL hl hln
  have aa : -2147483648 ≤ a ∧ a ≤ 2147483647 := ok_head hL
  have w := X.2.2.2.2.2.1
  have sm := en_sum (ad := ad) rest
  have kk := k l p e s m args below meth c D cA ad0 A X ad H locs cells slots lsC hc hs hR hS hB hT (ok_push (show ok_v T (vI (if 0 ≤ a then a else -a)) from (by split; exact aa; exact ⟨by omega, by omega⟩)) (ok_tail hL)) hl hln
  refine va_mabs (x := Int32.ofInt a) X.1 X.2.1 (X.2.2.1.trans hl.1.symm) X.2.2.2.2.2.2.1 (w _ hml) (w _ hst) (w _ hin) (w _ hco) hf (by omega) (by omega) (by omega) hd ?_
  have e1 : (if 0 ≤ Int32.ofInt a then Int32.ofInt a else 0 - Int32.ofInt a) = Int32.ofInt (if 0 ≤ a then a else -a) := by
    have z0 : (0 : Int32) ≤ Int32.ofInt a ↔ 0 ≤ a := by
      rw [Int32.le_iff_toInt_le, i3_t aa.1 aa.2]; exact Iff.rfl
    by_cases z : 0 ≤ a
    · rw [if_pos z, if_pos (z0.mpr z)]
    · rw [if_neg z, if_neg (fun q => z (z0.mp q)), Int32.ofInt_neg]; exact Int32.zero_sub _
  rw [e1]
  rw [show (pc + 3).toNat = pc.toNat + 3 by omega] at kk
  exact kk
end J3
-- a static call of the nest's host: SportsHouse.isSide, out of Play
section J4
variable {Y Yc : Zm} {T0 T : Zt} {P : Zt → Option Zv → Prop} {bc bs : Nat} {pc : Int} {ls : Zl} {rest : List Zv} {Qp : Zt → Option Zv → Prop}
abbrev yN_ : MethodName := ⟨"SportsHouse", "isSide", "(I)Z"⟩
def cn_ (Yc : Zm) (n : Nat) : Prop := GoodIn lw_g (.code yN_ Yc.2.1 Yc.2.2.1 Yc.2.2.2.1 :: lw_g) ∧ Cond.static yN_ ∈ lw_g ∧ Cond.initialized "SportsHouse" ∈ lw_g ∧ (yN_.cls ≠ "java/lang/invoke/MethodHandle" ∧ yN_.cls ≠ "java/lang/invoke/VarHandle" ∧ (parseMethodDescriptor yN_.desc).map (fun d => d.parameters.length) = some n)
theorem j_callN {n : Nat} (as : List Zv) (hY1 : Y.1 = "SportsHouse$Play") (hC : Ct_ yN_ Yc T as Qp) (hcv : cn_ Yc n) (hd : decode Y.2.1 pc.toNat = .ok (.invokestatic 89, 3)) (hp : 0 ≤ pc) (hn : as.length = n) (hrm : rf_ Yc Y = true) (hrest : rest.length ≤ 4) (hmc : Yc.2.2.2.2.cells ≤ bc) (hms : Yc.2.2.2.2.slots ≤ bs) {st0 : List Zv} (hst : st0 = as.reverse ++ rest) (kk : ∀ (T' : Zt) (r : Option Zv), Qp T' r → J_ Y T0 P (bc - Yc.2.2.2.2.cells) (bs - Yc.2.2.2.2.slots) (pc + 3) ls (r.toList ++ rest) T') : J_ Y T0 P bc bs pc ls st0 T := by
  subst hst
  intro l p e s m args below meth c D cA ad0 A X ad H locs cells slots lsC hc hs hR hS hB hT hL hl hln
  obtain ⟨hG, hst, hini, hdd⟩ := hcv
  simp only [rf_, Bool.and_eq_true, decide_eq_true_eq] at hrm
  have hLr : ok_l T ls rest := ⟨hL.1, fun v hv => hL.2 v (by simp [hv])⟩
  have hAA : ∀ q, A_ ad T H.size q → A q := by
    rintro q (⟨k, i, ha, rfl⟩ | h)
    · exact Rp_in hR ha
    · exact X.2.2.2.2.2.2.2.2.2.1 q (Nat.le_trans hS.1 h)
  have w := X.2.2.2.2.2.1
  have hN : va_Nw (.methodLinkNest Y.1 89 yN_ "SportsHouse") s := by
    rw [hY1]
    exact X.2.2.2.2.2.2.2.2.1.2.2.2.2.2
  refine j_back X hc hs hR hS hB hLr hl hln hp hmc hms (va_runSN (host := "SportsHouse") (As := as.map (en_v ad)) (rest := rest.map (en_v ad)) ⟨X.1, X.2.1, X.2.2.1, X.2.2.2.2.2.2.1, X.2.2.2.2.2.1⟩ (hC l D cA ad H.size) ⟨va_cnB n w hG rfl rfl rfl hN (w _ hini) hdd hrm, w _ hst, trivial⟩ ⟨pc_blind, fun U hU hW => ⟨rfl, by rw [hU], by rw [hU]; exact Rp_A hR (fun _ _ _ _ => trivial), va_K.moved hW.alike X.2.2.2.2.2.2.2.1, ex_warm hW X.2.2.2.2.2.2.2.2.1, se_call X.2.2.2.2.2.2.2.2.2.2.1 hS hAA hU hW (fun k i hk => hB.2 k i (Or.inl hk)), hT, fun v hv => hL.2 v (by simp [hv])⟩⟩ rfl (by rw [List.length_map]; exact hn) (hl.1) ?_ (lv_room ?_) hd ⟨by omega, by omega⟩) (fun T' r h => kk T' r h)
  · show List.map (en_v ad) (as.reverse ++ rest) = _
    rw [List.map_append, List.map_reverse]
  · have := en_sum (ad := ad) rest
    omega
end J4
-- a reference put into a field (contest): the picture keeps the index and one
section J5
variable {Y : Zm} {T0 T : Zt} {P : Zt → Option Zv → Prop} {bc bs : Nat} {pc : Int} {ls : Zl} {st : List Zv}
theorem ok_upR {T : Zt} (hT : ok_T T) {k j k1 c0 : Nat} {lo hi : Int} (hf : (tf_ k)[j]? = some (c0, k1, lo, hi)) {i x : Int} (h1 : lo ≤ x) (h2 : x ≤ hi) (hv : ok_v T (fv_ c0 k1 x i)) : ok_T (up_ T k i (j : Int) x) := by
  obtain ⟨a1, a2, a3, a4, a5, a6, a7, a8, a9⟩ := hT
  have hal := al_up (T := T) (k := k) (i := i) (j := (j : Int)) (x := x) (by omega)
  have hk := tf_lt hf
  refine ⟨fun k' t' n' lo' hi' h i' x' hx => ?_, fun k' j' c k'' lo' hi' h i' => ?_, fun i' => ?_, fun k' i' hl j' c k'' lo' hi' h => ?_, fun i' x' hx' h => ?_, fun i' x' hx' h => ?_, fun k' i' h q => ?_, fun k' i' o h q => (a8 k' i' o h ((hal _ _).mp q)).imp (hal _ _).mpr (hal _ _).mpr, fun i' h q => a9 i' (by rw [up_n (fun e => by omega)] at h; exact h) ((hal _ _).mp q)⟩
  · rw [up_n (fun e => by rw [e.1, tf_ta hf] at h; cases h)]
    exact a1 k' t' n' lo' hi' h i' x' hx
  · by_cases e : k' = k ∧ i' = i ∧ (j' : Int) = (j : Int)
    · obtain ⟨rfl, rfl, e3⟩ := e
      have e3 : j' = j := by omega
      subst e3
      rw [hf] at h
      cases h
      rw [up_s]
      exact ⟨h1, h2⟩
    · rw [up_n e]
      exact a2 k' j' c k'' lo' hi' h i'
  · rw [up_n (fun e => by omega)]
    exact a3 i'
  · by_cases e : k' = k ∧ i' = i ∧ (j' : Int) = (j : Int)
    · obtain ⟨rfl, rfl, e3⟩ := e
      have e3 : j' = j := by omega
      subst e3
      rw [hf] at h
      cases h
      rw [up_s]
      exact okv_mono (fun k i => (hal k i).mpr) hv
    · rw [up_n e]
      exact okv_mono (fun k i => (hal k i).mpr) (a4 k' i' ((hal k' i').mp hl) j' c k'' lo' hi' h)
  · rw [up_n (fun e => by omega)] at h
    exact (hal _ _).mpr (a5 i' x' hx' h)
  · rw [up_n (fun e => by omega)] at h
    exact (hal _ _).mpr (a6 i' x' hx' h)
  · exact a7 k' i' h ((hal _ _).mp q)
-- cells
def fr5_ (own : String) (idx ci j : Nat) : Prop := ∃ (C : String) (Tb : u_T) (N : Nat), vwCl[ci]? = some (C, Tb, N) ∧ j < N ∧ N = (tf_ (100 + ci)).length ∧ Cond.fieldLink own idx (Tb j).1 (Tb j).2.1 (Tb j).2.2.1 ∈ lw_g ∧ (Tb j).2.2.2 = false ∧ ∀ a : Nat, ∃ ty, parseFieldDescriptor (Tb j).2.2.1 = some ty ∧ narrow ty (.ref a) = .ref a ∧ fits ty (.ref a) = true
/-- a reference is put into a field that holds an index and one -/
theorem j_putR {ci j k' idx : Nat} {lo hi i x : Int} (hp : 0 ≤ pc) (hf : fr5_ Y.1 idx ci j) (ht : (tf_ (100 + ci))[j]? = some (5, k', lo, hi)) (hd : decode Y.2.1 pc.toNat = .ok (.putfield idx, 3)) (h0 : 0 ≤ x) (h1 : lo ≤ x + 1) (h2 : x + 1 ≤ hi) (k : J_ Y T0 P bc bs (pc + 3) ls st (up_ T (100 + ci) i (j : Int) (x + 1))) : J_ Y T0 P bc bs pc ls (vR k' x :: vR (100 + ci) i :: st) T := by
  intro l p e s m args below meth c0 D cA ad0 A X ad H locs cells slots lsC hc hs hR hS hB hT hL hl hn
  have hal : al_ T (100 + ci) i := ok_al (v := none) (by omega) (ok_head (ok_tail hL))
  have hup := al_up (T := T) (k := 100 + ci) (i := i) (j := (j : Int)) (x := x + 1) (by omega)
  obtain ⟨ids, q0, hq, hids, hP, hD⟩ := rp_at hR hal
  obtain ⟨C, Tb, N, hC, hjN, hN, hlk, hfin, hds⟩ := hf
  obtain ⟨hin, ⟨ty0, hty⟩, hnm⟩ := cl_in hC
  have hw := wd_get (cA := cA) (ad := ad) (T := T) hq
  rw [ce_ob (cl_lt hC)] at hw
  obtain ⟨ty, hty1, hnar, hfit⟩ := hds (ad k' x)
  have ev : fv_ 5 k' (x + 1) i = vR k' x := by
    show (if x + 1 = 0 then vN else vR k' (x + 1 - 1)) = _
    rw [if_neg (by omega), show x + 1 - 1 = x by omega]
  refine va_put (D := D) (ci := ci) (C := C) (T := Tb) (N := N) (own := Y.1) (ref := (Tb j).1) (index := idx) (ty := ty) (v := .ref (ad k' x)) X.1 X.2.1 X.2.2.2.2.2.1 hin ty0 hty hnm X.2.2.2.2.2.2.1 X.2.2.2.2.2.2.2.1 hP hD hS q0 hw hC j hjN (X.2.2.2.2.2.1 _ hlk) (fun _ h => h) hfin hty1 hnar hfit (by rw [List.length_map, List.length_zipIdx, ← hN]; exact hjN) hd (fun H1 locs1 hP1 hD1 hS1 => ?_)
  have e1 : ((tf_ (100 + ci)).zipIdx.map fun q => en_v ad (fv_ q.1.1 q.1.2.1 (T (100 + ci) i (q.2 : Int)) i)).set j (.ref (ad k' x)) = (tf_ (100 + ci)).zipIdx.map fun q => en_v ad (fv_ q.1.1 q.1.2.1 (up_ T (100 + ci) i (j : Int) (x + 1) (100 + ci) i (q.2 : Int)) i) := by
    apply List.ext_getElem?
    intro n
    rw [List.getElem?_set]
    by_cases en : j = n
    · subst en
      rw [if_pos rfl, if_pos (by rw [List.length_map, List.length_zipIdx, ← hN]; exact hjN), fs_at (T := up_ T (100 + ci) i (j : Int) (x + 1)) ht, up_s, ev]
      rfl
    · rw [if_neg en, List.getElem?_map, List.getElem?_map, List.getElem?_zipIdx]
      cases hn9 : (tf_ (100 + ci))[n]? with
      | none => rfl
      | some q =>
        simp only [Option.map_some]
        rw [up_n (fun q => by omega)]
  have e2 : (wd_ cA ad T ids).set q0 (ad (100 + ci) i, .inr (ci, ((tf_ (100 + ci)).zipIdx.map fun q => en_v ad (fv_ q.1.1 q.1.2.1 (T (100 + ci) i (q.2 : Int)) i)).set j (.ref (ad k' x)))) = wd_ cA ad (up_ T (100 + ci) i (j : Int) (x + 1)) ids := by
    rw [e1, ← ce_ob (cl_lt hC) (T := up_ T (100 + ci) i (j : Int) (x + 1)) (cA := cA)]
    exact wd_set hD hq (fun k' i' h => up_o h)
  rw [e2] at hP1 hD1
  have k2 := k l p e s m args below meth c0 D cA ad0 A X ad H1 locs1 cells slots lsC hc hs ⟨ids, fun k i => (hup k i).trans (hids k i), hP1, hD1⟩ hS1 ⟨fun k i h => (hup k i).mpr (hB.1 k i h), hB.2⟩ (ok_upR hT ht h1 h2 (by rw [ev]; exact ok_head hL)) ⟨fun k9 v h => okv_mono (fun k i => (hup k i).mpr) (hL.1 k9 v h), fun v h => okv_mono (fun k i => (hup k i).mpr) ((ok_tail (ok_tail hL)).2 v h)⟩ hl hn
  rw [show (pc + 3).toNat = pc.toNat + 3 by omega] at k2
  exact k2
theorem j_nm {U : Zt} (h : ∀ V, V = U → J_ Y T0 P bc bs pc ls st V) : J_ Y T0 P bc bs pc ls st U := h U rfl
end J5
