theorem rn_q {m : Int} {r : Int → Int} {b a : Sg_} (w : RB9_ r) (h : SI_ m 0 r b a) (f : FN_ a) {l : List Rw_} (g : 3 * (l.length : Int) ≤ 1000000) : SI_ m (3 * (l.length : Int)) r (rnR_ r m b l).1 (rnH_ r a l).1 ∧ FN_ (rnH_ r a l).1 ∧ (rnR_ r m b l).2 = (rnH_ r a l).2 := by
  have z := rn_f (m := m) w l (a, [], 0) (b, [], 0) 0 h f rfl (by omega)
  rw [show (0 : Int) + 3 * (l.length : Int) = 3 * (l.length : Int) by omega] at z
  exact z
-- the reference's rows
def rwc_ (T : Zt) (x : Int) : Rw_ := (T 248 0 x, T 249 0 x, T 250 0 x, T 251 0 x)
def ch9_ (T : Zt) : Int → Nat → List Int
  | _, 0 => []
  | f, n + 1 => f :: ch9_ T (T 252 0 f) n
theorem ch_l {T : Zt} : ∀ {l : List Int} {f : Int}, lk_ T f l → ch9_ T f l.length = l
  | [], _, _ => rfl
  | x :: l, f, h => by
    show f :: ch9_ T (T 252 0 f) l.length = x :: l
    rw [h.1, ch_l h.2.2]
/-- the rows of a match, as they stand -/
def rw9_ (T : Zt) (m : Int) : List Rw_ := (ch9_ T (T 253 0 m) (T 254 0 m).toNat).map (rwc_ T)
theorem rb_c {T : Zt} {L : Int → Int → List Int} (h : RB_ T L) {m : Int} (h0 : 0 ≤ m) (h1 : m < T 111 0 29) : ch9_ T (T 253 0 m) (T 254 0 m).toNat = L m 0 := by
  have y : lk_ T (T 253 0 m) (L m 0) ∧ T 254 0 m = ((L m 0).length : Int) := h.1 m 0 h0 h1 (by decide) (by decide)
  rw [y.2, Int.toNat_natCast]
  exact ch_l y.1
theorem rw_l {T : Zt} {L : Int → Int → List Int} (h : RB_ T L) {m : Int} (h0 : 0 ≤ m) (h1 : m < T 111 0 29) : rw9_ T m = (L m 0).map (rwc_ T) := by
  unfold rw9_
  rw [rb_c h h0 h1]
theorem ch_n {T : Zt} : ∀ {n : Nat} {f : Int}, (ch9_ T f n).length = n
  | 0, _ => rfl
  | n + 1, f => by
    show (ch9_ T (T 252 0 f) n).length + 1 = n + 1
    rw [ch_n]
theorem rw_n {T : Zt} {m : Int} : (rw9_ T m).length = (T 254 0 m).toNat := by
  unfold rw9_
  rw [List.length_map, ch_n]
theorem ch_k {T T' : Zt} (e : ∀ x, T' 252 0 x = T 252 0 x) : ∀ (n : Nat) (f : Int), ch9_ T' f n = ch9_ T f n
  | 0, _ => rfl
  | n + 1, f => by
    show f :: ch9_ T' (T' 252 0 f) n = f :: ch9_ T (T 252 0 f) n
    rw [e f, ch_k e n]
theorem cl_k {T T' : Zt} (e : ∀ k x, k = 248 ∨ k = 249 ∨ k = 250 ∨ k = 251 → T' k 0 x = T k 0 x) : rwc_ T' = rwc_ T := by
  funext x
  unfold rwc_
  rw [e 248 x (by decide), e 249 x (by decide), e 250 x (by decide), e 251 x (by decide)]
/-- what leaves the rows alone -/
theorem rw_k {T T' : Zt} {m : Int} (e : ∀ k x, k = 248 ∨ k = 249 ∨ k = 250 ∨ k = 251 → T' k 0 x = T k 0 x) (e2 : ∀ x, T' 252 0 x = T 252 0 x) (e3 : T' 253 0 m = T 253 0 m) (e4 : T' 254 0 m = T 254 0 m) : rw9_ T' m = rw9_ T m := by
  unfold rw9_
  rw [cl_k e, e3, e4, ch_k e2]
/-- a row comes behind the rows of a match -/
theorem rw_p {T T' : Zt} {m x : Int} {L : Int → Int → List Int} (hB : RB_ T L) (hB' : RB_ T' (fun m' b' => if m' = m ∧ b' = 0 then L m 0 ++ [x] else L m' b')) (e29 : T' 111 0 29 = T 111 0 29) (ec : rwc_ T' = rwc_ T) (h0 : 0 ≤ m) (h1 : m < T 111 0 29) : rw9_ T' m = rw9_ T m ++ [rwc_ T x] ∧ ∀ j, j ≠ m → 0 ≤ j → j < T 111 0 29 → rw9_ T' j = rw9_ T j := by
  refine ⟨?_, fun j hj j0 j1 => ?_⟩
  · rw [rw_l hB' h0 (by omega), rw_l hB h0 h1, ec]
    show (if m = m ∧ (0 : Int) = 0 then L m 0 ++ [x] else L m 0).map (rwc_ T) = _
    rw [if_pos ⟨rfl, rfl⟩, List.map_append]
    rfl
  · rw [rw_l hB' j0 (by omega), rw_l hB j0 j1, ec]
    show (if j = m ∧ (0 : Int) = 0 then L m 0 ++ [x] else L j 0).map (rwc_ T) = _
    rw [if_neg (fun z => hj z.1)]
theorem rw_a {T T' : Zt} {m x : Int} {L : Int → Int → List Int} (hB : RB_ T L) (hB' : RB_ T' (fun m' b' => if m' = m ∧ b' = 1 then L m 1 ++ [x] else L m' b')) (e29 : T' 111 0 29 = T 111 0 29) (ec : rwc_ T' = rwc_ T) : ∀ j, 0 ≤ j → j < T 111 0 29 → rw9_ T' j = rw9_ T j := fun j j0 j1 => by
  rw [rw_l hB' j0 (by omega), rw_l hB j0 j1, ec]
  show (if j = m ∧ (0 : Int) = 1 then L m 1 ++ [x] else L j 0).map (rwc_ T) = _
  rw [if_neg (fun z => absurd z.2 (by decide))]
theorem rw_t {T T' : Zt} {m : Int} {L : Int → Int → List Int} (hB : RB_ T L) (hB' : RB_ T' (fun m' b' => if m' = m ∧ b' = 0 then [] else L m' b')) (e29 : T' 111 0 29 = T 111 0 29) (ec : rwc_ T' = rwc_ T) (h0 : 0 ≤ m) (h1 : m < T 111 0 29) : rw9_ T' m = [] ∧ ∀ j, j ≠ m → 0 ≤ j → j < T 111 0 29 → rw9_ T' j = rw9_ T j := by
  refine ⟨?_, fun j hj j0 j1 => ?_⟩
  · rw [rw_l hB' h0 (by omega)]
    show (if m = m ∧ (0 : Int) = 0 then [] else L m 0).map (rwc_ T') = _
    rw [if_pos ⟨rfl, rfl⟩]
    rfl
  · rw [rw_l hB' j0 (by omega), rw_l hB j0 j1, ec]
    show (if j = m ∧ (0 : Int) = 0 then [] else L j 0).map (rwc_ T) = _
    rw [if_neg (fun z => hj z.1)]
theorem ei_m {A B : Type} {f : A → B} : ∀ (l : List A) (i : Nat), (l.eraseIdx i).map f = (l.map f).eraseIdx i
  | [], _ => rfl
  | _ :: _, 0 => rfl
  | x :: l, i + 1 => by
    show f x :: (l.eraseIdx i).map f = f x :: (l.map f).eraseIdx i
    rw [ei_m l i]
theorem rw_d {T T' : Zt} {m : Int} {i : Nat} {L : Int → Int → List Int} (hB : RB_ T L) (hB' : RB_ T' (fun m' b' => if m' = m ∧ b' = 0 then (L m 0).eraseIdx i else L m' b')) (e29 : T' 111 0 29 = T 111 0 29) (ec : rwc_ T' = rwc_ T) (h0 : 0 ≤ m) (h1 : m < T 111 0 29) : rw9_ T' m = (rw9_ T m).eraseIdx i ∧ ∀ j, j ≠ m → 0 ≤ j → j < T 111 0 29 → rw9_ T' j = rw9_ T j := by
  refine ⟨?_, fun j hj j0 j1 => ?_⟩
  · rw [rw_l hB' h0 (by omega), rw_l hB h0 h1, ec]
    show (if m = m ∧ (0 : Int) = 0 then (L m 0).eraseIdx i else L m 0).map (rwc_ T) = _
    rw [if_pos ⟨rfl, rfl⟩, ei_m]
  · rw [rw_l hB' j0 (by omega), rw_l hB j0 j1, ec]
    show (if j = m ∧ (0 : Int) = 0 then (L m 0).eraseIdx i else L j 0).map (rwc_ T) = _
    rw [if_neg (fun z => hj z.1)]
/-- a row that none has is told of -/
theorem rw_x {T T' : Zt} {x : Int} {L : Int → Int → List Int} (hB : RB_ T L) (hB' : RB_ T' L) (e29 : T' 111 0 29 = T 111 0 29) (e : ∀ k y, k = 248 ∨ k = 249 ∨ k = 250 ∨ k = 251 → y ≠ x → T' k 0 y = T k 0 y) (hx : ∀ m b, x ∉ L m b) : ∀ j, 0 ≤ j → j < T 111 0 29 → rw9_ T' j = rw9_ T j := fun j j0 j1 => by
  rw [rw_l hB' j0 (by omega), rw_l hB j0 j1]
  refine List.map_congr_left (fun y hy => ?_)
  have n : y ≠ x := fun z => hx j 0 (z ▸ hy)
  unfold rwc_
  rw [e 248 y (by decide) n, e 249 y (by decide) n, e 250 y (by decide) n, e 251 y (by decide) n]
/-- a row is told anew -/
theorem rw_c {T T' : Zt} {m x : Int} {i : Nat} {q : Rw_} {L : Int → Int → List Int} (hB : RB_ T L) (hB' : RB_ T' L) (e29 : T' 111 0 29 = T 111 0 29) (e : ∀ k y, k = 248 ∨ k = 249 ∨ k = 250 ∨ k = 251 → y ≠ x → T' k 0 y = T k 0 y) (hq : rwc_ T' x = q) (hi : (L m 0)[i]? = some x) (h0 : 0 ≤ m) (h1 : m < T 111 0 29) : rw9_ T' m = (rw9_ T m).set i q ∧ ∀ j, j ≠ m → 0 ≤ j → j < T 111 0 29 → rw9_ T' j = rw9_ T j := by
  have ne : ∀ y, y ≠ x → rwc_ T' y = rwc_ T y := fun y n => by
    unfold rwc_
    rw [e 248 y (by decide) n, e 249 y (by decide) n, e 250 y (by decide) n, e 251 y (by decide) n]
  have hx : x ∈ L m 0 := List.mem_of_getElem? hi
  have hl : i < (L m 0).length := by
    rcases Nat.lt_or_ge i (L m 0).length with z | z
    · exact z
    · rw [List.getElem?_eq_none z] at hi; cases hi
  refine ⟨?_, fun j hj j0 j1 => ?_⟩
  · rw [rw_l hB' h0 (by omega), rw_l hB h0 h1]
    refine List.ext_getElem? (fun t => ?_)
    rw [List.getElem?_map]
    by_cases c : i = t
    · subst c
      rw [hi, List.getElem?_set, if_pos rfl, if_pos (by rw [List.length_map]; exact hl), ← hq]
      rfl
    · rw [List.getElem?_set_ne c, List.getElem?_map]
      rcases Nat.lt_or_ge t (L m 0).length with z | z
      · have ht : (L m 0)[t]? = some ((L m 0)[t]) := List.getElem?_eq_getElem z
        have nn : (L m 0)[t] ≠ x := fun w => by
          have hi2 : (L m 0)[i] = x := by
            have y := List.getElem?_eq_getElem hl
            rw [y] at hi
            exact Option.some.inj hi
          rcases Nat.lt_or_ge i t with u | u
          · exact (List.pairwise_iff_getElem.mp (hB.2.2.1 m 0)) i t hl z u (hi2.trans w.symm)
          · exact (List.pairwise_iff_getElem.mp (hB.2.2.1 m 0)) t i z hl (by omega) (w.trans hi2.symm)
        rw [ht]
        exact congrArg some (ne _ nn)
      · rw [List.getElem?_eq_none z]
        rfl
  · rw [rw_l hB' j0 (by omega), rw_l hB j0 j1]
    refine List.map_congr_left (fun y hy => ne y (fun z => hj ?_))
    exact (hB.2.2.2 j 0 m 0 x (z ▸ hy) hx).1
