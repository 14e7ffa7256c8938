-- the tables' own rows
theorem tk_no : ∀ k, k < 154 → ta_ k = none := by decide +kernel
theorem tf_no {k : Nat} (h : 154 ≤ k) : tf_ k = [] := by
  unfold tf_
  rw [if_neg (by omega), if_neg (by omega), if_neg (by omega)]
theorem ta_no {k : Nat} (h : 640 ≤ k) : ta_ k = none := by
  unfold ta_
  have e : ta_l.getD (k / 32) [] = [] := by
    rw [List.getD_eq_getElem?_getD, List.getElem?_eq_none (by have : ta_l.length = 19 := rfl; omega)]
    rfl
  rw [e]; rfl
def tc_ (q : Option (Nat × Option Int × Int × Int)) : Bool := match q with
  | none => true
  | some (t, n, lo, hi) => (decide (1 ≤ t) && decide (t ≤ 5)) && (if t = 3 then decide (-9223372036854775808 ≤ lo) && decide (hi ≤ 9223372036854775807) else decide (-2147483648 ≤ lo) && decide (hi ≤ 2147483647)) && (match n with
    | none => decide (t = 1)
    | some m => decide (0 ≤ m) && decide (m ≤ 2147483647)) && (if t = 2 then decide (lo = 0) && decide (hi = 1) else true)
theorem tc_all : ∀ k, k < 640 → tc_ (ta_ k) = true ∧ (∀ t lo hi, ta_ k = some (t, none, lo, hi) → k = 190) := by
  have h : ∀ k, k < 640 → tc_ (ta_ k) = true ∧ ((match ta_ k with | some (_, none, _, _) => decide (k = 190) | _ => true) = true) := by decide +kernel
  intro k hk
  refine ⟨(h k hk).1, fun t lo hi e => ?_⟩
  have := (h k hk).2
  rw [e] at this
  simpa using this
theorem tc_of {k t : Nat} {n : Option Int} {lo hi : Int} (h : ta_ k = some (t, n, lo, hi)) : tc_ (some (t, n, lo, hi)) = true := by
  by_cases hk : k < 640
  · rw [← h]; exact (tc_all k hk).1
  · rw [ta_no (by omega)] at h; cases h
theorem ta_tf {k : Nat} {q : Nat × Option Int × Int × Int} (h : ta_ k = some q) : tf_ k = [] := by
  by_cases hk : k < 154
  · rw [tk_no k hk] at h; cases h
  · exact tf_no (by omega)
theorem tf_lt {k j : Nat} {q : Nat × Nat × Int × Int} (h : (tf_ k)[j]? = some q) : k < 154 := by
  by_cases hk : k < 154
  · exact hk
  · rw [tf_no (by omega)] at h; simp at h
theorem tf_ta {k j : Nat} {q : Nat × Nat × Int × Int} (h : (tf_ k)[j]? = some q) : ta_ k = none := tk_no k (tf_lt h)
theorem tf_rng : ∀ k, k < 154 → ∀ q ∈ tf_ k, -2147483648 ≤ q.2.2.1 ∧ q.2.2.2 ≤ 2147483647 := by decide +kernel
theorem tf_r {k j c k' : Nat} {lo hi : Int} (h : (tf_ k)[j]? = some (c, k', lo, hi)) : -2147483648 ≤ lo ∧ hi ≤ 2147483647 := tf_rng k (tf_lt h) _ (List.mem_of_getElem? h)
theorem ta_521 : ta_ 521 = some (4, some 4, 0, 1) := by decide +kernel
theorem ta_523 : ta_ 523 = some (5, some 400, 0, 1) := by decide +kernel
theorem ta_190 : ta_ 190 = some (1, none, -2147483648, 2147483647) := by decide +kernel
theorem okv_mono {T T' : Zt} (h : ∀ k i, al_ T k i → al_ T' k i) {v : Zv} (hv : ok_v T v) : ok_v T' v := by
  rcases v with x | x | _ | ⟨k, i⟩
  · exact hv
  · exact hv
  · exact trivial
  · exact hv.imp id (h k i)
theorem al_up {T : Zt} {k : Nat} {i j x : Int} (hj : j ≠ -1) (k' : Nat) (i' : Int) : al_ (up_ T k i j x) k' i' ↔ al_ T k' i' := by
  unfold al_
  rw [up_n (fun h => hj h.2.2.symm)]
/-- a number is stored in a row -/
theorem ok_upA {T : Zt} (hT : ok_T T) {k t : Nat} {n : Option Int} {lo hi : Int} (ha : ta_ k = some (t, n, lo, hi)) (ht : t ≤ 3) {i j x : Int} (hj : 0 ≤ j) (h1 : lo ≤ x) (h2 : x ≤ hi) : ok_T (up_ T k i j x) := by
  obtain ⟨a1, a2, a3, a4, a5, a6, a7, a8, a9⟩ := hT
  have hal := al_up (T := T) (k := k) (i := i) (j := j) (x := x) (by omega)
  refine ⟨fun k' t' n' lo' hi' h i' x' hx => ?_, fun k' j' c k'' lo' hi' h i' => ?_, fun i' => ?_, fun k' i' hl j' c k'' lo' hi' h => ?_, fun i' x' hx' h => ?_, fun i' x' hx' h => ?_, fun k' i' h q => ?_, fun k' i' o h q => (a8 k' i' o h ((hal _ _).mp q)).imp (hal _ _).mpr (hal _ _).mpr, fun i' h q => a9 i' (by rw [up_n (fun e => by rw [← e.1] at ha; exact absurd (show ta_ 191 = none by decide +kernel) (by rw [ha]; simp))] at h; exact h) ((hal _ _).mp q)⟩
  · by_cases e : k' = k ∧ i' = i ∧ x' = j
    · obtain ⟨rfl, rfl, rfl⟩ := e
      rw [ha] at h
      cases h
      rw [up_s]
      exact ⟨h1, h2⟩
    · rw [up_n e]
      exact a1 k' t' n' lo' hi' h i' x' hx
  · rw [up_n (fun e => by rw [e.1, ta_tf ha] at h; simp at h)]
    exact a2 k' j' c k'' lo' hi' h i'
  · rw [up_n (fun e => by omega)]
    exact a3 i'
  · rw [up_n (fun e => by rw [e.1, ta_tf ha] at h; simp at h)]
    exact okv_mono (fun k i => (hal k i).mpr) (a4 k' i' ((hal k' i').mp hl) j' c k'' lo' hi' h)
  · rw [up_n (fun e => by rw [← e.1, ta_521] at ha; cases ha; omega)] at h
    exact (hal _ _).mpr (a5 i' x' hx' h)
  · rw [up_n (fun e => by rw [← e.1, ta_523] at ha; cases ha; omega)] at h
    exact (hal _ _).mpr (a6 i' x' hx' h)
  · exact a7 k' i' h ((hal _ _).mp q)
/-- a number is stored in a field -/
theorem ok_upF {T : Zt} (hT : ok_T T) {k j k1 : Nat} {lo hi : Int} (hf : (tf_ k)[j]? = some (0, k1, lo, hi)) {i x : Int} (h1 : lo ≤ x) (h2 : x ≤ hi) : ok_T (up_ T k i (j : Int) x) := by
  obtain ⟨a1, a2, a3, a4, a5, a6, a7, a8, a9⟩ := hT
  have hal := al_up (T := T) (k := k) (i := i) (j := (j : Int)) (x := x) (by omega)
  have hk := tf_lt hf
  refine ⟨fun k' t' n' lo' hi' h i' x' hx => ?_, fun k' j' c k'' lo' hi' h i' => ?_, fun i' => ?_, fun k' i' hl j' c k'' lo' hi' h => ?_, fun i' x' hx' h => ?_, fun i' x' hx' h => ?_, fun k' i' h q => ?_, fun k' i' o h q => (a8 k' i' o h ((hal _ _).mp q)).imp (hal _ _).mpr (hal _ _).mpr, fun i' h q => a9 i' (by rw [up_n (fun e => by omega)] at h; exact h) ((hal _ _).mp q)⟩
  · rw [up_n (fun e => by rw [e.1, tf_ta hf] at h; cases h)]
    exact a1 k' t' n' lo' hi' h i' x' hx
  · by_cases e : k' = k ∧ i' = i ∧ (j' : Int) = (j : Int)
    · obtain ⟨rfl, rfl, e3⟩ := e
      have e3 : j' = j := by omega
      subst e3
      rw [hf] at h
      cases h
      rw [up_s]
      exact ⟨h1, h2⟩
    · rw [up_n e]
      exact a2 k' j' c k'' lo' hi' h i'
  · rw [up_n (fun e => by omega)]
    exact a3 i'
  · by_cases e : k' = k ∧ i' = i ∧ (j' : Int) = (j : Int)
    · obtain ⟨rfl, rfl, e3⟩ := e
      have e3 : j' = j := by omega
      subst e3
      have hr := tf_r hf
      rw [hf] at h
      cases h
      rw [up_s]
      exact ⟨by omega, by omega⟩
    · rw [up_n e]
      exact okv_mono (fun k i => (hal k i).mpr) (a4 k' i' ((hal k' i').mp hl) j' c k'' lo' hi' h)
  · rw [up_n (fun e => by omega)] at h
    exact (hal _ _).mpr (a5 i' x' hx' h)
  · rw [up_n (fun e => by omega)] at h
    exact (hal _ _).mpr (a6 i' x' hx' h)
  · exact a7 k' i' h ((hal _ _).mp q)
-- cells
theorem ce_congr {cA : Nat → ClassId} {ad : Nat → Int → Nat} {T T' : Zt} {k : Nat} {i : Int} (h : T' k i = T k i) : ce_ cA ad T' k i = ce_ cA ad T k i := by
  unfold ce_ ln_
  rw [h]
theorem wd_get {cA : Nat → ClassId} {ad : Nat → Int → Nat} {T : Zt} {ids : List (Nat × Int)} {q0 k : Nat} {i : Int} (h : ids[q0]? = some (k, i)) : (wd_ cA ad T ids)[q0]? = some (ad k i, ce_ cA ad T k i) := by
  unfold wd_
  rw [List.getElem?_map, h]
  rfl
theorem wd_set {cA : Nat → ClassId} {ad : Nat → Int → Nat} {T T' : Zt} {ids : List (Nat × Int)} {q0 k : Nat} {i : Int} {A : Nat → Prop} (hD : va_D A (wd_ cA ad T ids)) (h : ids[q0]? = some (k, i)) (ho : ∀ k' i', (k', i') ≠ (k, i) → T' k' i' = T k' i') : (wd_ cA ad T ids).set q0 (ad k i, ce_ cA ad T' k i) = wd_ cA ad T' ids := by
  apply List.ext_getElem?
  intro n
  rw [List.getElem?_set]
  by_cases e : q0 = n
  · subst e
    rw [if_pos rfl, wd_get h]
    have hl : q0 < (wd_ cA ad T ids).length := (List.getElem?_eq_some_iff.mp (wd_get (cA := cA) (ad := ad) (T := T) h)).1
    rw [if_pos hl]
  · rw [if_neg e]
    cases hn : ids[n]? with
    | none => unfold wd_; rw [List.getElem?_map, List.getElem?_map, hn]; rfl
    | some q =>
      obtain ⟨k', i'⟩ := q
      have hne : (k', i') ≠ (k, i) := by
        rintro q
        cases q
        exact e (hD.1 q0 n _ _ (wd_get h) (wd_get hn) rfl)
      rw [wd_get hn, wd_get hn, ce_congr (ho _ _ hne)]
section JC
variable {Y : Zm} {T0 T : Zt} {P : Zt → Option Zv → Prop} {bc bs : Nat} {pc : Int} {ls : Zl} {st : List Zv}
theorem rp_at {D : va_G} {cA : Nat → ClassId} {ad : Nat → Int → Nat} {A : Nat → Prop} {H : Heap} (h : Rp_ D cA ad T A H) {k : Nat} {i : Int} (ha : al_ T k i) : ∃ (ids : List (Nat × Int)) (q0 : Nat), ids[q0]? = some (k, i) ∧ (∀ k i, al_ T k i ↔ (k, i) ∈ ids) ∧ va_P D vwCl (wd_ cA ad T ids) H ∧ va_D A (wd_ cA ad T ids) := by
  obtain ⟨ids, h1, h2, h3⟩ := h
  obtain ⟨q0, hq⟩ := List.getElem?_of_mem ((h1 k i).mp ha)
  exact ⟨ids, q0, hq, h1, h2, h3⟩
theorem ok_al {k : Nat} {i : Int} {v : Option (Nat × Int)} (hk : 100 ≤ k) (h : ok_v T (vR k i)) : al_ T k i := by
  rcases h with h | h
  · omega
  · exact h
/-- the facts of a field: its class's row, its link -/
def fl_ (own : String) (idx ci j : Nat) : Prop := ∃ (C : String) (Tb : u_T) (N : Nat), vwCl[ci]? = some (C, Tb, N) ∧ j < N ∧ N = (tf_ (100 + ci)).length ∧ Cond.fieldLink own idx (Tb j).1 (Tb j).2.1 (Tb j).2.2.1 ∈ lw_g
def fp_ (own : String) (idx ci j : Nat) : Prop := ∃ (C : String) (Tb : u_T) (N : Nat), vwCl[ci]? = some (C, Tb, N) ∧ j < N ∧ N = (tf_ (100 + ci)).length ∧ Cond.fieldLink own idx (Tb j).1 (Tb j).2.1 (Tb j).2.2.1 ∈ lw_g ∧ (Tb j).2.2.2 = false ∧ ((Tb j).2.2.1 = "I" ∨ (Tb j).2.2.1 = "Z" ∧ ∃ k', (tf_ (100 + ci))[j]? = some (0, k', 0, 1))
theorem cl_in {ci N : Nat} {C : String} {Tb : u_T} (h : vwCl[ci]? = some (C, Tb, N)) : (∀ w ∈ u_ws C Tb N, w ∈ lw_g) ∧ (∃ ty0 : Nat → FieldType, ∀ k, k < N → parseFieldDescriptor (Tb k).2.2.1 = some (ty0 k)) ∧ ∀ a, a < N → ∀ b, b < N → a ≠ b → (Tb a).2.1 ≠ (Tb b).2.1 := by
  match ci, h with
  | 0, h => cases h; exact ⟨inX0, ⟨tyX0, tyX0_ok⟩, nmX0⟩
  | 1, h => cases h; exact ⟨inX1, ⟨tyX1, tyX1_ok⟩, nmX1⟩
  | 2, h => cases h; exact ⟨inX2, ⟨tyX2, tyX2_ok⟩, nmX2⟩
  | 3, h => cases h; exact ⟨inX3, ⟨tyX3, tyX3_ok⟩, nmX3⟩
  | 4, h => cases h; exact ⟨inX4, ⟨tyX4, tyX4_ok⟩, nmX4⟩
  | 5, h => cases h; exact ⟨inX5, ⟨tyX5, tyX5_ok⟩, nmX5⟩
  | 6, h => cases h; exact ⟨inX6, ⟨tyX6, tyX6_ok⟩, nmX6⟩
  | 7, h => cases h; exact ⟨inX7, ⟨tyX7, tyX7_ok⟩, nmX7⟩
  | 8, h => cases h; exact ⟨inX8, ⟨tyX8, tyX8_ok⟩, nmX8⟩
  | 9, h => cases h; exact ⟨inX9, ⟨tyX9, tyX9_ok⟩, nmX9⟩
  | 10, h => cases h; exact ⟨inX10, ⟨tyX10, tyX10_ok⟩, nmX10⟩
  | 11, h => cases h; exact ⟨inX11, ⟨tyX11, tyX11_ok⟩, nmX11⟩
  | n + 12, h => simp at h
theorem cl_lt {ci N : Nat} {C : String} {Tb : u_T} (h : vwCl[ci]? = some (C, Tb, N)) : ci < 12 := (List.getElem?_eq_some_iff.mp h).1
theorem ce_ob {cA : Nat → ClassId} {ad : Nat → Int → Nat} {ci : Nat} {i : Int} (h : ci < 12) : ce_ cA ad T (100 + ci) i = .inr (ci, (tf_ (100 + ci)).zipIdx.map fun q => en_v ad (fv_ q.1.1 q.1.2.1 (T (100 + ci) i (q.2 : Int)) i)) := by
  unfold ce_
  rw [tk_no _ (by omega)]
  simp only [kc_]
  rw [if_pos (by omega), Nat.add_sub_cancel_left]
theorem fs_at {ad : Nat → Int → Nat} {k j c k' : Nat} {lo hi i : Int} (h : (tf_ k)[j]? = some (c, k', lo, hi)) : ((tf_ k).zipIdx.map fun q => en_v ad (fv_ q.1.1 q.1.2.1 (T k i (q.2 : Int)) i))[j]? = some (en_v ad (fv_ c k' (T k i (j : Int)) i)) := by
  rw [List.getElem?_map, List.getElem?_zipIdx, h]
  simp
/-- a field is read -/
theorem j_getf {ci j c k' idx : Nat} {lo hi i : Int} (hp : 0 ≤ pc) (hf : fl_ Y.1 idx ci j) (ht : (tf_ (100 + ci))[j]? = some (c, k', lo, hi)) (hd : decode Y.2.1 pc.toNat = .ok (.getfield idx, 3)) (k : lo ≤ T (100 + ci) i (j : Int) → T (100 + ci) i (j : Int) ≤ hi → J_ Y T0 P bc bs (pc + 3) ls (fv_ c k' (T (100 + ci) i (j : Int)) i :: st) T) : J_ Y T0 P bc bs pc ls (vR (100 + ci) i :: st) T := by
  intro l p e s m args below meth c0 D cA ad0 A X ad H locs cells slots lsC hc hs hR hS hB hT hL hl hn
  have hal : al_ T (100 + ci) i := ok_al (v := none) (by omega) (ok_head hL)
  obtain ⟨ids, q0, hq, h1, hP, hD⟩ := rp_at hR hal
  obtain ⟨C, Tb, N, hC, hjN, hN, hlk⟩ := hf
  obtain ⟨hin, -, -⟩ := cl_in hC
  have hbd := hT.2.1 _ _ _ _ _ _ ht i
  have k2 := k hbd.1 hbd.2 l p e s m args below meth c0 D cA ad0 A X ad H locs cells slots lsC hc hs hR hS hB hT (ok_push (hT.2.2.2.1 _ _ hal _ _ _ _ _ ht) (ok_tail hL)) hl hn
  rw [show (pc + 3).toNat = pc.toNat + 3 by omega] at k2
  have hw := wd_get (cA := cA) (ad := ad) (T := T) hq
  rw [ce_ob (cl_lt hC)] at hw
  exact va_get (D := D) (ci := ci) (C := C) (T := Tb) (N := N) (own := Y.1) (ref := (Tb j).1) (index := idx) X.1 X.2.1 X.2.2.2.2.2.1 hin X.2.2.2.2.2.2.1 X.2.2.2.2.2.2.2.1 hP q0 hw hC j hjN (X.2.2.2.2.2.1 _ hlk) (fun _ h => h) (fs_at ht) hd k2
theorem nr_z {x : Int} (h1 : 0 ≤ x) (h2 : x ≤ 1) : narrow .boolean (.int (Int32.ofInt x)) = .int (Int32.ofInt x) := by
  have : x = 0 ∨ x = 1 := by omega
  rcases this with rfl | rfl <;> decide
/-- a number is put into a field -/
theorem j_putf {ci j k' idx : Nat} {lo hi i x : Int} (hp : 0 ≤ pc) (hf : fp_ Y.1 idx ci j) (ht : (tf_ (100 + ci))[j]? = some (0, k', lo, hi)) (hd : decode Y.2.1 pc.toNat = .ok (.putfield idx, 3)) (h1 : lo ≤ x) (h2 : x ≤ hi) (k : J_ Y T0 P bc bs (pc + 3) ls st (up_ T (100 + ci) i (j : Int) x)) : J_ Y T0 P bc bs pc ls (vI x :: vR (100 + ci) i :: st) T := by
  intro l p e s m args below meth c0 D cA ad0 A X ad H locs cells slots lsC hc hs hR hS hB hT hL hl hn
  have hal : al_ T (100 + ci) i := ok_al (v := none) (by omega) (ok_head (ok_tail hL))
  have hup := al_up (T := T) (k := 100 + ci) (i := i) (j := (j : Int)) (x := x) (by omega)
  obtain ⟨ids, q0, hq, hids, hP, hD⟩ := rp_at hR hal
  obtain ⟨C, Tb, N, hC, hjN, hN, hlk, hfin, hds⟩ := hf
  obtain ⟨hin, ⟨ty0, hty⟩, hnm⟩ := cl_in hC
  have hw := wd_get (cA := cA) (ad := ad) (T := T) hq
  rw [ce_ob (cl_lt hC)] at hw
  obtain ⟨ty, hty1, hnar, hfit⟩ : ∃ ty, parseFieldDescriptor (Tb j).2.2.1 = some ty ∧ narrow ty (.int (Int32.ofInt x)) = .int (Int32.ofInt x) ∧ fits ty (.int (Int32.ofInt x)) = true := by
    rcases hds with h | ⟨h, k9, h9⟩
    · exact ⟨.int, by rw [h]; decide +kernel, rfl, rfl⟩
    · rw [ht] at h9
      cases h9
      refine ⟨.boolean, by rw [h]; decide +kernel, nr_z h1 h2, ?_⟩
      have : x = 0 ∨ x = 1 := by omega
      rcases this with rfl | rfl <;> decide
  refine va_put (D := D) (ci := ci) (C := C) (T := Tb) (N := N) (own := Y.1) (ref := (Tb j).1) (index := idx) (ty := ty) (v := .int (Int32.ofInt x)) X.1 X.2.1 X.2.2.2.2.2.1 hin ty0 hty hnm X.2.2.2.2.2.2.1 X.2.2.2.2.2.2.2.1 hP hD hS q0 hw hC j hjN (X.2.2.2.2.2.1 _ hlk) (fun _ h => h) hfin hty1 hnar hfit (by rw [List.length_map, List.length_zipIdx, ← hN]; exact hjN) hd (fun H1 locs1 hP1 hD1 hS1 => ?_)
  have e1 : ((tf_ (100 + ci)).zipIdx.map fun q => en_v ad (fv_ q.1.1 q.1.2.1 (T (100 + ci) i (q.2 : Int)) i)).set j (.int (Int32.ofInt x)) = (tf_ (100 + ci)).zipIdx.map fun q => en_v ad (fv_ q.1.1 q.1.2.1 (up_ T (100 + ci) i (j : Int) x (100 + ci) i (q.2 : Int)) i) := by
    apply List.ext_getElem?
    intro n
    rw [List.getElem?_set]
    by_cases en : j = n
    · subst en
      rw [if_pos rfl, if_pos (by rw [List.length_map, List.length_zipIdx, ← hN]; exact hjN), fs_at (T := up_ T (100 + ci) i (j : Int) x) ht, up_s]
      rfl
    · rw [if_neg en, List.getElem?_map, List.getElem?_map, List.getElem?_zipIdx]
      cases hn9 : (tf_ (100 + ci))[n]? with
      | none => rfl
      | some q =>
        simp only [Option.map_some]
        rw [up_n (fun q => by omega)]
  have e2 : (wd_ cA ad T ids).set q0 (ad (100 + ci) i, .inr (ci, ((tf_ (100 + ci)).zipIdx.map fun q => en_v ad (fv_ q.1.1 q.1.2.1 (T (100 + ci) i (q.2 : Int)) i)).set j (.int (Int32.ofInt x)))) = wd_ cA ad (up_ T (100 + ci) i (j : Int) x) ids := by
    rw [e1, ← ce_ob (cl_lt hC) (T := up_ T (100 + ci) i (j : Int) x) (cA := cA)]
    exact wd_set hD hq (fun k' i' h => up_o h)
  rw [e2] at hP1 hD1
  have k2 := k l p e s m args below meth c0 D cA ad0 A X ad H1 locs1 cells slots lsC hc hs ⟨ids, fun k i => (hup k i).trans (hids k i), hP1, hD1⟩ hS1 ⟨fun k i h => (hup k i).mpr (hB.1 k i h), hB.2⟩ (ok_upF hT ht h1 h2) ⟨fun k9 v h => okv_mono (fun k i => (hup k i).mpr) (hL.1 k9 v h), fun v h => okv_mono (fun k i => (hup k i).mpr) ((ok_tail (ok_tail hL)).2 v h)⟩ hl hn
  rw [show (pc + 3).toNat = pc.toNat + 3 by omega] at k2
  exact k2
end JC
