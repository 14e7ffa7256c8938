/-- the plays under what leaves all rows but one -/
theorem plr_a {T T1 : Zt} {N w : Int} (hl : LP_ N T) (hP : PLR_ T) (k : ks_ [(102, [0, 6, 10]), (103, []), (448, []), (449, []), (466, []), (467, []), (468, []), (469, []), (470, []), (471, []), (472, []), (473, []), (401, [])] T T1) (kr : ks_ FRF_ T T1) (c1 : T1 106 0 4 = T 106 0 4) (c2 : T1 111 0 29 = T 111 0 29) (h : ∀ x j, x < T 191 0 0 → x ≠ w → T1 190 x j = T 190 x j) (g : ∀ m, 0 ≤ m → m < T 106 0 4 → T 102 m 10 ≠ 0 → T 103 m 14 ≠ w) : PLR_ T1 := by
  refine plr_s (m := -1) hP c1 c2 (fun z => absurd z (by decide)) (fun j j0 j1 _ => ⟨⟨fun K i d => ?_, ⟨k 102 j 0 rfl, k 102 j 6 rfl, k 102 j 10 rfl⟩, ⟨k 103 j 0 rfl, k 103 j 14 rfl, k 103 j 15 rfl, k 103 j 17 rfl⟩, fun w => k 401 _ w rfl, fun q i _ _ => h _ i (hl j j0 j1 q).1.2.2.2.2.2.1 (g j j0 j1 q)⟩, kqm_s kr⟩) (fun j _ _ => ⟨kr 236 0 j rfl, kr 237 0 j rfl⟩)
  rcases dk_c d with rfl | rfl | rfl | rfl | rfl | rfl | rfl | rfl | rfl | rfl | ⟨rfl, _⟩ <;> exact k _ j i rfl
theorem ldr_a {T T1 : Zt} {N : Int} (hl : LP_ N T) (h : LDR_ T) (e : T1 106 0 4 = T 106 0 4) (e15 : T1 109 0 15 = T 109 0 15) (g : ∀ m, T1 102 m 10 = T 102 m 10 ∧ T1 103 m 14 = T 103 m 14 ∧ T1 103 m 16 = T 103 m 16) (l : T 191 0 0 ≤ T1 191 0 0) (k : T1 104 0 4 = T 104 0 4 ∨ (T1 104 0 4 = T 191 0 0 ∧ T 191 0 0 < T1 191 0 0)) : LDR_ T1 := by
  refine ⟨by have := h.1; omega, fun m m0 m1 mp => ?_⟩
  have gm := g m
  have y := h.2 m m0 (by omega) (by omega)
  have lm := (hl m m0 (by omega) (by omega)).1.2.2.2.2.2.1
  refine ⟨by have := y.1; omega, fun j j0 j1 jp n => ?_⟩
  have gj := g j
  have w := y.2 j j0 (by omega) (by omega) n
  omega
theorem ldr_c {T T1 : Zt} {N : Int} (hl : LP_ N T) (h : LDR_ T) (e : T1 106 0 4 = T 106 0 4) (e44 : T1 104 0 4 = T 104 0 4) (g : ∀ m, T1 102 m 10 = T 102 m 10 ∧ T1 103 m 14 = T 103 m 14 ∧ T1 103 m 16 = T 103 m 16) (l : T 191 0 0 ≤ T1 191 0 0) (k : T1 109 0 15 = T 109 0 15 ∨ (T1 109 0 15 = T 191 0 0 + 1 ∧ T 191 0 0 < T1 191 0 0)) : LDR_ T1 := by
  refine ⟨by have := h.1; omega, fun m m0 m1 mp => ?_⟩
  have gm := g m
  have y := h.2 m m0 (by omega) (by omega)
  have lm := (hl m m0 (by omega) (by omega)).1.2.2.2.2.2.1
  refine ⟨by have := y.1; omega, fun j j0 j1 jp n => ?_⟩
  have gj := g j
  have w := y.2 j j0 (by omega) (by omega) n
  omega
/-- referees shared out -/
theorem pl_assign {T T1 : Zt} {N : Int} (hI : IC_ N T) (hP : PLR_ T) (hL : LDR_ T) (f1 : fr_ [(104, [3, 4]), (482, []), (102, [7]), (190, []), (191, [0])] T T1) (k : KPA_ T T1) (lh : lh_ T T1) : PLR_ T1 ∧ LDR_ T1 :=
  ⟨plr_a hI.2.2.2.1 hP (ks_f f1 (by decide +kernel)) (ks_f f1 (by decide +kernel)) (f1 106 0 4 rfl) (f1 111 0 29 rfl) k.1 (fun m a b c => (hL.2 m a b c).1.2.1), ldr_a hI.2.2.2.1 hL (f1 106 0 4 rfl) (f1 109 0 15 rfl) (fun m => ⟨f1 102 m 10 rfl, f1 103 m 14 rfl, f1 103 m 16 rfl⟩) lh.2 k.2⟩
/-- the title asked for -/
theorem pl_can {T T1 : Zt} {N : Int} (hI : IC_ N T) (hP : PLR_ T) (hL : LDR_ T) (f1 : fr_ [(109, [5, 3, 9, 6, 2, 15]), (584, []), (588, []), (587, []), (591, []), (592, []), (590, []), (593, []), (594, []), (107, [1]), (542, []), (543, []), (544, []), (545, []), (546, []), (190, []), (191, [0])] T T1) (k : KPT_ T T1) (lh : lh_ T T1) : PLR_ T1 ∧ LDR_ T1 :=
  ⟨plr_a (w := T 109 0 15 - 1) hI.2.2.2.1 hP (ks_f f1 (by decide +kernel)) (ks_f f1 (by decide +kernel)) (f1 106 0 4 rfl) (f1 111 0 29 rfl) (fun x j a b => k.1 x j a (by omega)) (fun m a b c => by have := (hL.2 m a b c).1.2.2; omega), ldr_c hI.2.2.2.1 hL (f1 106 0 4 rfl) (f1 104 0 4 rfl) (fun m => ⟨f1 102 m 10 rfl, f1 103 m 14 rfl, f1 103 m 16 rfl⟩) lh.2 k.2⟩
/-- a new competition -/
theorem pl_comp {T T1 : Zt} {N : Int} (hI : IC_ N T) (hP : PLR_ T) (k : ks_ [(102, [0, 6, 10]), (103, []), (448, []), (449, []), (466, []), (467, []), (468, []), (469, []), (470, []), (471, []), (472, []), (473, []), (190, [])] T T1) (kr : ks_ FRF_ T T1) (c1 : T1 106 0 4 = T 106 0 4) (c2 : T1 111 0 29 = T 111 0 29) (h : ∀ i j, i ≠ T 106 0 2 → T1 401 i j = T 401 i j) : PLR_ T1 := by
  refine plr_s (m := -1) hP c1 c2 (fun z => absurd z (by decide)) (fun j j0 j1 _ => ⟨⟨fun K i d => ?_, ⟨k 102 j 0 rfl, k 102 j 6 rfl, k 102 j 10 rfl⟩, ⟨k 103 j 0 rfl, k 103 j 14 rfl, k 103 j 15 rfl, k 103 j 17 rfl⟩, fun w => h _ w (by have := (hI.1.2.1 j j0 j1).2; omega), fun _ i _ _ => k 190 _ i rfl⟩, kqm_s kr⟩) (fun j _ _ => ⟨kr 236 0 j rfl, kr 237 0 j rfl⟩)
  rcases dk_c d with rfl | rfl | rfl | rfl | rfl | rfl | rfl | rfl | rfl | rfl | ⟨rfl, _⟩ <;> exact k _ j i rfl
/-- a home has its matches of a competition on different days still -/
theorem dd_p {T T1 : Zt} {p d x : Int} (hd : DD_ T) (e4 : T1 106 0 4 = T 106 0 4) (m4 : 0 ≤ T 106 0 4) (h : PTO_ T T1 p d x) : DD_ T1 := by
  rcases h with ⟨-, -, o, -, -⟩ | ⟨-, -, y2, z1, z2, -, -⟩
  · intro i j i0 i1 j1 a b c e q
    rw [o i 6] at a
    rw [o j 6] at b
    rw [o i 0, o j 0] at c
    rw [o i 3, o j 3] at e
    rw [o i 5, o j 5] at q
    rw [e4] at j1
    exact hd i j i0 i1 j1 a b c e q
  · intro i j i0 i1 j1 a b c e q
    rw [z2 i 6 (by decide)] at a
    rw [z2 j 6 (by decide)] at b
    rw [z2 i 0 (by decide), z2 j 0 (by decide)] at c
    rw [z2 i 3 (by decide), z2 j 3 (by decide)] at e
    rw [z1, z1] at q
    rw [e4] at j1
    have g := mv_dd (sq := sqH_ T) (hq := hqH_ T) (R := fun a b => T 102 a 0 = T 102 b 0 ∧ T 102 a 3 = T 102 b 3) (rs := rsH_ T) (ab := abH_ T) (n := T 106 0 4) (p := p) (d := d) (ag := AGH_ T p d) (day := u1_ (fun m => T 102 m 5) p d) (fun a b r => by
        show T 560 0 (T 102 a 3) = T 560 0 (T 102 b 3)
        rw [r.2]) (fun a b r => ⟨r.1.symm, r.2.symm⟩) (fun a b a0 a1 b0 b1 ne ha hb r eq => by
        by_cases wa : a = p
        · refine Or.inl ⟨wa, fun w => ne (wa.trans w), wa ▸ ha, hb, Or.inl ⟨?_, ?_⟩⟩
          · rw [wa, u1_s, u1_n (fun w => ne (wa.trans w.symm))] at eq
            exact eq
          · show T 560 0 (T 102 p 3) = T 560 0 (T 102 b 3)
            rw [← wa, r.2]
        · by_cases wb : b = p
          · refine Or.inr ⟨wb, fun w => wa w.symm, wb ▸ hb, ha, Or.inl ⟨?_, ?_⟩⟩
            · rw [wb, u1_s, u1_n wa] at eq
              exact eq.symm
            · show T 560 0 (T 102 p 3) = T 560 0 (T 102 a 3)
              rw [← wb, r.2]
          · rw [u1_n wa, u1_n wb] at eq
            exfalso
            rcases Int.lt_or_gt_of_ne ne with u | u
            · exact hd a b a0 u b1 ha hb r.1 r.2 eq
            · exact hd b a b0 u a1 hb ha r.1.symm r.2.symm eq.symm) (T 106 0 4).toNat (by omega) y2 i j i0 (by omega) (by omega) j1 (by omega) a b ⟨c, e⟩ q
    omega
