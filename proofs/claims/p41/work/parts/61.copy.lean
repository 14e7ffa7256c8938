-- references into rows, casts, clones, copies of rows
section JQ
variable {Y Yc : Zm} {T0 T : Zt} {P : Zt → Option Zv → Prop} {bc bs bc' bs' : Nat} {pc : Int} {ls : Zl} {st rest : List Zv}
theorem j_castA {idx k : Nat} {mo : Option Int} {lo hi i : Int} (hp : 0 ≤ pc) (ha : ta_ k = some (1, mo, lo, hi)) (hcl : Cond.classLink Y.1 idx "[I" ∈ lw_g) (hd : decode Y.2.1 pc.toNat = .ok (.checkcast idx, 3)) (kk : J_ Y T0 P bc bs (pc + 3) ls (vR k i :: st) T) : J_ Y T0 P bc bs pc ls (vR k i :: st) T := by
  intro l p e s m args below meth c D cA ad0 A X ad H locs cells slots lsC hc hs hR hS hB hT hL hl hln
  have hal : al_ T k i := ok_al (v := none) (by have := ta_ge ha; omega) (ok_head hL)
  obtain ⟨ids, q0, hq, hids, hP, hD⟩ := rp_at hR hal
  have hw := wd_get (cA := cA) (ad := ad) (T := T) hq
  unfold ce_ at hw
  rw [ha] at hw
  have k2 := kk l p e s m args below meth c D cA ad0 A X ad H locs cells slots lsC hc hs hR hS hB hT hL hl hln
  rw [show (pc + 3).toNat = pc.toNat + 3 by omega] at k2
  exact va_castA X.1 X.2.1 X.2.2.2.2.2.2.1 (X.2.2.2.2.2.1 _ hcl) hP q0 hw (va_nm_int (X.2.2.2.2.2.2.2.1.2 0 (cA 0, .int) rfl).2) hd k2
/-- a thing is put into the rows competitions and matches, at its own number -/
theorem j_aast {k ko : Nat} {n : Option Int} {lo hi i x : Int} (hp : 0 ≤ pc) (hk : (k = 521 ∧ ko = 100) ∨ (k = 523 ∧ ko = 102)) (ha : ta_ k = some (ko / 2 - 46, n, lo, hi)) (hd : decode Y.2.1 pc.toNat = .ok (.aastore, 1)) (h1 : 0 ≤ x) (h2 : x < ln_ T k i) (hlh : lo ≤ 1 ∧ 1 ≤ hi) (kk : J_ Y T0 P bc bs (pc + 1) ls st (up_ T k i x 1)) : J_ Y T0 P bc bs pc ls (vR ko x :: vI x :: vR k i :: st) T := by
  intro l p e s m args below meth c0 D cA ad0 A X ad H locs cells slots lsC hc hs hR hS hB hT hL hl hn
  have hx : -2147483648 ≤ x ∧ x ≤ 2147483647 := ok_head (ok_tail hL)
  have hal : al_ T k i := ok_al (v := none) (by omega) (ok_head (ok_tail (ok_tail hL)))
  have halo : al_ T ko x := ok_al (v := none) (by omega) (ok_head hL)
  have hup := al_up (T := T) (k := k) (i := i) (j := x) (x := 1) (by omega)
  obtain ⟨ids, q0, hq, hids, hP, hD⟩ := rp_at hR hal
  obtain ⟨q1, hq1⟩ := List.getElem?_of_mem ((hids ko x).mp halo)
  have hw := wd_get (cA := cA) (ad := ad) (T := T) hq
  have hw1 := wd_get (cA := cA) (ad := ad) (T := T) hq1
  have hin := i3_in h1 h2 hx.2
  have hok : ok_T (up_ T k i x 1) := by
    obtain ⟨a1, a2, a3, a4, a5, a6, a7, a8, a9⟩ := hT
    have hk5 : k = 521 ∨ k = 523 := by omega
    refine ⟨fun k' t' n' lo' hi' h i' x' hx => ?_, fun k' j' c k'' lo' hi' h i' => ?_, fun i' => ?_, fun k' i' hl' j' c k'' lo' hi' h => ?_, fun i' x' hx h => ?_, fun i' x' hx h => ?_, fun k' i' h q => a7 k' i' h ((hup _ _).mp q), fun k' i' o h q => (a8 k' i' o h ((hup _ _).mp q)).imp (hup _ _).mpr (hup _ _).mpr, fun i' h q => ?_⟩
    · by_cases e : k' = k ∧ i' = i ∧ x' = x
      · obtain ⟨rfl, rfl, rfl⟩ := e
        rw [ha] at h
        cases h
        rw [up_s]
        exact hlh
      · rw [up_n e]
        exact a1 k' t' n' lo' hi' h i' x' hx
    · have := tf_lt h
      rw [up_n (fun e => by omega)]
      exact a2 k' j' c k'' lo' hi' h i'
    · rw [up_n (fun e => by omega)]
      exact a3 i'
    · have := tf_lt h
      rw [up_n (fun e => by omega)]
      exact okv_mono (fun k i => (hup k i).mpr) (a4 k' i' ((hup k' i').mp hl') j' c k'' lo' hi' h)
    · by_cases e : 521 = k ∧ i' = i ∧ x' = x
      · obtain ⟨rfl, rfl, rfl⟩ := e
        have : ko = 100 := by omega
        subst this
        exact (hup _ _).mpr halo
      · rw [up_n e] at h
        exact (hup _ _).mpr (a5 i' x' hx h)
    · by_cases e : 523 = k ∧ i' = i ∧ x' = x
      · obtain ⟨rfl, rfl, rfl⟩ := e
        have : ko = 102 := by omega
        subst this
        exact (hup _ _).mpr halo
      · rw [up_n e] at h
        exact (hup _ _).mpr (a6 i' x' hx h)
    · rw [up_n (fun e => by omega)] at h
      exact a9 i' h ((hup _ _).mp q)
  have e2 : (wd_ cA ad T ids).set q0 (ad k i, ce_ cA ad (up_ T k i x 1) k i) = wd_ cA ad (up_ T k i x 1) ids := wd_set hD hq (fun k' i' h => up_o h)
  have fin : ∀ (H1 : Heap) (locs1 : List Loc), va_P D vwCl (wd_ cA ad (up_ T k i x 1) ids) H1 → va_D A (wd_ cA ad (up_ T k i x 1) ids) → va_S A s.heap H1 locs1 → W p l e Y.2.2.2.2 s m args below meth c0 H1 locs1 cells slots (MQ below (Qc_ D cA ad0 T0 A P) args s Y.2.2.2.2.cells Y.2.2.2.2.slots A) (F0 m (pc.toNat + 1) lsC (st.map (en_v ad))) := fun H1 locs1 hP1 hD1 hS1 => by
    have k2 := kk l p e s m args below meth c0 D cA ad0 A X ad H1 locs1 cells slots lsC hc hs ⟨ids, fun k i => (hup k i).trans (hids k i), hP1, hD1⟩ hS1 ⟨fun k i h => (hup k i).mpr (hB.1 k i h), hB.2⟩ hok ⟨fun k9 v h => okv_mono (fun k i => (hup k i).mpr) (hL.1 k9 v h), fun v h => okv_mono (fun k i => (hup k i).mpr) ((ok_tail (ok_tail (ok_tail hL))).2 v h)⟩ hl hn
    rw [show (pc + 1).toNat = pc.toNat + 1 by omega] at k2
    exact k2
  have hcl := i3_cl h1 hx.2
  have hxn : (Int32.ofInt x).toNatClampNeg = x.toNat := by omega
  rcases hk with ⟨rfl, rfl⟩ | ⟨rfl, rfl⟩
  · have hL4 : ∀ T9 : Zt, ce_ cA ad T9 521 i = .inl (cA 3, (ln_ T9 521 i).toNat, .inr (.inr (.inr (.inr fun x => if T9 521 i (x : Int) = 0 then none else some (ad 100 x))))) := fun T9 => by
      unfold ce_
      rw [ta_521]
      rfl
    rw [hL4] at hw e2
    rw [show (100 : Nat) = 100 + 0 from rfl, ce_ob (by omega)] at hw1
    refine va_astq X.1 X.2.1 X.2.2.2.2.2.2.2.1 hP hD hS q0 3 q1 0 hw rfl hw1 vi_0 hin hd (fun H1 locs1 hP1 hD1 hS1 => ?_)
    have ef : va_up (fun x : Nat => if T 521 i (x : Int) = 0 then none else some (ad 100 x)) (Int32.ofInt x).toNatClampNeg (some (ad (100 + 0) x)) = fun z : Nat => if up_ T 521 i x 1 521 i (z : Int) = 0 then none else some (ad 100 z) := by
      funext z
      unfold va_up
      by_cases ez : z = (Int32.ofInt x).toNatClampNeg
      · have : (z : Int) = x := by omega
        rw [if_pos ez, this, up_s, if_neg (by decide)]
      · rw [if_neg ez, up_n (fun q => ez (by omega))]
    rw [ef, ← ln_up (T := T) (k := 521) (i := i) (x := 1) h1, e2] at hP1 hD1
    exact fin H1 locs1 hP1 hD1 hS1
  · have hL4 : ∀ T9 : Zt, ce_ cA ad T9 523 i = .inl (cA 4, (ln_ T9 523 i).toNat, .inr (.inr (.inr (.inr fun x => if T9 523 i (x : Int) = 0 then none else some (ad 102 x))))) := fun T9 => by
      unfold ce_
      rw [ta_523]
      rfl
    rw [hL4] at hw e2
    rw [show (102 : Nat) = 100 + 2 from rfl, ce_ob (by omega)] at hw1
    refine va_astq X.1 X.2.1 X.2.2.2.2.2.2.2.1 hP hD hS q0 4 q1 2 hw rfl hw1 vi_2 hin hd (fun H1 locs1 hP1 hD1 hS1 => ?_)
    have ef : va_up (fun x : Nat => if T 523 i (x : Int) = 0 then none else some (ad 102 x)) (Int32.ofInt x).toNatClampNeg (some (ad (100 + 2) x)) = fun z : Nat => if up_ T 523 i x 1 523 i (z : Int) = 0 then none else some (ad 102 z) := by
      funext z
      unfold va_up
      by_cases ez : z = (Int32.ofInt x).toNatClampNeg
      · have : (z : Int) = x := by omega
        rw [if_pos ez, this, up_s, if_neg (by decide)]
      · rw [if_neg ez, up_n (fun q => ez (by omega))]
    rw [ef, ← ln_up (T := T) (k := 523) (i := i) (x := 1) h1, e2] at hP1 hD1
    exact fin H1 locs1 hP1 hD1 hS1
end JQ
theorem im_ev (n : Nat) : im_ (2 * n) = false := by
  unfold im_
  simp only [Bool.or_eq_false_iff, beq_eq_false_iff_ne]
  omega
section JR2
variable {Y Yc : Zm} {T0 T : Zt} {P : Zt → Option Zv → Prop} {bc bs bc' bs' : Nat} {pc : Int} {ls : Zl} {st rest : List Zv}
theorem j_mono (h1 : bc' ≤ bc) (h2 : bs' ≤ bs) (k : J_ Y T0 P bc' bs' pc ls st T) : J_ Y T0 P bc bs pc ls st T := by
  intro l p e s m args below meth c D cA ad0 A X ad H locs cells slots lsC hc hs hR hS hB hT hL hl hln
  exact k l p e s m args below meth c D cA ad0 A X ad H locs cells slots lsC (by omega) (by omega) hR hS hB hT hL hl hln
theorem nv_fr {U : Zt} {n : Int} (h : U = nv_ T n) : fr_ [(190, []), (191, [0])] T U := fun k i j w => by
  subst h
  unfold nv_
  rw [up_n (fun z => by rw [z.1, z.2.2] at w; exact absurd w (by decide)), nu_o (fun z => by rw [z.1] at w; simp [fw_] at w)]
theorem nv_t9 {U : Zt} {n : Int} (h : U = nv_ T n) : U 191 0 0 = T 191 0 0 + 1 := by rw [h]; exact nv_9
theorem nv_tl {U : Zt} {n : Int} (h : U = nv_ T n) : U 190 (T 191 0 0) (-2) = n := by rw [h, nv_s, nu_l]
theorem nv_to {U : Zt} {n : Int} (h : U = nv_ T n) (x j : Int) (hx : x ≠ T 191 0 0) : U 190 x j = T 190 x j := by rw [h, nv_o (fun z => hx z.2) (by decide)]
theorem nu_fr {U : Zt} {k : Nat} {i n : Int} {f : Int → Int} (h : U = nu_ T k i n f) : fr_ [(k, [])] T U := fun k' i' j w => by
  subst h
  rw [nu_o (fun z => by rw [z.1] at w; simp [fw_] at w)]
theorem nu_tz {U : Zt} {k : Nat} {i n : Int} (h : U = nu_ T k i n (fun _ => 0)) (j : Int) (hj : 0 ≤ j) : U k i j = 0 := by rw [h, nu_p hj]
theorem nu_to {U : Zt} {k : Nat} {i n : Int} {f : Int → Int} (h : U = nu_ T k i n f) (k' : Nat) (i' j : Int) (hx : ¬ (k' = k ∧ i' = i)) : U k' i' j = T k' i' j := by rw [h, nu_o hx]
theorem nu_tv {U : Zt} {k : Nat} {i n : Int} {f : Int → Int} (h : U = nu_ T k i n f) : U k i (-1) = 1 := by rw [h, nu_s, if_pos rfl]
theorem fv5_ {k' : Nat} {x i : Int} (h : 0 ≤ x) : fv_ 5 k' (x + 1) i = vR k' x := by
  show (if x + 1 = 0 then vN else vR k' (x + 1 - 1)) = _
  rw [if_neg (by omega), show x + 1 - 1 = x by omega]
theorem nf_0 (i : Int) (ad : Nat → Int → Nat) (j : Nat) (h : j < 9) : defaultValue (tyX0 j) = vp_V (rw_fs 0 ad i) j := by
  have e : rw_fs 0 ad i = [.int 0, .null, .null, .null, .null, .int 0, .int 0, .int 0, .int 0] := rfl
  have e2 : ∀ j, j < 9 → defaultValue (tyX0 j) = vp_V [.int 0, .null, .null, .null, .null, .int 0, .int 0, .int 0, .int 0] j := by decide +kernel
  rw [e]
  exact e2 j h
theorem nf_2 (i : Int) (ad : Nat → Int → Nat) (j : Nat) (h : j < 11) : defaultValue (tyX2 j) = vp_V (rw_fs 2 ad i) j := by
  have e : rw_fs 2 ad i = [.null, .int 0, .int 0, .int 0, .int 0, .int 0, .int 0, .int 0, .null, .null, .null] := rfl
  have e2 : ∀ j, j < 11 → defaultValue (tyX2 j) = vp_V [.null, .int 0, .int 0, .int 0, .int 0, .int 0, .int 0, .int 0, .null, .null, .null] j := by decide +kernel
  rw [e]
  exact e2 j h
theorem nf_3 (i : Int) (ad : Nat → Int → Nat) (j : Nat) (h : j < 18) : defaultValue (tyX3 j) = vp_V (rw_fs 3 ad i) j := by
  have e : rw_fs 3 ad i = [.null, .null, .null, .int 0, .int 0, .int 0, .null, .null, .null, .null, .null, .null, .null, .null, .null, .int 0, .null, .int 0] := rfl
  have e2 : ∀ j, j < 18 → defaultValue (tyX3 j) = vp_V [.null, .null, .null, .int 0, .int 0, .int 0, .null, .null, .null, .null, .null, .null, .null, .null, .null, .int 0, .null, .int 0] j := by decide +kernel
  rw [e]
  exact e2 j h
/-- a part of a row is copied into another -/
def cp_ (T : Zt) (a b n : Int) : Zt := fun k i j => if k = 190 ∧ i = b ∧ 0 ≤ j ∧ j < n then T 190 a j else T k i j
theorem cp_n {a b n : Int} {k : Nat} {i j : Int} (h : ¬ (k = 190 ∧ i = b ∧ 0 ≤ j ∧ j < n)) : cp_ T a b n k i j = T k i j := by
  unfold cp_
  rw [if_neg h]
theorem al_cp {a b n : Int} (k : Nat) (i : Int) : al_ (cp_ T a b n) k i ↔ al_ T k i := by
  unfold al_
  rw [cp_n (fun z => by omega)]
theorem ok_cp (hT : ok_T T) {a b n : Int} : ok_T (cp_ T a b n) := by
  obtain ⟨a1, a2, a3, a4, a5, a6, a7, a8, a9⟩ := hT
  refine ⟨fun k' t' n' lo' hi' h i' x' hx => ?_, fun k' j' c k'' lo' hi' h i' => ?_, fun i' => ?_, fun k' i' hl' j' c k'' lo' hi' h => ?_, fun i' x' hx h => ?_, fun i' x' hx h => ?_, fun k' i' h q => a7 k' i' h ((al_cp _ _).mp q), fun k' i' o h q => (a8 k' i' o h ((al_cp _ _).mp q)).imp (al_cp _ _).mpr (al_cp _ _).mpr, fun i' h q => ?_⟩
  · by_cases e : k' = 190 ∧ i' = b ∧ 0 ≤ x' ∧ x' < n
    · obtain ⟨rfl, rfl, -⟩ := e
      unfold cp_
      split
      · exact a1 _ _ _ _ _ h a x' hx
      · exact a1 _ _ _ _ _ h i' x' hx
    · rw [cp_n e]
      exact a1 k' t' n' lo' hi' h i' x' hx
  · have := tf_lt h
    rw [cp_n (fun e => by omega)]
    exact a2 k' j' c k'' lo' hi' h i'
  · rw [cp_n (fun e => by omega)]
    exact a3 i'
  · have := tf_lt h
    rw [cp_n (fun e => by omega)]
    exact okv_mono (fun k i => (al_cp k i).mpr) (a4 k' i' ((al_cp k' i').mp hl') j' c k'' lo' hi' h)
  · rw [cp_n (fun e => by omega)] at h
    exact (al_cp _ _).mpr (a5 i' x' hx h)
  · rw [cp_n (fun e => by omega)] at h
    exact (al_cp _ _).mpr (a6 i' x' hx h)
  · rw [cp_n (fun e => by omega)] at h
    exact a9 i' h ((al_cp _ _).mp q)
theorem cp_fr {U : Zt} {a b n : Int} (h : U = cp_ T a b n) : fr_ [(190, [])] T U := fun k i j w => by
  subst h
  rw [cp_n (fun z => by rw [z.1] at w; simp [fw_] at w)]
theorem cp_l {U : Zt} {a b n : Int} (h : U = cp_ T a b n) (x : Int) : U 190 x (-2) = T 190 x (-2) := by rw [h, cp_n (fun z => by omega)]
theorem cp_o {U : Zt} {a b n : Int} (h : U = cp_ T a b n) (x j : Int) (hx : x ≠ b) : U 190 x j = T 190 x j := by rw [h, cp_n (fun z => hx z.2.1)]
theorem j_acp {idx : Nat} {a b n : Int} (hp : 0 ≤ pc) (h0 : 0 ≤ n) (h1 : n ≤ T 190 a (-2)) (h2 : n ≤ T 190 b (-2)) (hml : Cond.methodLink Y.1 idx arraycopyName ∈ lw_g) (hna : Cond.native arraycopyName ∈ lw_g) (hst : Cond.static arraycopyName ∈ lw_g) (hin : Cond.initialized "java/lang/System" ∈ lw_g) (hd : decode Y.2.1 pc.toNat = .ok (.invokestatic idx, 3)) (hf : 1 ≤ Y.2.2.2.2.frames) (hlo : 8 + (nativeFrameWords "java/lang/System" "arraycopy" 5 + 11) ≤ Y.2.2.2.2.locals) (hrest : st.length ≤ 4) (kk : J_ Y T0 P bc bs (pc + 3) ls st (cp_ T a b n)) : J_ Y T0 P bc bs pc ls (vI n :: vI 0 :: vR 190 b :: vI 0 :: vR 190 a :: st) T := by
  intro l p e s m args below meth c D cA ad0 A X ad H locs cells slots lsC hc hs hR hS hB hT hL hl hln
  have hb : al_ T 190 b := ok_al (v := none) (by omega) (ok_head (ok_tail (ok_tail hL)))
  have ha : al_ T 190 a := ok_al (v := none) (by omega) (ok_head (ok_tail (ok_tail (ok_tail (ok_tail hL)))))
  have hn : -2147483648 ≤ n ∧ n ≤ 2147483647 := ok_head hL
  obtain ⟨ids, q0, hq, hids, hP, hD⟩ := rp_at hR ha
  obtain ⟨q1, hq1⟩ := List.getElem?_of_mem ((hids 190 b).mp hb)
  have w := X.2.2.2.2.2.1
  have sm := en_sum (ad := ad) st
  have hwa := wd_get (cA := cA) (ad := ad) (T := T) hq
  rw [ce_i (n := T 190 a (-2)) ta_190 (Or.inl ⟨rfl, rfl⟩)] at hwa
  have hwb := wd_get (cA := cA) (ad := ad) (T := T) hq1
  rw [ce_i (n := T 190 b (-2)) ta_190 (Or.inl ⟨rfl, rfl⟩)] at hwb
  have hcl := i3_cl h0 hn.2
  have hin2 := i3_in h0 (show n < n + 1 by omega) hn.2
  have z0 : (0 : Int32).toNatClampNeg = 0 := by decide
  have e2 : (wd_ cA ad T ids).set q1 (ad 190 b, ce_ cA ad (cp_ T a b n) 190 b) = wd_ cA ad (cp_ T a b n) ids := by
    refine wd_set hD hq1 (fun k' i' h => ?_)
    funext j
    exact cp_n (fun z => h (by rw [z.1, z.2.1]))
  rw [ce_i (n := T 190 b (-2)) ta_190 (Or.inl ⟨rfl, by rw [cp_n (fun z => by omega)]⟩)] at e2
  refine va_copyi (n := Int32.ofInt n) (sp := 0) (dp := 0) (ty := .int) X.1 X.2.1 (X.2.2.1.trans hl.1.symm) X.2.2.2.2.2.2.1 (w _ hml) (w _ hna) (w _ hst) (w _ hin) X.2.2.2.2.2.2.2.1 hP hD hS q0 q1 0 0 hwa hwb rfl rfl rfl (by decide) (by decide) (fun z => hin2 (Or.inl z)) (by rw [z0]; omega) (by rw [z0]; omega) (fun _ _ => rfl) hf (by omega) hd (fun H1 locs1 hP1 hD1 hS1 => ?_)
  have ef : va_cpy (fun x : Nat => Int32.ofInt (T 190 a (x : Int))) (fun x : Nat => Int32.ofInt (T 190 b (x : Int))) (0 : Int32).toNatClampNeg (0 : Int32).toNatClampNeg (Int32.ofInt n).toNatClampNeg = fun x : Nat => Int32.ofInt (cp_ T a b n 190 b (x : Int)) := by
    funext x
    unfold va_cpy
    rw [z0]
    by_cases hx : (x : Int) < n
    · rw [if_pos (by omega)]
      unfold cp_
      rw [if_pos ⟨rfl, rfl, by omega, hx⟩, show 0 + (x - 0) = x by omega]
    · rw [if_neg (by omega), cp_n (fun z => hx z.2.2.2)]
  rw [ef, e2] at hP1 hD1
  have k2 := kk l p e s m args below meth c D cA ad0 A X ad H1 locs1 cells slots lsC hc hs ⟨ids, fun k i => (al_cp k i).trans (hids k i), hP1, hD1⟩ hS1 ⟨fun k i h => (al_cp k i).mpr (hB.1 k i h), hB.2⟩ (ok_cp hT) ⟨fun k9 v h => okv_mono (fun k i => (al_cp k i).mpr) (hL.1 k9 v h), fun v h => okv_mono (fun k i => (al_cp k i).mpr) ((ok_tail (ok_tail (ok_tail (ok_tail (ok_tail hL))))).2 v h)⟩ hl hln
  rw [show (pc + 3).toNat = pc.toNat + 3 by omega] at k2
  exact k2
end JR2

