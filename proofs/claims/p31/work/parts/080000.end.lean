section JA
variable {Y : Zm} {T0 T : Zt} {P : Zt → Option Zv → Prop} {bc bs : Nat} {pc : Int} {ls : Zl} {st : List Zv}
theorem ta_ge {k : Nat} {q : Nat × Option Int × Int × Int} (h : ta_ k = some q) : 154 ≤ k := by
  by_cases hk : k < 154
  · rw [tk_no k hk] at h; cases h
  · omega
theorem ln_r {k t : Nat} {n : Option Int} {lo hi : Int} (hT : ok_T T) (h : ta_ k = some (t, n, lo, hi)) (i : Int) : 0 ≤ ln_ T k i ∧ ln_ T k i ≤ 2147483647 := by
  have h1 := tc_of h
  unfold ln_
  rw [h]
  cases n with
  | none =>
    have hk : k = 190 := by
      by_cases hk : k < 640
      · exact (tc_all k hk).2 _ _ _ h
      · rw [ta_no (by omega)] at h; cases h
    subst hk
    exact hT.2.2.1 i
  | some m =>
    simp [tc_] at h1
    simp only
    omega
theorem ln_up {k : Nat} {i j x : Int} (hj : 0 ≤ j) : ln_ (up_ T k i j x) k i = ln_ T k i := by
  unfold ln_
  rw [up_n (fun e => by omega)]
theorem j_iald {k : Nat} {n : Option Int} {lo hi i x : Int} (hp : 0 ≤ pc) (ha : ta_ k = some (1, n, lo, hi)) (hd : decode Y.2.1 pc.toNat = .ok (.iaload, 1)) (h1 : 0 ≤ x) (h2 : x < ln_ T k i) (kk : lo ≤ T k i x → T k i x ≤ hi → J_ Y T0 P bc bs (pc + 1) ls (vI (T k i x) :: st) T) : J_ Y T0 P bc bs pc ls (vI x :: vR k i :: st) T := by
  intro l p e s m args below meth c0 D cA ad0 A X ad H locs cells slots lsC hc hs hR hS hB hT hL hl hn
  have hk := ta_ge ha
  have hal : al_ T k i := ok_al (v := none) (by omega) (ok_head (ok_tail hL))
  have hx : -2147483648 ≤ x ∧ x ≤ 2147483647 := ok_head hL
  obtain ⟨ids, q0, hq, hids, hP, hD⟩ := rp_at hR hal
  have hbd := hT.1 _ _ _ _ _ ha i x h1
  have hcb := tc_of ha
  simp [tc_] at hcb
  have k2 := kk hbd.1 hbd.2 l p e s m args below meth c0 D cA ad0 A X ad H locs cells slots lsC hc hs hR hS hB hT (ok_push (show ok_v T (vI (T k i x)) from ⟨by omega, by omega⟩) (ok_tail (ok_tail hL))) hl hn
  rw [show (pc + 1).toNat = pc.toNat + 1 by omega] at k2
  have hw := wd_get (cA := cA) (ad := ad) (T := T) hq
  unfold ce_ at hw
  rw [ha] at hw
  have hin := i3_in h1 h2 hx.2
  refine va_iald X.1 X.2.1 X.2.2.2.2.2.2.2.1 hP q0 0 hw rfl hin hd ?_
  rw [i3_cl h1 hx.2]
  exact k2
theorem j_zald {k : Nat} {n : Option Int} {lo hi i x : Int} (hp : 0 ≤ pc) (ha : ta_ k = some (2, n, lo, hi)) (hd : decode Y.2.1 pc.toNat = .ok (.baload, 1)) (h1 : 0 ≤ x) (h2 : x < ln_ T k i) (kk : lo ≤ T k i x → T k i x ≤ hi → J_ Y T0 P bc bs (pc + 1) ls (vI (T k i x) :: st) T) : J_ Y T0 P bc bs pc ls (vI x :: vR k i :: st) T := by
  intro l p e s m args below meth c0 D cA ad0 A X ad H locs cells slots lsC hc hs hR hS hB hT hL hl hn
  have hk := ta_ge ha
  have hal : al_ T k i := ok_al (v := none) (by omega) (ok_head (ok_tail hL))
  have hx : -2147483648 ≤ x ∧ x ≤ 2147483647 := ok_head hL
  obtain ⟨ids, q0, hq, hids, hP, hD⟩ := rp_at hR hal
  have hbd := hT.1 _ _ _ _ _ ha i x h1
  have hcb := tc_of ha
  simp [tc_] at hcb
  have k2 := kk hbd.1 hbd.2 l p e s m args below meth c0 D cA ad0 A X ad H locs cells slots lsC hc hs hR hS hB hT (ok_push (show ok_v T (vI (T k i x)) from ⟨by omega, by omega⟩) (ok_tail (ok_tail hL))) hl hn
  rw [show (pc + 1).toNat = pc.toNat + 1 by omega] at k2
  have hw := wd_get (cA := cA) (ad := ad) (T := T) hq
  unfold ce_ at hw
  rw [ha] at hw
  have hin := i3_in h1 h2 hx.2
  refine va_zald X.1 X.2.1 X.2.2.2.2.2.2.2.1 hP q0 1 hw rfl hin hd ?_
  rw [i3_cl h1 hx.2]
  exact k2
theorem j_lald {k : Nat} {n : Option Int} {lo hi i x : Int} (hp : 0 ≤ pc) (ha : ta_ k = some (3, n, lo, hi)) (hd : decode Y.2.1 pc.toNat = .ok (.laload, 1)) (h1 : 0 ≤ x) (h2 : x < ln_ T k i) (kk : lo ≤ T k i x → T k i x ≤ hi → J_ Y T0 P bc bs (pc + 1) ls (vL (T k i x) :: st) T) : J_ Y T0 P bc bs pc ls (vI x :: vR k i :: st) T := by
  intro l p e s m args below meth c0 D cA ad0 A X ad H locs cells slots lsC hc hs hR hS hB hT hL hl hn
  have hk := ta_ge ha
  have hal : al_ T k i := ok_al (v := none) (by omega) (ok_head (ok_tail hL))
  have hx : -2147483648 ≤ x ∧ x ≤ 2147483647 := ok_head hL
  obtain ⟨ids, q0, hq, hids, hP, hD⟩ := rp_at hR hal
  have hbd := hT.1 _ _ _ _ _ ha i x h1
  have hcb := tc_of ha
  simp [tc_] at hcb
  have k2 := kk hbd.1 hbd.2 l p e s m args below meth c0 D cA ad0 A X ad H locs cells slots lsC hc hs hR hS hB hT (ok_push (show ok_v T (vL (T k i x)) from ⟨by omega, by omega⟩) (ok_tail (ok_tail hL))) hl hn
  rw [show (pc + 1).toNat = pc.toNat + 1 by omega] at k2
  have hw := wd_get (cA := cA) (ad := ad) (T := T) hq
  unfold ce_ at hw
  rw [ha] at hw
  have hin := i3_in h1 h2 hx.2
  refine va_lald X.1 X.2.1 X.2.2.2.2.2.2.2.1 hP q0 2 hw rfl hin hd ?_
  rw [i3_cl h1 hx.2]
  exact k2
theorem j_iast {k : Nat} {n : Option Int} {lo hi i x v : Int} (hp : 0 ≤ pc) (ha : ta_ k = some (1, n, lo, hi)) (hd : decode Y.2.1 pc.toNat = .ok (.iastore, 1)) (h1 : 0 ≤ x) (h2 : x < ln_ T k i) (h3 : lo ≤ v) (h4 : v ≤ hi) (kk : J_ Y T0 P bc bs (pc + 1) ls st (up_ T k i x v)) : J_ Y T0 P bc bs pc ls (vI v :: vI x :: vR k i :: st) T := by
  intro l p e s m args below meth c0 D cA ad0 A X ad H locs cells slots lsC hc hs hR hS hB hT hL hl hn
  have hk := ta_ge ha
  have hal : al_ T k i := ok_al (v := none) (by omega) (ok_head (ok_tail (ok_tail hL)))
  have hup := al_up (T := T) (k := k) (i := i) (j := x) (x := v) (by omega)
  have hx : -2147483648 ≤ x ∧ x ≤ 2147483647 := ok_head (ok_tail hL)
  obtain ⟨ids, q0, hq, hids, hP, hD⟩ := rp_at hR hal
  have hcb := tc_of ha
  simp [tc_] at hcb
  have hw := wd_get (cA := cA) (ad := ad) (T := T) hq
  unfold ce_ at hw
  rw [ha] at hw
  refine va_iast X.1 X.2.1 X.2.2.2.2.2.2.2.1 hP hD hS q0 0 hw rfl (i3_in h1 h2 hx.2) hd (fun H1 locs1 hP1 hD1 hS1 => ?_)
  have e1 : upd (fun y : Nat => Int32.ofInt (T k i (y : Int))) (Int32.ofInt x).toNatClampNeg (Int32.ofInt v) = fun y : Nat => Int32.ofInt (up_ T k i x v k i (y : Int)) := by
    funext y
    by_cases ey : y = (Int32.ofInt x).toNatClampNeg
    · subst ey
      rw [i3_cl h1 hx.2, up_s]
      simp [upd]
    · rw [up_n (fun q => ey (by have := i3_cl h1 hx.2; omega))]
      simp [upd, ey]
  have e2 : ∀ z, z = ce_ cA ad (up_ T k i x v) k i → (wd_ cA ad T ids).set q0 (ad k i, z) = wd_ cA ad (up_ T k i x v) ids := by
    rintro z rfl
    exact wd_set hD hq (fun k' i' h => up_o h)
  have e3 : (.inl (cA 0, (ln_ T k i).toNat, .inl (upd (fun y : Nat => Int32.ofInt (T k i (y : Int))) (Int32.ofInt x).toNatClampNeg (Int32.ofInt v))) : va_E) = ce_ cA ad (up_ T k i x v) k i := by
    unfold ce_
    rw [ha, ln_up h1]
    simp only
    rw [e1]
  rw [e2 _ e3] at hP1 hD1
  have k2 := kk l p e s m args below meth c0 D cA ad0 A X ad H1 locs1 cells slots lsC hc hs ⟨ids, fun k i => (hup k i).trans (hids k i), hP1, hD1⟩ hS1 ⟨fun k i h => (hup k i).mpr (hB.1 k i h), hB.2⟩ (ok_upA hT ha (by decide) h1 h3 h4) ⟨fun k9 v h => okv_mono (fun k i => (hup k i).mpr) (hL.1 k9 v h), fun v h => okv_mono (fun k i => (hup k i).mpr) ((ok_tail (ok_tail (ok_tail hL))).2 v h)⟩ hl hn
  rw [show (pc + 1).toNat = pc.toNat + 1 by omega] at k2
  exact k2
theorem j_zast {k : Nat} {n : Option Int} {lo hi i x v : Int} (hp : 0 ≤ pc) (ha : ta_ k = some (2, n, lo, hi)) (hd : decode Y.2.1 pc.toNat = .ok (.bastore, 1)) (h1 : 0 ≤ x) (h2 : x < ln_ T k i) (h3 : lo ≤ v) (h4 : v ≤ hi) (kk : J_ Y T0 P bc bs (pc + 1) ls st (up_ T k i x v)) : J_ Y T0 P bc bs pc ls (vI v :: vI x :: vR k i :: st) T := by
  intro l p e s m args below meth c0 D cA ad0 A X ad H locs cells slots lsC hc hs hR hS hB hT hL hl hn
  have hk := ta_ge ha
  have hal : al_ T k i := ok_al (v := none) (by omega) (ok_head (ok_tail (ok_tail hL)))
  have hup := al_up (T := T) (k := k) (i := i) (j := x) (x := v) (by omega)
  have hx : -2147483648 ≤ x ∧ x ≤ 2147483647 := ok_head (ok_tail hL)
  obtain ⟨ids, q0, hq, hids, hP, hD⟩ := rp_at hR hal
  have hcb := tc_of ha
  simp [tc_] at hcb
  have hw := wd_get (cA := cA) (ad := ad) (T := T) hq
  unfold ce_ at hw
  rw [ha] at hw
  refine va_zast X.1 X.2.1 X.2.2.2.2.2.2.2.1 hP hD hS q0 1 hw rfl (i3_in h1 h2 hx.2) hd (fun H1 locs1 hP1 hD1 hS1 => ?_)
  have e1 : upd (fun y : Nat => Int32.ofInt (T k i (y : Int))) (Int32.ofInt x).toNatClampNeg (vp_nar .boolean (Int32.ofInt v)) = fun y : Nat => Int32.ofInt (up_ T k i x v k i (y : Int)) := by
    funext y
    by_cases ey : y = (Int32.ofInt x).toNatClampNeg
    · subst ey
      rw [i3_cl h1 hx.2, up_s]
      simp only [upd, if_pos]
      unfold vp_nar
      rw [nr_z (by omega) (by omega)]
    · rw [up_n (fun q => ey (by have := i3_cl h1 hx.2; omega))]
      simp [upd, ey]
  have e2 : ∀ z, z = ce_ cA ad (up_ T k i x v) k i → (wd_ cA ad T ids).set q0 (ad k i, z) = wd_ cA ad (up_ T k i x v) ids := by
    rintro z rfl
    exact wd_set hD hq (fun k' i' h => up_o h)
  have e3 : (.inl (cA 1, (ln_ T k i).toNat, .inl (upd (fun y : Nat => Int32.ofInt (T k i (y : Int))) (Int32.ofInt x).toNatClampNeg (vp_nar .boolean (Int32.ofInt v)))) : va_E) = ce_ cA ad (up_ T k i x v) k i := by
    unfold ce_
    rw [ha, ln_up h1]
    simp only
    rw [e1]
  rw [e2 _ e3] at hP1 hD1
  have k2 := kk l p e s m args below meth c0 D cA ad0 A X ad H1 locs1 cells slots lsC hc hs ⟨ids, fun k i => (hup k i).trans (hids k i), hP1, hD1⟩ hS1 ⟨fun k i h => (hup k i).mpr (hB.1 k i h), hB.2⟩ (ok_upA hT ha (by decide) h1 h3 h4) ⟨fun k9 v h => okv_mono (fun k i => (hup k i).mpr) (hL.1 k9 v h), fun v h => okv_mono (fun k i => (hup k i).mpr) ((ok_tail (ok_tail (ok_tail hL))).2 v h)⟩ hl hn
  rw [show (pc + 1).toNat = pc.toNat + 1 by omega] at k2
  exact k2
theorem j_last {k : Nat} {n : Option Int} {lo hi i x v : Int} (hp : 0 ≤ pc) (ha : ta_ k = some (3, n, lo, hi)) (hd : decode Y.2.1 pc.toNat = .ok (.lastore, 1)) (h1 : 0 ≤ x) (h2 : x < ln_ T k i) (h3 : lo ≤ v) (h4 : v ≤ hi) (kk : J_ Y T0 P bc bs (pc + 1) ls st (up_ T k i x v)) : J_ Y T0 P bc bs pc ls (vL v :: vI x :: vR k i :: st) T := by
  intro l p e s m args below meth c0 D cA ad0 A X ad H locs cells slots lsC hc hs hR hS hB hT hL hl hn
  have hk := ta_ge ha
  have hal : al_ T k i := ok_al (v := none) (by omega) (ok_head (ok_tail (ok_tail hL)))
  have hup := al_up (T := T) (k := k) (i := i) (j := x) (x := v) (by omega)
  have hx : -2147483648 ≤ x ∧ x ≤ 2147483647 := ok_head (ok_tail hL)
  obtain ⟨ids, q0, hq, hids, hP, hD⟩ := rp_at hR hal
  have hcb := tc_of ha
  simp [tc_] at hcb
  have hw := wd_get (cA := cA) (ad := ad) (T := T) hq
  unfold ce_ at hw
  rw [ha] at hw
  refine va_last X.1 X.2.1 X.2.2.2.2.2.2.2.1 hP hD hS q0 2 hw rfl (i3_in h1 h2 hx.2) hd (fun H1 locs1 hP1 hD1 hS1 => ?_)
  have e1 : vp_updL (fun y : Nat => Int64.ofInt (T k i (y : Int))) (Int32.ofInt x).toNatClampNeg (Int64.ofInt v) = fun y : Nat => Int64.ofInt (up_ T k i x v k i (y : Int)) := by
    funext y
    by_cases ey : y = (Int32.ofInt x).toNatClampNeg
    · subst ey
      rw [i3_cl h1 hx.2, up_s]
      simp [vp_updL]
    · rw [up_n (fun q => ey (by have := i3_cl h1 hx.2; omega))]
      simp [vp_updL, ey]
  have e2 : ∀ z, z = ce_ cA ad (up_ T k i x v) k i → (wd_ cA ad T ids).set q0 (ad k i, z) = wd_ cA ad (up_ T k i x v) ids := by
    rintro z rfl
    exact wd_set hD hq (fun k' i' h => up_o h)
  have e3 : (.inl (cA 2, (ln_ T k i).toNat, .inr (.inl (vp_updL (fun y : Nat => Int64.ofInt (T k i (y : Int))) (Int32.ofInt x).toNatClampNeg (Int64.ofInt v)))) : va_E) = ce_ cA ad (up_ T k i x v) k i := by
    unfold ce_
    rw [ha, ln_up h1]
    simp only
    rw [e1]
  rw [e2 _ e3] at hP1 hD1
  have k2 := kk l p e s m args below meth c0 D cA ad0 A X ad H1 locs1 cells slots lsC hc hs ⟨ids, fun k i => (hup k i).trans (hids k i), hP1, hD1⟩ hS1 ⟨fun k i h => (hup k i).mpr (hB.1 k i h), hB.2⟩ (ok_upA hT ha (by decide) h1 h3 h4) ⟨fun k9 v h => okv_mono (fun k i => (hup k i).mpr) (hL.1 k9 v h), fun v h => okv_mono (fun k i => (hup k i).mpr) ((ok_tail (ok_tail (ok_tail hL))).2 v h)⟩ hl hn
  rw [show (pc + 1).toNat = pc.toNat + 1 by omega] at k2
  exact k2
theorem j_alen {k t : Nat} {n : Option Int} {lo hi i : Int} (hp : 0 ≤ pc) (ha : ta_ k = some (t, n, lo, hi)) (hd : decode Y.2.1 pc.toNat = .ok (.arraylength, 1)) (kk : 0 ≤ ln_ T k i → ln_ T k i ≤ 2147483647 → J_ Y T0 P bc bs (pc + 1) ls (vI (ln_ T k i) :: st) T) : J_ Y T0 P bc bs pc ls (vR k i :: st) T := by
  intro l p e s m args below meth c0 D cA ad0 A X ad H locs cells slots lsC hc hs hR hS hB hT hL hl hn
  have hk := ta_ge ha
  have hal : al_ T k i := ok_al (v := none) (by omega) (ok_head hL)
  obtain ⟨ids, q0, hq, hids, hP, hD⟩ := rp_at hR hal
  have hr := ln_r hT ha i
  have k2 := kk hr.1 hr.2 l p e s m args below meth c0 D cA ad0 A X ad H locs cells slots lsC hc hs hR hS hB hT (ok_push (show ok_v T (vI _) from ⟨by omega, by omega⟩) (ok_tail hL)) hl hn
  rw [show (pc + 1).toNat = pc.toNat + 1 by omega] at k2
  have hw := wd_get (cA := cA) (ad := ad) (T := T) hq
  have hcb := tc_of ha
  simp [tc_] at hcb
  have e9 : Int32.ofNat (ln_ T k i).toNat = Int32.ofInt (ln_ T k i) := by
    rw [← Int32.ofInt_eq_ofNat]
    congr 1
    omega
  unfold ce_ at hw
  rw [ha] at hw
  have ht : t = 1 ∨ t = 2 ∨ t = 3 ∨ t = 4 ∨ t = 5 := by omega
  rcases ht with rfl | rfl | rfl | rfl | rfl
  · exact va_alen X.1 X.2.1 X.2.2.2.2.2.2.2.1 hP q0 0 hw (ty := .int) rfl e9 hd k2
  · exact va_alen X.1 X.2.1 X.2.2.2.2.2.2.2.1 hP q0 1 hw (ty := .boolean) rfl e9 hd k2
  · exact va_alen X.1 X.2.1 X.2.2.2.2.2.2.2.1 hP q0 2 hw (ty := .long) rfl e9 hd k2
  · exact va_alen X.1 X.2.1 X.2.2.2.2.2.2.2.1 hP q0 3 hw (ty := .object RX0) rfl e9 hd k2
  · exact va_alen X.1 X.2.1 X.2.2.2.2.2.2.2.1 hP q0 4 hw (ty := .object RX2) rfl e9 hd k2
theorem ta_4_k : ∀ k, k < 640 → ∀ n lo hi, ta_ k = some (4, n, lo, hi) → k = 521 := by
  have h : ∀ k, k < 640 → ((match ta_ k with | some (4, _) => decide (k = 521) | _ => true) = true) := by decide +kernel
  intro k hk n lo hi e
  have := h k hk
  rw [e] at this
  simpa using this
theorem j_aald4 {k : Nat} {n : Option Int} {lo hi i x : Int} (hp : 0 ≤ pc) (ha : ta_ k = some (4, n, lo, hi)) (hd : decode Y.2.1 pc.toNat = .ok (.aaload, 1)) (h1 : 0 ≤ x) (h2 : x < ln_ T k i) (k0 : T k i x = 0 → J_ Y T0 P bc bs (pc + 1) ls (vN :: st) T) (k1 : ¬ T k i x = 0 → J_ Y T0 P bc bs (pc + 1) ls (vR 100 x :: st) T) : J_ Y T0 P bc bs pc ls (vI x :: vR k i :: st) T := by
  intro l p e s m args below meth c0 D cA ad0 A X ad H locs cells slots lsC hc hs hR hS hB hT hL hl hn
  have hk := ta_ge ha
  have hal : al_ T k i := ok_al (v := none) (by omega) (ok_head (ok_tail hL))
  have hx : -2147483648 ≤ x ∧ x ≤ 2147483647 := ok_head hL
  obtain ⟨ids, q0, hq, hids, hP, hD⟩ := rp_at hR hal
  have hw := wd_get (cA := cA) (ad := ad) (T := T) hq
  unfold ce_ at hw
  rw [ha] at hw
  have hke : k = 521 := by
    by_cases hk6 : k < 640
    · exact ta_4_k k hk6 _ _ _ ha
    · rw [ta_no (by omega)] at ha; cases ha
  refine va_aldq X.1 X.2.1 X.2.2.2.2.2.2.2.1 hP q0 3 hw rfl (i3_in h1 h2 hx.2) hd ?_
  rw [i3_cl h1 hx.2]
  by_cases hz : T k i x = 0
  · rw [if_pos hz]
    have k2 := k0 hz l p e s m args below meth c0 D cA ad0 A X ad H locs cells slots lsC hc hs hR hS hB hT (ok_push (show ok_v T vN from trivial) (ok_tail (ok_tail hL))) hl hn
    rw [show (pc + 1).toNat = pc.toNat + 1 by omega] at k2
    exact k2
  · rw [if_neg hz]
    have hal2 : al_ T 100 x := hT.2.2.2.2.1 i x h1 (by rw [hke] at hz; exact hz)
    have k2 := k1 hz l p e s m args below meth c0 D cA ad0 A X ad H locs cells slots lsC hc hs hR hS hB hT (ok_push (show ok_v T (vR 100 x) from Or.inr hal2) (ok_tail (ok_tail hL))) hl hn
    rw [show (pc + 1).toNat = pc.toNat + 1 by omega] at k2
    exact k2
theorem ta_5_k : ∀ k, k < 640 → ∀ n lo hi, ta_ k = some (5, n, lo, hi) → k = 523 := by
  have h : ∀ k, k < 640 → ((match ta_ k with | some (5, _) => decide (k = 523) | _ => true) = true) := by decide +kernel
  intro k hk n lo hi e
  have := h k hk
  rw [e] at this
  simpa using this
theorem j_aald5 {k : Nat} {n : Option Int} {lo hi i x : Int} (hp : 0 ≤ pc) (ha : ta_ k = some (5, n, lo, hi)) (hd : decode Y.2.1 pc.toNat = .ok (.aaload, 1)) (h1 : 0 ≤ x) (h2 : x < ln_ T k i) (k0 : T k i x = 0 → J_ Y T0 P bc bs (pc + 1) ls (vN :: st) T) (k1 : ¬ T k i x = 0 → J_ Y T0 P bc bs (pc + 1) ls (vR 102 x :: st) T) : J_ Y T0 P bc bs pc ls (vI x :: vR k i :: st) T := by
  intro l p e s m args below meth c0 D cA ad0 A X ad H locs cells slots lsC hc hs hR hS hB hT hL hl hn
  have hk := ta_ge ha
  have hal : al_ T k i := ok_al (v := none) (by omega) (ok_head (ok_tail hL))
  have hx : -2147483648 ≤ x ∧ x ≤ 2147483647 := ok_head hL
  obtain ⟨ids, q0, hq, hids, hP, hD⟩ := rp_at hR hal
  have hw := wd_get (cA := cA) (ad := ad) (T := T) hq
  unfold ce_ at hw
  rw [ha] at hw
  have hke : k = 523 := by
    by_cases hk6 : k < 640
    · exact ta_5_k k hk6 _ _ _ ha
    · rw [ta_no (by omega)] at ha; cases ha
  refine va_aldq X.1 X.2.1 X.2.2.2.2.2.2.2.1 hP q0 4 hw rfl (i3_in h1 h2 hx.2) hd ?_
  rw [i3_cl h1 hx.2]
  by_cases hz : T k i x = 0
  · rw [if_pos hz]
    have k2 := k0 hz l p e s m args below meth c0 D cA ad0 A X ad H locs cells slots lsC hc hs hR hS hB hT (ok_push (show ok_v T vN from trivial) (ok_tail (ok_tail hL))) hl hn
    rw [show (pc + 1).toNat = pc.toNat + 1 by omega] at k2
    exact k2
  · rw [if_neg hz]
    have hal2 : al_ T 102 x := hT.2.2.2.2.2.1 i x h1 (by rw [hke] at hz; exact hz)
    have k2 := k1 hz l p e s m args below meth c0 D cA ad0 A X ad H locs cells slots lsC hc hs hR hS hB hT (ok_push (show ok_v T (vR 102 x) from Or.inr hal2) (ok_tail (ok_tail hL))) hl hn
    rw [show (pc + 1).toNat = pc.toNat + 1 by omega] at k2
    exact k2
end JA
