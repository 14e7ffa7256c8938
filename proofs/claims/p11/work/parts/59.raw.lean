-- raw objects are filled, constructors are called, raw objects become things of the picture
section JO
variable {Y Yc : Zm} {T0 T : Zt} {P : Zt → Option Zv → Prop} {bc bs : Nat} {pc : Int} {ls : Zl} {st rest : List Zv} {y : MethodName} {Qp : Zt → Option Zv → Prop}
def fW_ (own : String) (idx ci j : Nat) (I : Bool) : Prop := ∃ (C : String) (Tb : u_T) (N : Nat), vwCl[ci]? = some (C, Tb, N) ∧ j < N ∧ N = (tf_ (150 + ci)).length ∧ Cond.fieldLink own idx (Tb j).1 (Tb j).2.1 (Tb j).2.2.1 ∈ lw_g ∧ (Tb j).1 = own ∧ ∃ ty, parseFieldDescriptor (Tb j).2.2.1 = some ty ∧ (∀ a : Nat, I = false → narrow ty (.ref a) = .ref a ∧ fits ty (.ref a) = true) ∧ (∀ a : Int32, I = true → narrow ty (.int a) = .int a ∧ fits ty (.int a) = true)
/-- a field of a raw object is put, in its constructor -/
theorem j_putW {ci j c k' idx : Nat} {lo hi i z : Int} {v : Zv} {I : Bool} (hp : 0 ≤ pc) (h4 : ci < 4) (hf : fW_ Y.1 idx ci j I) (ht : (tf_ (150 + ci))[j]? = some (c, k', lo, hi)) (him : im_ Y.2.2.2.2.slots = true) (hd : decode Y.2.1 pc.toNat = .ok (.putfield idx, 3)) (ev : fv_ c k' z i = v) (hI : match v with | .inl _ => I = true | .inr (.inr (some _)) => I = false | _ => False) (h1 : lo ≤ z) (h2 : z ≤ hi) (k : J_ Y T0 P bc bs (pc + 3) ls st (up_ T (150 + ci) i (j : Int) z)) : J_ Y T0 P bc bs pc ls (v :: vR (150 + ci) i :: st) T := by
  intro l p e s m args below meth c0 D cA ad0 A X ad H locs cells slots lsC hc hs hR hS hB hT hL hl hn
  have hal : al_ T (150 + ci) i := ok_al (v := none) (by omega) (ok_head (ok_tail hL))
  have hup := al_up (T := T) (k := 150 + ci) (i := i) (j := (j : Int)) (x := z) (by omega)
  obtain ⟨ids, q0, hq, hids, hP, hD⟩ := rp_at hR hal
  obtain ⟨C, Tb, N, hC, hjN, hN, hlk, how, ty, hty1, hr1, hi1⟩ := hf
  obtain ⟨hin, ⟨ty0, hty⟩, hnm⟩ := cl_in hC
  have hw := wd_get (cA := cA) (ad := ad) (T := T) hq
  rw [ce_rw h4] at hw
  obtain ⟨hnar, hfit⟩ : narrow ty (en_v ad v) = en_v ad v ∧ fits ty (en_v ad v) = true := by
    rcases v with x | x | _ | ⟨k9, i9⟩
    · exact hi1 _ hI
    · exact hI.elim
    · exact hI.elim
    · exact hr1 _ hI
  have fin : ∀ (H1 : Heap) (locs1 : List Loc), va_P D vwCl ((wd_ cA ad T ids).set q0 (ad (150 + ci) i, .inr (ci, ((tf_ (150 + ci)).zipIdx.map fun q => en_v ad (fv_ q.1.1 q.1.2.1 (T (150 + ci) i (q.2 : Int)) i)).set j (en_v ad v)))) H1 → va_D A ((wd_ cA ad T ids).set q0 (ad (150 + ci) i, .inr (ci, ((tf_ (150 + ci)).zipIdx.map fun q => en_v ad (fv_ q.1.1 q.1.2.1 (T (150 + ci) i (q.2 : Int)) i)).set j (en_v ad v)))) → va_S A s.heap H1 locs1 → W p l e Y.2.2.2.2 s m args below meth c0 H1 locs1 cells slots (MQ below (Qc_ D cA ad0 T0 A P) args s Y.2.2.2.2.cells Y.2.2.2.2.slots A) (F0 m (pc.toNat + 3) lsC (st.map (en_v ad))) := by
    intro H1 locs1 hP1 hD1 hS1
    have e1 : ((tf_ (150 + ci)).zipIdx.map fun q => en_v ad (fv_ q.1.1 q.1.2.1 (T (150 + ci) i (q.2 : Int)) i)).set j (en_v ad v) = (tf_ (150 + ci)).zipIdx.map fun q => en_v ad (fv_ q.1.1 q.1.2.1 (up_ T (150 + ci) i (j : Int) z (150 + ci) i (q.2 : Int)) i) := by
      apply List.ext_getElem?
      intro n
      rw [List.getElem?_set]
      by_cases en : j = n
      · subst en
        rw [if_pos rfl, if_pos (by rw [List.length_map, List.length_zipIdx, ← hN]; exact hjN), fs_at (T := up_ T (150 + ci) i (j : Int) z) ht, up_s, ev]
      · rw [if_neg en, List.getElem?_map, List.getElem?_map, List.getElem?_zipIdx]
        cases hn9 : (tf_ (150 + ci))[n]? with
        | none => rfl
        | some q =>
          simp only [Option.map_some]
          rw [up_n (fun q => by omega)]
    have e2 : (wd_ cA ad T ids).set q0 (ad (150 + ci) i, .inr (ci, ((tf_ (150 + ci)).zipIdx.map fun q => en_v ad (fv_ q.1.1 q.1.2.1 (T (150 + ci) i (q.2 : Int)) i)).set j (en_v ad v))) = wd_ cA ad (up_ T (150 + ci) i (j : Int) z) ids := by
      rw [e1, ← ce_rw h4 (T := up_ T (150 + ci) i (j : Int) z) (cA := cA)]
      exact wd_set hD hq (fun k' i' h => up_o h)
    rw [e2] at hP1 hD1
    have k2 := k l p e s m args below meth c0 D cA ad0 A X ad H1 locs1 cells slots lsC hc hs ⟨ids, fun k i => (hup k i).trans (hids k i), hP1, hD1⟩ hS1 ⟨fun k i h => (hup k i).mpr (hB.1 k i h), hB.2⟩ (ok_upR hT ht h1 h2 (by rw [ev]; exact ok_head hL)) ⟨fun k9 v h => okv_mono (fun k i => (hup k i).mpr) (hL.1 k9 v h), fun v h => okv_mono (fun k i => (hup k i).mpr) ((ok_tail (ok_tail hL)).2 v h)⟩ hl hn
    rw [show (pc + 3).toNat = pc.toNat + 3 by omega] at k2
    exact k2
  cases hfin : (Tb j).2.2.2 with
  | false => exact va_put (D := D) (ci := ci) (C := C) (T := Tb) (N := N) (own := Y.1) (ref := (Tb j).1) (index := idx) (ty := ty) (v := en_v ad v) X.1 X.2.1 X.2.2.2.2.2.1 hin ty0 hty hnm X.2.2.2.2.2.2.1 X.2.2.2.2.2.2.2.1 hP hD hS q0 hw hC j hjN (X.2.2.2.2.2.1 _ hlk) (fun _ h => h) hfin hty1 hnar hfit (by rw [List.length_map, List.length_zipIdx, ← hN]; exact hjN) hd fin
  | true => exact va_putF (D := D) (ci := ci) (C := C) (T := Tb) (N := N) (own := Y.1) (ref := (Tb j).1) (index := idx) (ty := ty) (v := en_v ad v) X.1 X.2.1 X.2.2.2.2.2.1 hin ty0 hty hnm X.2.2.2.2.2.2.1 X.2.2.2.2.2.2.2.1 hP hD hS q0 hw hC j hjN (X.2.2.2.2.2.1 _ hlk) (fun _ h => h) hfin (X.2.2.2.2.2.2.2.2.2.2.2 him) how hty1 hnar hfit (by rw [List.length_map, List.length_zipIdx, ← hN]; exact hjN) hd fin
/-- a field of a raw object is read -/
theorem j_getW {ci j c k' idx N : Nat} {C : String} {Tb : u_T} {lo hi i : Int} (hp : 0 ≤ pc) (h4 : ci < 4) (hC : vwCl[ci]? = some (C, Tb, N)) (hjN : j < N) (hlk : Cond.fieldLink Y.1 idx (Tb j).1 (Tb j).2.1 (Tb j).2.2.1 ∈ lw_g) (ht : (tf_ (150 + ci))[j]? = some (c, k', lo, hi)) (hd : decode Y.2.1 pc.toNat = .ok (.getfield idx, 3)) {v : Zv} (ev : fv_ c k' (T (150 + ci) i (j : Int)) i = v) (k : J_ Y T0 P bc bs (pc + 3) ls (v :: st) T) : J_ Y T0 P bc bs pc ls (vR (150 + ci) i :: st) T := by
  subst ev
  intro l p e s m args below meth c0 D cA ad0 A X ad H locs cells slots lsC hc hs hR hS hB hT hL hl hn
  have hal : al_ T (150 + ci) i := ok_al (v := none) (by omega) (ok_head hL)
  obtain ⟨ids, q0, hq, h1, hP, hD⟩ := rp_at hR hal
  obtain ⟨hin, -, -⟩ := cl_in hC
  have k2 := k l p e s m args below meth c0 D cA ad0 A X ad H locs cells slots lsC hc hs hR hS hB hT (ok_push (hT.2.2.2.1 _ _ hal _ _ _ _ _ ht) (ok_tail hL)) hl hn
  rw [show (pc + 3).toNat = pc.toNat + 3 by omega] at k2
  have hw := wd_get (cA := cA) (ad := ad) (T := T) hq
  rw [ce_rw h4] at hw
  exact va_get (D := D) (ci := ci) (C := C) (T := Tb) (N := N) (own := Y.1) (ref := (Tb j).1) (index := idx) X.1 X.2.1 X.2.2.2.2.2.1 hin X.2.2.2.2.2.2.1 X.2.2.2.2.2.2.2.1 hP q0 hw hC j hjN (X.2.2.2.2.2.1 _ hlk) (fun _ h => h) (fs_at ht) hd k2
/-- a reference is put into a field of a thing -/
theorem j_putV {ci j c k' k2 idx : Nat} {lo hi i x z : Int} (hp : 0 ≤ pc) (hf : fr5_ Y.1 idx ci j) (ht : (tf_ (100 + ci))[j]? = some (c, k', lo, hi)) (hd : decode Y.2.1 pc.toNat = .ok (.putfield idx, 3)) (ev : fv_ c k' z i = vR k2 x) (h1 : lo ≤ z) (h2 : z ≤ hi) (k : J_ Y T0 P bc bs (pc + 3) ls st (up_ T (100 + ci) i (j : Int) z)) : J_ Y T0 P bc bs pc ls (vR k2 x :: vR (100 + ci) i :: st) T := by
  intro l p e s m args below meth c0 D cA ad0 A X ad H locs cells slots lsC hc hs hR hS hB hT hL hl hn
  have hal : al_ T (100 + ci) i := ok_al (v := none) (by omega) (ok_head (ok_tail hL))
  have hup := al_up (T := T) (k := 100 + ci) (i := i) (j := (j : Int)) (x := z) (by omega)
  obtain ⟨ids, q0, hq, hids, hP, hD⟩ := rp_at hR hal
  obtain ⟨C, Tb, N, hC, hjN, hN, hlk, hfin, hds⟩ := hf
  obtain ⟨hin, ⟨ty0, hty⟩, hnm⟩ := cl_in hC
  have hw := wd_get (cA := cA) (ad := ad) (T := T) hq
  rw [ce_ob (cl_lt hC)] at hw
  obtain ⟨ty, hty1, hnar, hfit⟩ := hds (ad k2 x)
  refine va_put (D := D) (ci := ci) (C := C) (T := Tb) (N := N) (own := Y.1) (ref := (Tb j).1) (index := idx) (ty := ty) (v := .ref (ad k2 x)) X.1 X.2.1 X.2.2.2.2.2.1 hin ty0 hty hnm X.2.2.2.2.2.2.1 X.2.2.2.2.2.2.2.1 hP hD hS q0 hw hC j hjN (X.2.2.2.2.2.1 _ hlk) (fun _ h => h) hfin hty1 hnar hfit (by rw [List.length_map, List.length_zipIdx, ← hN]; exact hjN) hd (fun H1 locs1 hP1 hD1 hS1 => ?_)
  have e1 : ((tf_ (100 + ci)).zipIdx.map fun q => en_v ad (fv_ q.1.1 q.1.2.1 (T (100 + ci) i (q.2 : Int)) i)).set j (.ref (ad k2 x)) = (tf_ (100 + ci)).zipIdx.map fun q => en_v ad (fv_ q.1.1 q.1.2.1 (up_ T (100 + ci) i (j : Int) z (100 + ci) i (q.2 : Int)) i) := by
    apply List.ext_getElem?
    intro n
    rw [List.getElem?_set]
    by_cases en : j = n
    · subst en
      rw [if_pos rfl, if_pos (by rw [List.length_map, List.length_zipIdx, ← hN]; exact hjN), fs_at (T := up_ T (100 + ci) i (j : Int) z) ht, up_s, ev]
      rfl
    · rw [if_neg en, List.getElem?_map, List.getElem?_map, List.getElem?_zipIdx]
      cases hn9 : (tf_ (100 + ci))[n]? with
      | none => rfl
      | some q =>
        simp only [Option.map_some]
        rw [up_n (fun q => by omega)]
  have e2 : (wd_ cA ad T ids).set q0 (ad (100 + ci) i, .inr (ci, ((tf_ (100 + ci)).zipIdx.map fun q => en_v ad (fv_ q.1.1 q.1.2.1 (T (100 + ci) i (q.2 : Int)) i)).set j (.ref (ad k2 x)))) = wd_ cA ad (up_ T (100 + ci) i (j : Int) z) ids := by
    rw [e1, ← ce_ob (cl_lt hC) (T := up_ T (100 + ci) i (j : Int) z) (cA := cA)]
    exact wd_set hD hq (fun k' i' h => up_o h)
  rw [e2] at hP1 hD1
  have k3 := k l p e s m args below meth c0 D cA ad0 A X ad H1 locs1 cells slots lsC hc hs ⟨ids, fun k i => (hup k i).trans (hids k i), hP1, hD1⟩ hS1 ⟨fun k i h => (hup k i).mpr (hB.1 k i h), hB.2⟩ (ok_upR hT ht h1 h2 (by rw [ev]; exact ok_head hL)) ⟨fun k9 v h => okv_mono (fun k i => (hup k i).mpr) (hL.1 k9 v h), fun v h => okv_mono (fun k i => (hup k i).mpr) ((ok_tail (ok_tail hL)).2 v h)⟩ hl hn
  rw [show (pc + 3).toNat = pc.toNat + 3 by omega] at k3
  exact k3
/-- the constructor of Object -/
theorem j_objI {idx k : Nat} {i : Int} (hml : Cond.methodLink Y.1 idx Lib.objectInit ∈ lw_g) (hin : Cond.instanceMethod Lib.objectInit ∈ lw_g) (hco : Cond.code Lib.objectInit ⟨#[0xb1]⟩ 1 none ∈ lw_g) (hd : decode Y.2.1 pc.toNat = .ok (.invokespecial idx, 3)) (hp : 0 ≤ pc) (hf : 1 ≤ Y.2.2.2.2.frames) (hlo : 20 ≤ Y.2.2.2.2.locals) (hrest : rest.length ≤ 4) (kk : J_ Y T0 P bc bs (pc + 3) ls rest T) : J_ Y T0 P bc bs pc ls (vR k i :: rest) T := by
  intro l p e s m args below meth c D cA ad0 A X ad H locs cells slots lsC hc hs hR hS hB hT hL hl hln
  have w := X.2.2.2.2.2.1
  have sm := en_sum (ad := ad) rest
  have k2 := kk l p e s m args below meth c D cA ad0 A X ad H locs cells slots lsC hc hs hR hS hB hT (ok_tail hL) hl hln
  rw [show (pc + 3).toNat = pc.toNat + 3 by omega] at k2
  exact W.objInit (a := ad k i) (rest := rest.map (en_v ad)) X.1 X.2.1 X.2.2.2.2.2.2.1 (w _ hml) (w _ hin) (w _ hco) rfl (hl.1.trans X.2.2.1.symm) rfl hd hf (by show 2 * 0 + _ + 12 ≤ _; omega) k2
/-- a constructor is called -/
def ci_ (own : String) (idx : Nat) (y : MethodName) (Yc : Zm) (n : Nat) : Prop := GoodIn lw_g (.code y Yc.2.1 Yc.2.2.1 none :: lw_g) ∧ Cond.initialized y.cls ∈ lw_g ∧ Cond.methodLink own idx y ∈ lw_g ∧ Cond.instanceMethod y ∈ lw_g ∧ y.name = "<init>" ∧ Yc.2.2.2.1 = none ∧ (y.cls ≠ "java/lang/invoke/MethodHandle" ∧ y.cls ≠ "java/lang/invoke/VarHandle" ∧ (parseMethodDescriptor y.desc).map (fun d => d.parameters.length) = some n)
theorem j_callI {idx k n : Nat} {i : Int} (as : List Zv) (hC : Ct_ y Yc T (vR k i :: as) Qp) (hcv : ci_ Y.1 idx y Yc n) (hd : decode Y.2.1 pc.toNat = .ok (.invokespecial idx, 3)) (hp : 0 ≤ pc) (hn : as.length = n) (hrm : rf_ Yc Y = true) (hrest : rest.length ≤ 4) (hmc : Yc.2.2.2.2.cells ≤ bc) (hms : Yc.2.2.2.2.slots ≤ bs) {st0 : List Zv} (hst : st0 = as.reverse ++ vR k i :: rest) (kk : ∀ (T' : Zt) (r : Option Zv), Qp T' r → J_ Y T0 P (bc - Yc.2.2.2.2.cells) (bs - Yc.2.2.2.2.slots) (pc + 3) ls (r.toList ++ rest) T') : J_ Y T0 P bc bs pc ls st0 T := by
  subst hst
  intro l p e s m args below meth c D cA ad0 A X ad H locs cells slots lsC hc hs hR hS hB hT hL hl hln
  obtain ⟨hG, hini, hml, hin, hy1, hret, hdd⟩ := hcv
  simp only [rf_, Bool.and_eq_true, decide_eq_true_eq] at hrm
  have hLr : ok_l T ls rest := ⟨hL.1, fun v hv => hL.2 v (by simp [hv])⟩
  have hAA : ∀ q, A_ ad T H.size q → A q := by
    rintro q (⟨k, i, ha, rfl⟩ | h)
    · exact Rp_in hR ha
    · exact X.2.2.2.2.2.2.2.2.2.1 q (Nat.le_trans hS.1 h)
  have w := X.2.2.2.2.2.1
  have hM := hC l D cA ad H.size
  rw [hret] at hM
  refine j_back X hc hs hR hS hB hLr hl hln hp hmc hms (va_runI (As := as.map (en_v ad)) (rest := rest.map (en_v ad)) (b := ad k i) ⟨X.1, X.2.1, X.2.2.1, X.2.2.2.2.2.2.1, X.2.2.2.2.2.1⟩ hM (cwI n w hG rfl rfl rfl (w _ hini) (w _ hml) (w _ hin) hy1 hdd hrm) ⟨pc_blind, fun U hU hW => ⟨rfl, by rw [hU], by rw [hU]; exact Rp_A hR (fun _ _ _ _ => trivial), va_K.moved hW.alike X.2.2.2.2.2.2.2.1, ex_warm hW X.2.2.2.2.2.2.2.2.1, se_call X.2.2.2.2.2.2.2.2.2.2.1 hS hAA hU hW (fun k i hk => hB.2 k i (Or.inl hk)), hT, fun v hv => hL.2 v ?_⟩⟩ rfl (by rw [List.length_map]; exact hn) (hl.1) ?_ (lv_room ?_) hd ⟨by omega, by omega⟩) (fun T' r h => kk T' r h)
  · rcases List.mem_cons.mp hv with rfl | h
    · simp
    · simp [h]
  · show List.map (en_v ad) (as.reverse ++ vR k i :: rest) = _
    rw [List.map_append, List.map_reverse, List.map_cons]
    rfl
  · have := en_sum (ad := ad) rest
    omega
/-- a row is given back -/
theorem j_aret {k : Nat} {i : Int} {rt : FieldType} (hr : Y.2.2.2.1 = some rt) (hrt : (∃ n, rt = .object n) ∨ ∃ t, rt = .array t) (hd : decode Y.2.1 pc.toNat = .ok (.areturn, 1)) (k2 : P T (some (vR k i))) : J_ Y T0 P bc bs pc ls [vR k i] T := by
  intro l p e' s m args below meth c D cA ad0 A X ad H locs cells slots lsC hc hs hR hS hB hT hL hl hn
  refine W.widen (k := Y.2.2.2.2.cells) (n := Y.2.2.2.2.slots) (by omega) (by omega) ?_
  exact W.aret X.1 X.2.1 (X.2.2.2.1.trans hr) hrt (Or.inr ⟨ad k i, rfl⟩) (fun t ht _ => ⟨⟨T, ad, some (vR k i), rfl, k2, hT, fun v hv => by cases hv; exact ok_head hL, by rw [ht]; exact hR, hB⟩, hS.F ht⟩) hS.2.2 hd X.2.2.2.2.1
end JO
-- raw objects become things of the picture; references into rows; clones and copies
section JP
variable {Y Yc : Zm} {T0 T : Zt} {P : Zt → Option Zv → Prop} {bc bs bc' bs' : Nat} {pc : Int} {ls : Zl} {st rest : List Zv}
def cw_ (T : Zt) (k : Nat) (i : Int) (g : Int → Int) : Zt := fun k' i' j' => if k' = k ∧ i' = i then (if j' = -1 then 1 else g j') else if k' = k + 50 ∧ i' = i ∧ j' = -1 then 0 else T k' i' j'
theorem cw_s {k : Nat} {i : Int} {g : Int → Int} {j : Int} (h : 0 ≤ j) : cw_ T k i g k i j = g j := by
  unfold cw_
  rw [if_pos ⟨rfl, rfl⟩, if_neg (by omega)]
theorem cw_o {k k' : Nat} {i i' : Int} {g : Int → Int} (h : ¬ (k' = k ∧ i' = i)) (h2 : ¬ (k' = k + 50 ∧ i' = i)) : cw_ T k i g k' i' = T k' i' := by
  funext j
  unfold cw_
  rw [if_neg h, if_neg (fun z => h2 ⟨z.1, z.2.1⟩)]
theorem cw_n {k k' : Nat} {i i' j : Int} {g : Int → Int} (h : ¬ (k' = k ∧ i' = i)) (h2 : j ≠ -1) : cw_ T k i g k' i' j = T k' i' j := by
  unfold cw_
  rw [if_neg h, if_neg (fun z => h2 z.2.2)]
theorem al_cw {k : Nat} {i : Int} {g : Int → Int} (k' : Nat) (i' : Int) : al_ (cw_ T k i g) k' i' ↔ (k' = k ∧ i' = i) ∨ (al_ T k' i' ∧ ¬ (k' = k + 50 ∧ i' = i)) := by
  unfold al_ cw_
  by_cases h : k' = k ∧ i' = i
  · rw [if_pos h, if_pos rfl]
    simp [h]
  · rw [if_neg h]
    by_cases h2 : k' = k + 50 ∧ i' = i
    · rw [if_pos ⟨h2.1, h2.2, rfl⟩]
      simp [h, h2]
    · rw [if_neg (fun z => h2 ⟨z.1, z.2.1⟩)]
      simp [h, h2]
/-- no local and nothing on the stack is of a kind -/
def nk_ (k : Nat) : List (Option Zv) → Bool
  | [] => true
  | some (.inr (.inr (some (k', _)))) :: r => !(k' == k) && nk_ k r
  | _ :: r => nk_ k r
theorem nk_no {k : Nat} {i : Int} : ∀ {l : List (Option Zv)}, nk_ k l = true → some (vR k i) ∉ l
  | [], _ => by simp
  | none :: r, h => by
    intro q
    rcases List.mem_cons.mp q with q | q
    · cases q
    · exact nk_no (l := r) h q
  | some (.inl x) :: r, h => by
    intro q
    rcases List.mem_cons.mp q with q | q
    · cases q
    · exact nk_no (l := r) h q
  | some (.inr (.inl x)) :: r, h => by
    intro q
    rcases List.mem_cons.mp q with q | q
    · cases q
    · exact nk_no (l := r) h q
  | some (.inr (.inr none)) :: r, h => by
    intro q
    rcases List.mem_cons.mp q with q | q
    · cases q
    · exact nk_no (l := r) h q
  | some (.inr (.inr (some (k', i')))) :: r, h => by
    simp only [nk_, Bool.and_eq_true, Bool.not_eq_true', beq_eq_false_iff_ne] at h
    intro q
    rcases List.mem_cons.mp q with q | q
    · cases q
      exact h.1 rfl
    · exact nk_no (l := r) h.2 q
theorem fv_ky {k j c k' : Nat} {lo hi x i : Int} (h : (tf_ k)[j]? = some (c, k', lo, hi)) {k2 : Nat} {i2 : Int} (e : fv_ c k' x i = vR k2 i2) : ¬ (150 ≤ k2 ∧ k2 < 154) := by
  have h1 := tf_ky k (tf_lt h) _ (List.mem_of_getElem? h)
  have h2 : k2 = k' := by
    match c, e with
    | 0, e => cases e
    | 1, e => cases e; rfl
    | 2, e => cases e; rfl
    | 3, e => cases e; rfl
    | 4, e =>
      have e : (if x = 0 then vN else vR k' i) = vR k2 i2 := e
      split at e
      · cases e
      · cases e; rfl
    | 5, e =>
      have e : (if x = 0 then vN else vR k' (x - 1)) = vR k2 i2 := e
      split at e
      · cases e
      · cases e; rfl
    | c + 6, e => cases e
  rw [h2]
  exact h1
theorem j_conv {k : Nat} {i : Int} {g : Int → Int} (hk : k = 100 ∨ k = 102 ∨ k = 103) (hfr : ¬ al_ T k i) (h0 : ¬ al_ T0 (k + 50) i) (hg : ∀ (j c k1 : Nat) (lo hi : Int), (tf_ k)[j]? = some (c, k1, lo, hi) → ∃ c2 k2 lo2 hi2, (tf_ (k + 50))[j]? = some (c2, k2, lo2, hi2) ∧ fv_ c k1 (g j) i = fv_ c2 k2 (T (k + 50) i j) i ∧ lo ≤ g j ∧ g j ≤ hi) (hls : nk_ (k + 50) ls = true) (hst : nk_ (k + 50) (st.map some) = true) (kk : J_ Y T0 P bc bs pc ls (vR k i :: st) (cw_ T k i g)) : J_ Y T0 P bc bs pc ls (vR (k + 50) i :: st) T := by
  intro l p e s m args below meth c D cA ad0 A X ad H locs cells slots lsC hc hs hR hS hB hT hL hl hln
  have hraw : al_ T (k + 50) i := ok_al (v := none) (by omega) (ok_head hL)
  obtain ⟨ids, hids, hP, hD⟩ := rp_ids hR
  have hlen : (tf_ k).length = (tf_ (k + 50)).length := by
    rcases hk with rfl | rfl | rfl <;> decide +kernel
  have hce : ∀ ad2 : Nat → Int → Nat, ce_ cA ad2 (cw_ T k i g) k i = .inr (k - 100, (tf_ k).zipIdx.map fun q => en_v ad2 (fv_ q.1.1 q.1.2.1 (g (q.2 : Int)) i)) := fun ad2 => by
    have e1 : ((tf_ k).zipIdx.map fun q => en_v ad2 (fv_ q.1.1 q.1.2.1 (cw_ T k i g k i (q.2 : Int)) i)) = (tf_ k).zipIdx.map fun q => en_v ad2 (fv_ q.1.1 q.1.2.1 (g (q.2 : Int)) i) := by
      apply List.map_congr_left
      rintro ⟨q, j⟩ _
      rw [cw_s (by omega)]
    unfold ce_
    rw [tk_no _ (by omega), e1]
    simp only [kc_]
    rw [if_pos (by omega)]
  have hcr : ce_ cA ad T (k + 50) i = .inr (k - 100, (tf_ (k + 50)).zipIdx.map fun q => en_v ad (fv_ q.1.1 q.1.2.1 (T (k + 50) i (q.2 : Int)) i)) := by
    unfold ce_
    rw [tk_no _ (by omega)]
    simp only [kc_]
    rw [if_neg (by omega), show k + 50 - 150 = k - 100 by omega]
  have had : ∀ k' i', k' < 100 ∨ al_ T k' i' → aq_ ad k i (ad (k + 50) i) k' i' = ad k' i' := aq_e (by omega) hfr
  have hraws : ∀ (j c2 k2 : Nat) (lo2 hi2 : Int), (tf_ (k + 50))[j]? = some (c2, k2, lo2, hi2) → ok_v T (fv_ c2 k2 (T (k + 50) i j) i) := fun j c2 k2 lo2 hi2 h => hT.2.2.2.1 _ _ hraw j c2 k2 lo2 hi2 h
  have hfl : ((tf_ k).zipIdx.map fun q => en_v (aq_ ad k i (ad (k + 50) i)) (fv_ q.1.1 q.1.2.1 (g (q.2 : Int)) i)) = (tf_ (k + 50)).zipIdx.map fun q => en_v ad (fv_ q.1.1 q.1.2.1 (T (k + 50) i (q.2 : Int)) i) := by
    apply List.ext_getElem?
    intro n
    rw [List.getElem?_map, List.getElem?_map, List.getElem?_zipIdx, List.getElem?_zipIdx]
    cases hn : (tf_ k)[n]? with
    | none =>
      have : (tf_ (k + 50))[n]? = none := by
        rw [List.getElem?_eq_none_iff] at hn ⊢
        omega
      rw [this]
      rfl
    | some q =>
      obtain ⟨c1, k1, lo, hi⟩ := q
      obtain ⟨c2, k2, lo2, hi2, h2, e2, -, -⟩ := hg n c1 k1 lo hi hn
      rw [h2]
      simp only [Option.map_some, Nat.zero_add]
      rw [e2, en_congr had (hraws n c2 k2 lo2 hi2 h2)]
  have hw : wd_ cA (aq_ ad k i (ad (k + 50) i)) (cw_ T k i g) (ids.map fun q => if q = (k + 50, i) then (k, i) else q) = wd_ cA ad T ids := by
    unfold wd_
    rw [List.map_map]
    apply List.map_congr_left
    rintro ⟨k', i'⟩ hm
    have ha := (hids k' i').mpr hm
    by_cases ez : (k', i') = (k + 50, i)
    · cases ez
      show (aq_ ad k i (ad (k + 50) i) (if (k + 50, i) = (k + 50, i) then (k, i) else (k + 50, i)).1 (if (k + 50, i) = (k + 50, i) then (k, i) else (k + 50, i)).2, ce_ cA _ _ (if (k + 50, i) = (k + 50, i) then (k, i) else (k + 50, i)).1 (if (k + 50, i) = (k + 50, i) then (k, i) else (k + 50, i)).2) = _
      rw [if_pos rfl, aq_s, hce, hfl, ← hcr]
    · show (aq_ ad k i (ad (k + 50) i) (if (k', i') = (k + 50, i) then (k, i) else (k', i')).1 (if (k', i') = (k + 50, i) then (k, i) else (k', i')).2, ce_ cA _ _ (if (k', i') = (k + 50, i) then (k, i) else (k', i')).1 (if (k', i') = (k + 50, i) then (k, i) else (k', i')).2) = _
      rw [if_neg ez]
      have hne : ¬ (k' = k ∧ i' = i) := fun z => hfr (by rw [← z.1, ← z.2]; exact ha)
      have hne2 : ¬ (k' = k + 50 ∧ i' = i) := fun z => ez (by rw [z.1, z.2])
      rw [ce_congr (cw_o hne hne2), ce_ad hT had ha, aq_n hne]
  have hRp : Rp_ D cA (aq_ ad k i (ad (k + 50) i)) (cw_ T k i g) A H := by
    refine ⟨ids.map fun q => if q = (k + 50, i) then (k, i) else q, fun k' i' => ?_, by rw [hw]; exact hP, by rw [hw]; exact hD⟩
    rw [al_cw, List.mem_map]
    constructor
    · rintro (⟨rfl, rfl⟩ | ⟨h1, h2⟩)
      · exact ⟨(k' + 50, i'), (hids _ _).mp hraw, by rw [if_pos rfl]⟩
      · exact ⟨(k', i'), (hids _ _).mp h1, by rw [if_neg (fun z => h2 (by cases z; exact ⟨rfl, rfl⟩))]⟩
    · rintro ⟨⟨k9, i9⟩, h1, h2⟩
      by_cases ez : (k9, i9) = (k + 50, i)
      · rw [if_pos ez] at h2
        cases h2
        exact Or.inl ⟨rfl, rfl⟩
      · rw [if_neg ez] at h2
        cases h2
        exact Or.inr ⟨(hids _ _).mpr h1, fun z => ez (by rw [z.1, z.2])⟩
  have mo : ∀ k' i', al_ T k' i' → ¬ (k' = k + 50 ∧ i' = i) → al_ (cw_ T k i g) k' i' := fun k' i' h h2 => (al_cw k' i').mpr (Or.inr ⟨h, h2⟩)
  have mov : ∀ v : Zv, ok_v T v → v ≠ vR (k + 50) i → ok_v (cw_ T k i g) v := fun v hv hne => by
    rcases v with x | x | _ | ⟨k9, i9⟩
    · exact hv
    · exact hv
    · exact trivial
    · rcases hv with h | h
      · exact Or.inl h
      · exact Or.inr (mo _ _ h (fun z => hne (by rw [z.1, z.2])))
  have hok : ok_T (cw_ T k i g) := by
    obtain ⟨a1, a2, a3, a4, a5, a6, a7, a8, a9⟩ := hT
    refine ⟨fun k' t' n' lo' hi' h i' x' hx => ?_, fun k' j' c k'' lo' hi' h i' => ?_, fun i' => ?_, fun k' i' hl' j' c k'' lo' hi' h => ?_, fun i' x' hx h => ?_, fun i' x' hx h => ?_, fun k' i' h q => ?_, fun k' i' o h q => ?_, fun i' h q => ?_⟩
    · have := ta_ge h
      rw [cw_o (fun z => by omega) (fun z => by omega)]
      exact a1 k' t' n' lo' hi' h i' x' hx
    · by_cases ez : k' = k ∧ i' = i
      · obtain ⟨rfl, rfl⟩ := ez
        obtain ⟨-, -, -, -, -, -, b1, b2⟩ := hg j' c k'' lo' hi' h
        rw [cw_s (by omega)]
        exact ⟨b1, b2⟩
      · rw [cw_n ez (by omega)]
        exact a2 k' j' c k'' lo' hi' h i'
    · rw [cw_o (fun z => by omega) (fun z => by omega)]
      exact a3 i'
    · rcases (al_cw k' i').mp hl' with ⟨rfl, rfl⟩ | ⟨h1, h2⟩
      · obtain ⟨c2, k2, lo2, hi2, h2, e2, -, -⟩ := hg j' c k'' lo' hi' h
        rw [cw_s (by omega), e2]
        refine mov _ (hraws j' c2 k2 lo2 hi2 h2) (fun z => fv_ky h2 z (by omega))
      · by_cases ez : k' = k ∧ i' = i
        · obtain ⟨rfl, rfl⟩ := ez
          exact absurd h1 hfr
        · rw [cw_o ez h2]
          exact mov _ (a4 k' i' h1 j' c k'' lo' hi' h) (fun z => fv_ky h z (by omega))
    · rw [cw_o (fun z => by omega) (fun z => by omega)] at h
      exact mo _ _ (a5 i' x' hx h) (fun z => by omega)
    · rw [cw_o (fun z => by omega) (fun z => by omega)] at h
      exact mo _ _ (a6 i' x' hx h) (fun z => by omega)
    · rcases (al_cw k' i').mp q with z | ⟨h1, -⟩
      · omega
      · exact a7 k' i' h h1
    · rcases (al_cw k' i').mp q with z | ⟨h1, h2⟩
      · have : ow_ k' = none := by
          rw [z.1]
          rcases hk with rfl | rfl | rfl <;> decide
        rw [this] at h
        cases h
      · have hoo : o = 100 ∨ o = 102 ∨ o = 103 := by
          unfold ow_ at h
          split at h
          · cases h; exact Or.inl rfl
          · split at h
            · cases h; exact Or.inr (Or.inl rfl)
            · split at h
              · cases h; exact Or.inr (Or.inr rfl)
              · cases h
        rcases a8 k' i' o h h1 with z | z
        · exact Or.inl (mo _ _ z (fun w => by omega))
        · by_cases w : o + 50 = k + 50 ∧ i' = i
          · exact Or.inl ((al_cw o i').mpr (Or.inl ⟨by omega, w.2⟩))
          · exact Or.inr (mo _ _ z w)
    · rw [cw_o (fun z => by omega) (fun z => by omega)] at h
      rcases (al_cw 190 i').mp q with z | ⟨h1, -⟩
      · omega
      · exact a9 i' h h1
  have hlsn : ∀ (j : Nat) (v : Zv), ls[j]? = some (some v) → v ≠ vR (k + 50) i := fun j v hj z => nk_no hls (i := i) (by rw [← z]; exact List.mem_of_getElem? hj)
  have hstn : ∀ v ∈ st, v ≠ vR (k + 50) i := fun v hv z => nk_no hst (i := i) (by rw [← z]; exact List.mem_map.mpr ⟨v, hv, rfl⟩)
  have hee : ∀ v, ok_v T v → en_v (aq_ ad k i (ad (k + 50) i)) v = en_v ad v := fun v hv => en_congr had hv
  have el : lp_ (aq_ ad k i (ad (k + 50) i)) 0 ls = lp_ ad 0 ls := lp_congr (fun k v hk => hee v (hL.1 k v hk))
  have es : st.map (en_v (aq_ ad k i (ad (k + 50) i))) = st.map (en_v ad) := List.map_congr_left (fun v hv => hee v ((ok_tail hL).2 v hv))
  have k2 := kk l p e s m args below meth c D cA ad0 A X (aq_ ad k i (ad (k + 50) i)) H locs cells slots lsC hc hs hRp hS ⟨fun k' i' h => mo _ _ (hB.1 k' i' h) (fun z => h0 (by rw [← z.1, ← z.2]; exact h)), fun k' i' h => by rw [had k' i' (h.imp id (hB.1 k' i'))]; exact hB.2 k' i' h⟩ hok (ok_push (Or.inr ((al_cw k i).mpr (Or.inl ⟨rfl, rfl⟩))) ⟨fun j v hj => mov v (hL.1 j v hj) (hlsn j v hj), fun v hv => mov v ((ok_tail hL).2 v hv) (hstn v hv)⟩) (by rw [el]; exact hl) hln
  have e2 : (vR k i :: st).map (en_v (aq_ ad k i (ad (k + 50) i))) = (vR (k + 50) i :: st).map (en_v ad) := by
    rw [List.map_cons, List.map_cons, es]
    show Value.ref (aq_ ad k i (ad (k + 50) i) k i) :: _ = Value.ref (ad (k + 50) i) :: _
    rw [aq_s]
  rw [e2] at k2
  exact k2
end JP
-- references into rows, casts, clones, copies of rows
section JQ
variable {Y Yc : Zm} {T0 T : Zt} {P : Zt → Option Zv → Prop} {bc bs bc' bs' : Nat} {pc : Int} {ls : Zl} {st rest : List Zv}
theorem j_castA {idx k : Nat} {mo : Option Int} {lo hi i : Int} (hp : 0 ≤ pc) (ha : ta_ k = some (1, mo, lo, hi)) (hcl : Cond.classLink Y.1 idx "[I" ∈ lw_g) (hd : decode Y.2.1 pc.toNat = .ok (.checkcast idx, 3)) (kk : J_ Y T0 P bc bs (pc + 3) ls (vR k i :: st) T) : J_ Y T0 P bc bs pc ls (vR k i :: st) T := by
  intro l p e s m args below meth c D cA ad0 A X ad H locs cells slots lsC hc hs hR hS hB hT hL hl hln
  have hal : al_ T k i := ok_al (v := none) (by have := ta_ge ha; omega) (ok_head hL)
  obtain ⟨ids, q0, hq, hids, hP, hD⟩ := rp_at hR hal
  have hw := wd_get (cA := cA) (ad := ad) (T := T) hq
  unfold ce_ at hw
  rw [ha] at hw
  have k2 := kk l p e s m args below meth c D cA ad0 A X ad H locs cells slots lsC hc hs hR hS hB hT hL hl hln
  rw [show (pc + 3).toNat = pc.toNat + 3 by omega] at k2
  exact va_castA X.1 X.2.1 X.2.2.2.2.2.2.1 (X.2.2.2.2.2.1 _ hcl) hP q0 hw (va_nm_int (X.2.2.2.2.2.2.2.1.2 0 (cA 0, .int) rfl).2) hd k2
/-- a thing is put into the rows competitions and matches, at its own number -/
theorem j_aast {k ko : Nat} {n : Option Int} {lo hi i x : Int} (hp : 0 ≤ pc) (hk : (k = 521 ∧ ko = 100) ∨ (k = 523 ∧ ko = 102)) (ha : ta_ k = some (ko / 2 - 46, n, lo, hi)) (hd : decode Y.2.1 pc.toNat = .ok (.aastore, 1)) (h1 : 0 ≤ x) (h2 : x < ln_ T k i) (hlh : lo ≤ 1 ∧ 1 ≤ hi) (kk : J_ Y T0 P bc bs (pc + 1) ls st (up_ T k i x 1)) : J_ Y T0 P bc bs pc ls (vR ko x :: vI x :: vR k i :: st) T := by
  intro l p e s m args below meth c0 D cA ad0 A X ad H locs cells slots lsC hc hs hR hS hB hT hL hl hn
  have hx : -2147483648 ≤ x ∧ x ≤ 2147483647 := ok_head (ok_tail hL)
  have hal : al_ T k i := ok_al (v := none) (by omega) (ok_head (ok_tail (ok_tail hL)))
  have halo : al_ T ko x := ok_al (v := none) (by omega) (ok_head hL)
  have hup := al_up (T := T) (k := k) (i := i) (j := x) (x := 1) (by omega)
  obtain ⟨ids, q0, hq, hids, hP, hD⟩ := rp_at hR hal
  obtain ⟨q1, hq1⟩ := List.getElem?_of_mem ((hids ko x).mp halo)
  have hw := wd_get (cA := cA) (ad := ad) (T := T) hq
  have hw1 := wd_get (cA := cA) (ad := ad) (T := T) hq1
  have hin := i3_in h1 h2 hx.2
  have hok : ok_T (up_ T k i x 1) := by
    obtain ⟨a1, a2, a3, a4, a5, a6, a7, a8, a9⟩ := hT
    have hk5 : k = 521 ∨ k = 523 := by omega
    refine ⟨fun k' t' n' lo' hi' h i' x' hx => ?_, fun k' j' c k'' lo' hi' h i' => ?_, fun i' => ?_, fun k' i' hl' j' c k'' lo' hi' h => ?_, fun i' x' hx h => ?_, fun i' x' hx h => ?_, fun k' i' h q => a7 k' i' h ((hup _ _).mp q), fun k' i' o h q => (a8 k' i' o h ((hup _ _).mp q)).imp (hup _ _).mpr (hup _ _).mpr, fun i' h q => ?_⟩
    · by_cases e : k' = k ∧ i' = i ∧ x' = x
      · obtain ⟨rfl, rfl, rfl⟩ := e
        rw [ha] at h
        cases h
        rw [up_s]
        exact hlh
      · rw [up_n e]
        exact a1 k' t' n' lo' hi' h i' x' hx
    · have := tf_lt h
      rw [up_n (fun e => by omega)]
      exact a2 k' j' c k'' lo' hi' h i'
    · rw [up_n (fun e => by omega)]
      exact a3 i'
    · have := tf_lt h
      rw [up_n (fun e => by omega)]
      exact okv_mono (fun k i => (hup k i).mpr) (a4 k' i' ((hup k' i').mp hl') j' c k'' lo' hi' h)
    · by_cases e : 521 = k ∧ i' = i ∧ x' = x
      · obtain ⟨rfl, rfl, rfl⟩ := e
        have : ko = 100 := by omega
        subst this
        exact (hup _ _).mpr halo
      · rw [up_n e] at h
        exact (hup _ _).mpr (a5 i' x' hx h)
    · by_cases e : 523 = k ∧ i' = i ∧ x' = x
      · obtain ⟨rfl, rfl, rfl⟩ := e
        have : ko = 102 := by omega
        subst this
        exact (hup _ _).mpr halo
      · rw [up_n e] at h
        exact (hup _ _).mpr (a6 i' x' hx h)
    · rw [up_n (fun e => by omega)] at h
      exact a9 i' h ((hup _ _).mp q)
  have e2 : (wd_ cA ad T ids).set q0 (ad k i, ce_ cA ad (up_ T k i x 1) k i) = wd_ cA ad (up_ T k i x 1) ids := wd_set hD hq (fun k' i' h => up_o h)
  have fin : ∀ (H1 : Heap) (locs1 : List Loc), va_P D vwCl (wd_ cA ad (up_ T k i x 1) ids) H1 → va_D A (wd_ cA ad (up_ T k i x 1) ids) → va_S A s.heap H1 locs1 → W p l e Y.2.2.2.2 s m args below meth c0 H1 locs1 cells slots (MQ below (Qc_ D cA ad0 T0 A P) args s Y.2.2.2.2.cells Y.2.2.2.2.slots A) (F0 m (pc.toNat + 1) lsC (st.map (en_v ad))) := fun H1 locs1 hP1 hD1 hS1 => by
    have k2 := kk l p e s m args below meth c0 D cA ad0 A X ad H1 locs1 cells slots lsC hc hs ⟨ids, fun k i => (hup k i).trans (hids k i), hP1, hD1⟩ hS1 ⟨fun k i h => (hup k i).mpr (hB.1 k i h), hB.2⟩ hok ⟨fun k9 v h => okv_mono (fun k i => (hup k i).mpr) (hL.1 k9 v h), fun v h => okv_mono (fun k i => (hup k i).mpr) ((ok_tail (ok_tail (ok_tail hL))).2 v h)⟩ hl hn
    rw [show (pc + 1).toNat = pc.toNat + 1 by omega] at k2
    exact k2
  have hcl := i3_cl h1 hx.2
  have hxn : (Int32.ofInt x).toNatClampNeg = x.toNat := by omega
  rcases hk with ⟨rfl, rfl⟩ | ⟨rfl, rfl⟩
  · have hL4 : ∀ T9 : Zt, ce_ cA ad T9 521 i = .inl (cA 3, (ln_ T9 521 i).toNat, .inr (.inr (.inr (.inr fun x => if T9 521 i (x : Int) = 0 then none else some (ad 100 x))))) := fun T9 => by
      unfold ce_
      rw [ta_521]
      rfl
    rw [hL4] at hw e2
    rw [show (100 : Nat) = 100 + 0 from rfl, ce_ob (by omega)] at hw1
    refine va_astq X.1 X.2.1 X.2.2.2.2.2.2.2.1 hP hD hS q0 3 q1 0 hw rfl hw1 vi_0 hin hd (fun H1 locs1 hP1 hD1 hS1 => ?_)
    have ef : va_up (fun x : Nat => if T 521 i (x : Int) = 0 then none else some (ad 100 x)) (Int32.ofInt x).toNatClampNeg (some (ad (100 + 0) x)) = fun z : Nat => if up_ T 521 i x 1 521 i (z : Int) = 0 then none else some (ad 100 z) := by
      funext z
      unfold va_up
      by_cases ez : z = (Int32.ofInt x).toNatClampNeg
      · have : (z : Int) = x := by omega
        rw [if_pos ez, this, up_s, if_neg (by decide)]
      · rw [if_neg ez, up_n (fun q => ez (by omega))]
    rw [ef, ← ln_up (T := T) (k := 521) (i := i) (x := 1) h1, e2] at hP1 hD1
    exact fin H1 locs1 hP1 hD1 hS1
  · have hL4 : ∀ T9 : Zt, ce_ cA ad T9 523 i = .inl (cA 4, (ln_ T9 523 i).toNat, .inr (.inr (.inr (.inr fun x => if T9 523 i (x : Int) = 0 then none else some (ad 102 x))))) := fun T9 => by
      unfold ce_
      rw [ta_523]
      rfl
    rw [hL4] at hw e2
    rw [show (102 : Nat) = 100 + 2 from rfl, ce_ob (by omega)] at hw1
    refine va_astq X.1 X.2.1 X.2.2.2.2.2.2.2.1 hP hD hS q0 4 q1 2 hw rfl hw1 vi_2 hin hd (fun H1 locs1 hP1 hD1 hS1 => ?_)
    have ef : va_up (fun x : Nat => if T 523 i (x : Int) = 0 then none else some (ad 102 x)) (Int32.ofInt x).toNatClampNeg (some (ad (100 + 2) x)) = fun z : Nat => if up_ T 523 i x 1 523 i (z : Int) = 0 then none else some (ad 102 z) := by
      funext z
      unfold va_up
      by_cases ez : z = (Int32.ofInt x).toNatClampNeg
      · have : (z : Int) = x := by omega
        rw [if_pos ez, this, up_s, if_neg (by decide)]
      · rw [if_neg ez, up_n (fun q => ez (by omega))]
    rw [ef, ← ln_up (T := T) (k := 523) (i := i) (x := 1) h1, e2] at hP1 hD1
    exact fin H1 locs1 hP1 hD1 hS1
end JQ
theorem im_ev (n : Nat) : im_ (2 * n) = false := by
  unfold im_
  simp only [Bool.or_eq_false_iff, beq_eq_false_iff_ne]
  omega
section JR2
variable {Y Yc : Zm} {T0 T : Zt} {P : Zt → Option Zv → Prop} {bc bs bc' bs' : Nat} {pc : Int} {ls : Zl} {st rest : List Zv}
theorem j_mono (h1 : bc' ≤ bc) (h2 : bs' ≤ bs) (k : J_ Y T0 P bc' bs' pc ls st T) : J_ Y T0 P bc bs pc ls st T := by
  intro l p e s m args below meth c D cA ad0 A X ad H locs cells slots lsC hc hs hR hS hB hT hL hl hln
  exact k l p e s m args below meth c D cA ad0 A X ad H locs cells slots lsC (by omega) (by omega) hR hS hB hT hL hl hln
theorem nv_fr {U : Zt} {n : Int} (h : U = nv_ T n) : fr_ [(190, []), (191, [0])] T U := fun k i j w => by
  subst h
  unfold nv_
  rw [up_n (fun z => by rw [z.1, z.2.2] at w; exact absurd w (by decide)), nu_o (fun z => by rw [z.1] at w; simp [fw_] at w)]
theorem nv_t9 {U : Zt} {n : Int} (h : U = nv_ T n) : U 191 0 0 = T 191 0 0 + 1 := by rw [h]; exact nv_9
theorem nv_tl {U : Zt} {n : Int} (h : U = nv_ T n) : U 190 (T 191 0 0) (-2) = n := by rw [h, nv_s, nu_l]
theorem nv_to {U : Zt} {n : Int} (h : U = nv_ T n) (x j : Int) (hx : x ≠ T 191 0 0) : U 190 x j = T 190 x j := by rw [h, nv_o (fun z => hx z.2) (by decide)]
theorem nu_fr {U : Zt} {k : Nat} {i n : Int} {f : Int → Int} (h : U = nu_ T k i n f) : fr_ [(k, [])] T U := fun k' i' j w => by
  subst h
  rw [nu_o (fun z => by rw [z.1] at w; simp [fw_] at w)]
theorem nu_tz {U : Zt} {k : Nat} {i n : Int} (h : U = nu_ T k i n (fun _ => 0)) (j : Int) (hj : 0 ≤ j) : U k i j = 0 := by rw [h, nu_p hj]
theorem nu_to {U : Zt} {k : Nat} {i n : Int} {f : Int → Int} (h : U = nu_ T k i n f) (k' : Nat) (i' j : Int) (hx : ¬ (k' = k ∧ i' = i)) : U k' i' j = T k' i' j := by rw [h, nu_o hx]
theorem nu_tv {U : Zt} {k : Nat} {i n : Int} {f : Int → Int} (h : U = nu_ T k i n f) : U k i (-1) = 1 := by rw [h, nu_s, if_pos rfl]
theorem fv5_ {k' : Nat} {x i : Int} (h : 0 ≤ x) : fv_ 5 k' (x + 1) i = vR k' x := by
  show (if x + 1 = 0 then vN else vR k' (x + 1 - 1)) = _
  rw [if_neg (by omega), show x + 1 - 1 = x by omega]
theorem nf_0 (i : Int) (ad : Nat → Int → Nat) (j : Nat) (h : j < 9) : defaultValue (tyX0 j) = vp_V (rw_fs 0 ad i) j := by
  have e : rw_fs 0 ad i = [.int 0, .null, .null, .null, .null, .int 0, .int 0, .int 0, .int 0] := rfl
  have e2 : ∀ j, j < 9 → defaultValue (tyX0 j) = vp_V [.int 0, .null, .null, .null, .null, .int 0, .int 0, .int 0, .int 0] j := by decide +kernel
  rw [e]
  exact e2 j h
theorem nf_2 (i : Int) (ad : Nat → Int → Nat) (j : Nat) (h : j < 11) : defaultValue (tyX2 j) = vp_V (rw_fs 2 ad i) j := by
  have e : rw_fs 2 ad i = [.null, .int 0, .int 0, .int 0, .int 0, .int 0, .int 0, .int 0, .null, .null, .null] := rfl
  have e2 : ∀ j, j < 11 → defaultValue (tyX2 j) = vp_V [.null, .int 0, .int 0, .int 0, .int 0, .int 0, .int 0, .int 0, .null, .null, .null] j := by decide +kernel
  rw [e]
  exact e2 j h
theorem nf_3 (i : Int) (ad : Nat → Int → Nat) (j : Nat) (h : j < 18) : defaultValue (tyX3 j) = vp_V (rw_fs 3 ad i) j := by
  have e : rw_fs 3 ad i = [.null, .null, .null, .int 0, .int 0, .int 0, .null, .null, .null, .null, .null, .null, .null, .null, .null, .int 0, .null, .int 0] := rfl
  have e2 : ∀ j, j < 18 → defaultValue (tyX3 j) = vp_V [.null, .null, .null, .int 0, .int 0, .int 0, .null, .null, .null, .null, .null, .null, .null, .null, .null, .int 0, .null, .int 0] j := by decide +kernel
  rw [e]
  exact e2 j h
/-- a part of a row is copied into another -/
def cp_ (T : Zt) (a b n : Int) : Zt := fun k i j => if k = 190 ∧ i = b ∧ 0 ≤ j ∧ j < n then T 190 a j else T k i j
theorem cp_n {a b n : Int} {k : Nat} {i j : Int} (h : ¬ (k = 190 ∧ i = b ∧ 0 ≤ j ∧ j < n)) : cp_ T a b n k i j = T k i j := by
  unfold cp_
  rw [if_neg h]
theorem al_cp {a b n : Int} (k : Nat) (i : Int) : al_ (cp_ T a b n) k i ↔ al_ T k i := by
  unfold al_
  rw [cp_n (fun z => by omega)]
theorem ok_cp (hT : ok_T T) {a b n : Int} : ok_T (cp_ T a b n) := by
  obtain ⟨a1, a2, a3, a4, a5, a6, a7, a8, a9⟩ := hT
  refine ⟨fun k' t' n' lo' hi' h i' x' hx => ?_, fun k' j' c k'' lo' hi' h i' => ?_, fun i' => ?_, fun k' i' hl' j' c k'' lo' hi' h => ?_, fun i' x' hx h => ?_, fun i' x' hx h => ?_, fun k' i' h q => a7 k' i' h ((al_cp _ _).mp q), fun k' i' o h q => (a8 k' i' o h ((al_cp _ _).mp q)).imp (al_cp _ _).mpr (al_cp _ _).mpr, fun i' h q => ?_⟩
  · by_cases e : k' = 190 ∧ i' = b ∧ 0 ≤ x' ∧ x' < n
    · obtain ⟨rfl, rfl, -⟩ := e
      unfold cp_
      split
      · exact a1 _ _ _ _ _ h a x' hx
      · exact a1 _ _ _ _ _ h i' x' hx
    · rw [cp_n e]
      exact a1 k' t' n' lo' hi' h i' x' hx
  · have := tf_lt h
    rw [cp_n (fun e => by omega)]
    exact a2 k' j' c k'' lo' hi' h i'
  · rw [cp_n (fun e => by omega)]
    exact a3 i'
  · have := tf_lt h
    rw [cp_n (fun e => by omega)]
    exact okv_mono (fun k i => (al_cp k i).mpr) (a4 k' i' ((al_cp k' i').mp hl') j' c k'' lo' hi' h)
  · rw [cp_n (fun e => by omega)] at h
    exact (al_cp _ _).mpr (a5 i' x' hx h)
  · rw [cp_n (fun e => by omega)] at h
    exact (al_cp _ _).mpr (a6 i' x' hx h)
  · rw [cp_n (fun e => by omega)] at h
    exact a9 i' h ((al_cp _ _).mp q)
theorem cp_fr {U : Zt} {a b n : Int} (h : U = cp_ T a b n) : fr_ [(190, [])] T U := fun k i j w => by
  subst h
  rw [cp_n (fun z => by rw [z.1] at w; simp [fw_] at w)]
theorem cp_l {U : Zt} {a b n : Int} (h : U = cp_ T a b n) (x : Int) : U 190 x (-2) = T 190 x (-2) := by rw [h, cp_n (fun z => by omega)]
theorem cp_o {U : Zt} {a b n : Int} (h : U = cp_ T a b n) (x j : Int) (hx : x ≠ b) : U 190 x j = T 190 x j := by rw [h, cp_n (fun z => hx z.2.1)]
theorem j_acp {idx : Nat} {a b n : Int} (hp : 0 ≤ pc) (h0 : 0 ≤ n) (h1 : n ≤ T 190 a (-2)) (h2 : n ≤ T 190 b (-2)) (hml : Cond.methodLink Y.1 idx arraycopyName ∈ lw_g) (hna : Cond.native arraycopyName ∈ lw_g) (hst : Cond.static arraycopyName ∈ lw_g) (hin : Cond.initialized "java/lang/System" ∈ lw_g) (hd : decode Y.2.1 pc.toNat = .ok (.invokestatic idx, 3)) (hf : 1 ≤ Y.2.2.2.2.frames) (hlo : 8 + (nativeFrameWords "java/lang/System" "arraycopy" 5 + 11) ≤ Y.2.2.2.2.locals) (hrest : st.length ≤ 4) (kk : J_ Y T0 P bc bs (pc + 3) ls st (cp_ T a b n)) : J_ Y T0 P bc bs pc ls (vI n :: vI 0 :: vR 190 b :: vI 0 :: vR 190 a :: st) T := by
  intro l p e s m args below meth c D cA ad0 A X ad H locs cells slots lsC hc hs hR hS hB hT hL hl hln
  have hb : al_ T 190 b := ok_al (v := none) (by omega) (ok_head (ok_tail (ok_tail hL)))
  have ha : al_ T 190 a := ok_al (v := none) (by omega) (ok_head (ok_tail (ok_tail (ok_tail (ok_tail hL)))))
  have hn : -2147483648 ≤ n ∧ n ≤ 2147483647 := ok_head hL
  obtain ⟨ids, q0, hq, hids, hP, hD⟩ := rp_at hR ha
  obtain ⟨q1, hq1⟩ := List.getElem?_of_mem ((hids 190 b).mp hb)
  have w := X.2.2.2.2.2.1
  have sm := en_sum (ad := ad) st
  have hwa := wd_get (cA := cA) (ad := ad) (T := T) hq
  rw [ce_i (n := T 190 a (-2)) ta_190 (Or.inl ⟨rfl, rfl⟩)] at hwa
  have hwb := wd_get (cA := cA) (ad := ad) (T := T) hq1
  rw [ce_i (n := T 190 b (-2)) ta_190 (Or.inl ⟨rfl, rfl⟩)] at hwb
  have hcl := i3_cl h0 hn.2
  have hin2 := i3_in h0 (show n < n + 1 by omega) hn.2
  have z0 : (0 : Int32).toNatClampNeg = 0 := by decide
  have e2 : (wd_ cA ad T ids).set q1 (ad 190 b, ce_ cA ad (cp_ T a b n) 190 b) = wd_ cA ad (cp_ T a b n) ids := by
    refine wd_set hD hq1 (fun k' i' h => ?_)
    funext j
    exact cp_n (fun z => h (by rw [z.1, z.2.1]))
  rw [ce_i (n := T 190 b (-2)) ta_190 (Or.inl ⟨rfl, by rw [cp_n (fun z => by omega)]⟩)] at e2
  refine va_copyi (n := Int32.ofInt n) (sp := 0) (dp := 0) (ty := .int) X.1 X.2.1 (X.2.2.1.trans hl.1.symm) X.2.2.2.2.2.2.1 (w _ hml) (w _ hna) (w _ hst) (w _ hin) X.2.2.2.2.2.2.2.1 hP hD hS q0 q1 0 0 hwa hwb rfl rfl rfl (by decide) (by decide) (fun z => hin2 (Or.inl z)) (by rw [z0]; omega) (by rw [z0]; omega) (fun _ _ => rfl) hf (by omega) hd (fun H1 locs1 hP1 hD1 hS1 => ?_)
  have ef : va_cpy (fun x : Nat => Int32.ofInt (T 190 a (x : Int))) (fun x : Nat => Int32.ofInt (T 190 b (x : Int))) (0 : Int32).toNatClampNeg (0 : Int32).toNatClampNeg (Int32.ofInt n).toNatClampNeg = fun x : Nat => Int32.ofInt (cp_ T a b n 190 b (x : Int)) := by
    funext x
    unfold va_cpy
    rw [z0]
    by_cases hx : (x : Int) < n
    · rw [if_pos (by omega)]
      unfold cp_
      rw [if_pos ⟨rfl, rfl, by omega, hx⟩, show 0 + (x - 0) = x by omega]
    · rw [if_neg (by omega), cp_n (fun z => hx z.2.2.2)]
  rw [ef, e2] at hP1 hD1
  have k2 := kk l p e s m args below meth c D cA ad0 A X ad H1 locs1 cells slots lsC hc hs ⟨ids, fun k i => (al_cp k i).trans (hids k i), hP1, hD1⟩ hS1 ⟨fun k i h => (al_cp k i).mpr (hB.1 k i h), hB.2⟩ (ok_cp hT) ⟨fun k9 v h => okv_mono (fun k i => (al_cp k i).mpr) (hL.1 k9 v h), fun v h => okv_mono (fun k i => (al_cp k i).mpr) ((ok_tail (ok_tail (ok_tail (ok_tail (ok_tail hL))))).2 v h)⟩ hl hln
  rw [show (pc + 3).toNat = pc.toNat + 3 by omega] at k2
  exact k2
end JR2
abbrev cJ7_copyOf_59c91 : ByteArray := prog_21_method_123_code
def yJ7_copyOf_59c91 : MethodName := ⟨RJ7, "copyOf", "([II)[I"⟩
def zJ7_copyOf_59c91 (sl : Nat) : Zm := (RJ7, cJ7_copyOf_59c91, 3, (some (.array .int)), { frames := 1, cells := 1, slots := 2 * sl, locals := 70 })
theorem bk_J7_copyOf_59c91_0 : ck_ fJ7 (some (.array .int)) cJ7_copyOf_59c91 0 [.iload 1, .aload 0, .arraylength, .if_icmp .ne 14, .aload 0] 7 = true := qck_r (nn_ _) (by decide +kernel)
theorem bs_J7_copyOf_59c91_0 {P : Zt → Option Zv → Prop} (K : Int → Zl → List Zv → Zt → Prop) : sx_ K P [.iload 1, .aload 0, .arraylength, .if_icmp .ne 14, .aload 0] 7 = x_iload 1 (x_aload 0 (x_arraylength (x_if_icmp .ne 14 K (x_aload 0 (K 7))))) := ((xe_iload 1).trans (congrArg (x_iload 1) ((xe_aload 0).trans (congrArg (x_aload 0) ((xe_arraylength).trans (congrArg (x_arraylength) ((xe_if_icmp .ne 14).trans (congrArg (x_if_icmp .ne 14 K) ((xe_aload 0).trans (congrArg (x_aload 0) xe_nil))))))))))
theorem bk_J7_copyOf_59c91_14 : ck_ fJ7 (some (.array .int)) cJ7_copyOf_59c91 14 [.iload 1] 15 = true := qck_r (nn_ _) (by decide +kernel)
theorem bs_J7_copyOf_59c91_14 {P : Zt → Option Zv → Prop} (K : Int → Zl → List Zv → Zt → Prop) : sx_ K P [.iload 1] 15 = x_iload 1 (K 15) := ((xe_iload 1).trans (congrArg (x_iload 1) xe_nil))
theorem bk_J7_copyOf_59c91_17 : ck_ fJ7 (some (.array .int)) cJ7_copyOf_59c91 17 [.astore 2, .aload 0, .iconst 0, .aload 2, .iconst 0, .aload 0, .arraylength, .iload 1] 25 = true := qck_r (nn_ _) (by decide +kernel)
theorem bs_J7_copyOf_59c91_17 {P : Zt → Option Zv → Prop} (K : Int → Zl → List Zv → Zt → Prop) : sx_ K P [.astore 2, .aload 0, .iconst 0, .aload 2, .iconst 0, .aload 0, .arraylength, .iload 1] 25 = x_astore 2 (x_aload 0 (x_iconst 0 (x_aload 2 (x_iconst 0 (x_aload 0 (x_arraylength (x_iload 1 (K 25)))))))) := ((xe_astore 2).trans (congrArg (x_astore 2) ((xe_aload 0).trans (congrArg (x_aload 0) ((xe_iconst 0).trans (congrArg (x_iconst 0) ((xe_aload 2).trans (congrArg (x_aload 2) ((xe_iconst 0).trans (congrArg (x_iconst 0) ((xe_aload 0).trans (congrArg (x_aload 0) ((xe_arraylength).trans (congrArg (x_arraylength) ((xe_iload 1).trans (congrArg (x_iload 1) xe_nil))))))))))))))))
theorem bk_J7_copyOf_59c91_31 : ck_ fJ7 (some (.array .int)) cJ7_copyOf_59c91 31 [.aload 2] 32 = true := qck_r (nn_ _) (by decide +kernel)
theorem bs_J7_copyOf_59c91_31 {P : Zt → Option Zv → Prop} (K : Int → Zl → List Zv → Zt → Prop) : sx_ K P [.aload 2] 32 = x_aload 2 (K 32) := ((xe_aload 2).trans (congrArg (x_aload 2) xe_nil))
abbrev po_J7_copyOf_59c91 (T : Zt) (sl : Nat) (a : Int) (n : Int) : Zt → Option Zv → Prop := fun T' r => r = some (vR 190 (T 191 0 0)) ∧ fr_ [(190, []), (191, [0])] T T' ∧ T' 191 0 0 = T 191 0 0 + 1 ∧ T' 190 (T 191 0 0) (-2) = n ∧ ∀ x j, x ≠ T 191 0 0 → T' 190 x j = T 190 x j
set_option maxHeartbeats 4000000 in
theorem ct_J7_copyOf_59c91 {T : Zt} {sl : Nat} {a : Int} {n : Int} (h1 : T 190 a (-2) < n ∧ n ≤ 100000 ∧ 0 ≤ T 190 a (-2)) (h2 : n.toNat ≤ 2 * sl) (h3 : a < T 191 0 0) : Ct_ yJ7_copyOf_59c91 (zJ7_copyOf_59c91 sl) T [vR 190 a, vI n] (po_J7_copyOf_59c91 T sl a n) := by
  refine ct_of (by decide) rfl rfl (Nat.le_of_ble_eq_true rfl) (fun hT hav => ?_) (hi := fun h => absurd ((im_ev _).symm.trans h) (by decide))
  have hr_n : -2147483648 ≤ n ∧ n ≤ 2147483647 := hav (vI n) (by simp)
  have hz : (zJ7_copyOf_59c91 sl).2.2.2.1 = some .boolean → ∀ (T' : Zt) (x : Int), po_J7_copyOf_59c91 T sl a n T' (some (vI x)) → 0 ≤ x ∧ x ≤ 1 := fun h => by cases h
  show J_ (zJ7_copyOf_59c91 sl) T (po_J7_copyOf_59c91 T sl a n) 1 (2 * sl) 0 [some (vR 190 a), some (vI n), none] [] T
  refine j_blx (F := fJ7) tb_J7 (nn_ _) bk_J7_copyOf_59c91_0 bs_J7_copyOf_59c91_0 hz (fun K hK => ?_)
  intro b1 b1b
  refine And.intro (fun c2 => ?_) (fun c2 => ?_)
  · refine hK 14 _ [] T ?_
    refine j_blx (F := fJ7) tb_J7 (nn_ _) bk_J7_copyOf_59c91_14 bs_J7_copyOf_59c91_14 hz (fun K hK => ?_)
    refine hK 15 _ [vI n] T ?_
    refine j_newL (bc' := 0) (bs' := 0) (pc := 15) (by decide) (by omega) (by omega) (by omega) (by show decode cJ7_copyOf_59c91 (Int.toNat 15) = _; decide +kernel) (lw_b1 72 (by decide +kernel) rfl : Cond.arrayClass .int ∈ lw_g) ?_
    refine j_nm (fun U3 hU3 => ?_)
    have fU3 := nv_fr hU3
    have aU3 := nv_t9 hU3
    have lU3 := nv_tl hU3
    have oU3 := nv_to hU3
    show J_ (zJ7_copyOf_59c91 sl) T (po_J7_copyOf_59c91 T sl a n) 0 0 17 _ [vR 190 (T 191 0 0)] U3
    refine j_blx (F := fJ7) tb_J7 (nn_ _) bk_J7_copyOf_59c91_17 bs_J7_copyOf_59c91_17 hz (fun K hK => ?_)
    have y8 : U3 190 a (-2) = T 190 a (-2) := oU3 a (-2) (by omega)
    intro b4 b4b
    refine hK 25 [some (vR 190 a), some (vI n), some (vR 190 (T 191 0 0))] [vI n, vI (U3 190 a (-2)), vI 0, vR 190 (T 191 0 0), vI 0, vR 190 a] U3 ?_
    obtain ⟨x5, e6, hx5⟩ : ∃ x5 : Int, (if n < (U3 190 a (-2)) then n else (U3 190 a (-2))) = x5 ∧ ((x5 = U3 190 a (-2) ∨ x5 = n) ∧ x5 ≤ U3 190 a (-2) ∧ x5 ≤ n) := ⟨_, rfl, by split <;> omega⟩
    refine j_mn (pc := 25) (lw_b5 142 (by decide +kernel) rfl : Cond.methodLink RJ7 304 Lib.Math.min.name ∈ lw_g) (lw_b4 117 (by decide +kernel) rfl : Cond.static Lib.Math.min.name ∈ lw_g) (lw_b1 17 (by decide +kernel) rfl : Cond.initialized "java/lang/Math" ∈ lw_g) (lw_b4 118 (by decide +kernel) rfl : Cond.code Lib.Math.min.name Lib.Math.min.code 2 (some .int) ∈ lw_g) (by show decode cJ7_copyOf_59c91 (Int.toNat 25) = _; decide +kernel) (by decide) (Nat.le_of_ble_eq_true rfl) (Nat.le_of_ble_eq_true rfl) (Nat.le_of_ble_eq_true rfl) ?_
    rw [e6]
    show J_ (zJ7_copyOf_59c91 sl) T (po_J7_copyOf_59c91 T sl a n) 0 0 28 _ [vI x5, vI 0, vR 190 (T 191 0 0), vI 0, vR 190 a] U3
    have y9 : U3 190 a (-2) = T 190 a (-2) := oU3 a (-2) (by omega)
    refine j_acp (pc := 28) (by decide) (by omega) (by omega) (by omega) (lw_b5 143 (by decide +kernel) rfl : Cond.methodLink RJ7 150 arraycopyName ∈ lw_g) (lw_b5 145 (by decide +kernel) rfl : Cond.native arraycopyName ∈ lw_g) (lw_b5 144 (by decide +kernel) rfl : Cond.static arraycopyName ∈ lw_g) (lw_b1 20 (by decide +kernel) rfl : Cond.initialized "java/lang/System" ∈ lw_g) (by show decode cJ7_copyOf_59c91 (Int.toNat 28) = _; decide +kernel) (by show 1 ≤ 1; omega) (by show 8 + (nativeFrameWords "java/lang/System" "arraycopy" 5 + 11) ≤ 70; decide) (by decide) ?_
    refine j_nm (fun U7 hU7 => ?_)
    have fU7 := cp_fr hU7
    have lU7 := cp_l hU7
    have oU7 := cp_o hU7
    show J_ (zJ7_copyOf_59c91 sl) T (po_J7_copyOf_59c91 T sl a n) 0 0 31 _ [] U7
    refine j_blx (F := fJ7) tb_J7 (nn_ _) bk_J7_copyOf_59c91_31 bs_J7_copyOf_59c91_31 hz (fun K hK => ?_)
    refine hK 32 _ [vR 190 (T 191 0 0)] U7 ?_
    refine j_aret (pc := 32) rfl (Or.inr ⟨_, rfl⟩) (by show decode cJ7_copyOf_59c91 (Int.toNat 32) = _; decide +kernel) ?_
    refine (show po_J7_copyOf_59c91 T sl a n U7 (some (vR 190 (T 191 0 0))) from ?_)
    have e8 : U7 191 0 0 = U3 191 0 0 := fU7 191 0 0 rfl
    exact ⟨rfl, fr_t (fr_s fU3 rfl) (fr_s fU7 rfl), (fU7 191 0 0 rfl).trans aU3, (lU7 _).trans lU3, fun x j hx => (oU7 x j hx).trans (oU3 x j hx)⟩
  · exact absurd c2 (by omega)
/-- only what has the index p has changed, rows of any length aside -/
def oq_ (T T1 : Zt) (p : Int) : Prop := ∀ k i j, i ≠ p → k ≠ 190 → k ≠ 191 → T1 k i j = T k i j
theorem oq_r {T : Zt} {p : Int} : oq_ T T p := fun _ _ _ _ _ _ => rfl
theorem oq_u {T T1 T2 : Zt} {p j v : Int} {k : Nat} (h : oq_ T T1 p) (e : T2 = up_ T1 k p j v) : oq_ T T2 p := fun k' i j' hi a b => (up_g e (fun q => hi q.2.1)).trans (h k' i j' hi a b)
theorem oq_i {T T1 T2 : Zt} {p : Int} (h : oq_ T T1 p) (g : oi_ T1 T2 p) : oq_ T T2 p := fun k i j hi a b => (g k i j hi).trans (h k i j hi a b)
theorem oq_t {T T1 T2 : Zt} {p : Int} (h : oq_ T T1 p) (g : oq_ T1 T2 p) : oq_ T T2 p := fun k i j hi a b => (g k i j hi a b).trans (h k i j hi a b)
theorem oq_9 {T T1 T2 : Zt} {p : Int} (h : oq_ T T1 p) (g : fr_ [(190, []), (191, [0])] T1 T2) : oq_ T T2 p := fun k i j hi a b => (g k i j (by simp [fw_, a, b])).trans (h k i j hi a b)
theorem oq_1 {T T1 T2 : Zt} {p : Int} (h : oq_ T T1 p) (g : fr_ [(190, [])] T1 T2) : oq_ T T2 p := oq_9 h (fr_s g rfl)
/-- the lengths that a log has -/
def lz_ (x : Int) : Prop := x = 16 ∨ x = 32 ∨ x = 64 ∨ x = 128 ∨ x = 256 ∨ x = 512 ∨ x = 1024 ∨ x = 2048
theorem lz_b {x : Int} (h : lz_ x) : 16 ≤ x ∧ x ≤ 2048 := by unfold lz_ at h; omega
theorem lz_h {x : Int} (h : lz_ x) (g : x < 2048) : x ≤ 1024 := by unfold lz_ at h; omega
theorem lz_d {x : Int} (h : lz_ x) (g : x < 2048) : lz_ (2 * x) := by unfold lz_ at h ⊢; omega
theorem oq_w {T T1 T2 : Zt} {p i j v : Int} (h : oq_ T T1 p) (e : T2 = up_ T1 190 i j v) : oq_ T T2 p := fun k' i' j' hi a b => (up_g e (fun q => a q.1)).trans (h k' i' j' hi a b)
abbrev cX3_writeRow : ByteArray := prog_5_method_31_code
def yX3_writeRow : MethodName := ⟨RX3, "writeRow", "([IIIIII)V"⟩
def zX3_writeRow : Zm := (RX3, cX3_writeRow, 6, none, { frames := 0, cells := 0, slots := 0, locals := 0 })
theorem bk_X3_writeRow_0 : ck_ fX3 none cX3_writeRow 0 [.aload 0, .iload 1, .iconst 4, .imul, .iload 2, .iastore, .aload 0, .iload 1, .iconst 4, .imul, .iconst 1, .iadd, .iload 3, .iastore, .aload 0, .iload 1, .iconst 4, .imul, .iconst 2, .iadd, .iload 4, .iastore, .aload 0, .iload 1, .iconst 4, .imul, .iconst 3, .iadd, .iload 5, .iastore, .return_] 33 = true := qck_r (nn_ _) (by decide +kernel)
theorem bs_X3_writeRow_0 {P : Zt → Option Zv → Prop} (K : Int → Zl → List Zv → Zt → Prop) : sx_ K P [.aload 0, .iload 1, .iconst 4, .imul, .iload 2, .iastore, .aload 0, .iload 1, .iconst 4, .imul, .iconst 1, .iadd, .iload 3, .iastore, .aload 0, .iload 1, .iconst 4, .imul, .iconst 2, .iadd, .iload 4, .iastore, .aload 0, .iload 1, .iconst 4, .imul, .iconst 3, .iadd, .iload 5, .iastore, .return_] 33 = x_aload 0 (x_iload 1 (x_iconst 4 (x_imul (x_iload 2 (x_iastore (x_aload 0 (x_iload 1 (x_iconst 4 (x_imul (x_iconst 1 (x_iadd (x_iload 3 (x_iastore (x_aload 0 (x_iload 1 (x_iconst 4 (x_imul (x_iconst 2 (x_iadd (x_iload 4 (x_iastore (x_aload 0 (x_iload 1 (x_iconst 4 (x_imul (x_iconst 3 (x_iadd (x_iload 5 (x_iastore (x_return_ P)))))))))))))))))))))))))))))) := ((xe_aload 0).trans (congrArg (x_aload 0) ((xe_iload 1).trans (congrArg (x_iload 1) ((xe_iconst 4).trans (congrArg (x_iconst 4) ((xe_imul).trans (congrArg (x_imul) ((xe_iload 2).trans (congrArg (x_iload 2) ((xe_iastore).trans (congrArg (x_iastore) ((xe_aload 0).trans (congrArg (x_aload 0) ((xe_iload 1).trans (congrArg (x_iload 1) ((xe_iconst 4).trans (congrArg (x_iconst 4) ((xe_imul).trans (congrArg (x_imul) ((xe_iconst 1).trans (congrArg (x_iconst 1) ((xe_iadd).trans (congrArg (x_iadd) ((xe_iload 3).trans (congrArg (x_iload 3) ((xe_iastore).trans (congrArg (x_iastore) ((xe_aload 0).trans (congrArg (x_aload 0) ((xe_iload 1).trans (congrArg (x_iload 1) ((xe_iconst 4).trans (congrArg (x_iconst 4) ((xe_imul).trans (congrArg (x_imul) ((xe_iconst 2).trans (congrArg (x_iconst 2) ((xe_iadd).trans (congrArg (x_iadd) ((xe_iload 4).trans (congrArg (x_iload 4) ((xe_iastore).trans (congrArg (x_iastore) ((xe_aload 0).trans (congrArg (x_aload 0) ((xe_iload 1).trans (congrArg (x_iload 1) ((xe_iconst 4).trans (congrArg (x_iconst 4) ((xe_imul).trans (congrArg (x_imul) ((xe_iconst 3).trans (congrArg (x_iconst 3) ((xe_iadd).trans (congrArg (x_iadd) ((xe_iload 5).trans (congrArg (x_iload 5) ((xe_iastore).trans (congrArg (x_iastore) (xe_return_)))))))))))))))))))))))))))))))))))))))))))))))))))))))))))))
abbrev po_X3_writeRow (T : Zt) (a : Int) (i k s v w : Int) : Zt → Option Zv → Prop := fun T' r => r = none ∧ fr_ [(190, [])] T T' ∧ (∀ x, T' 190 x (-2) = T 190 x (-2)) ∧ ∀ x j, x ≠ a → T' 190 x j = T 190 x j
set_option maxHeartbeats 4000000 in
theorem ct_X3_writeRow {T : Zt} {a : Int} {i k s v w : Int} (h1 : 0 ≤ i ∧ i ≤ 1000 ∧ i * 4 + 3 < T 190 a (-2)) : Ct_ yX3_writeRow zX3_writeRow T [vR 190 a, vI i, vI k, vI s, vI v, vI w] (po_X3_writeRow T a i k s v w) := by
  refine ct_of pn_3 rfl rfl (Nat.le_of_ble_eq_true rfl) (fun hT hav => ?_)
  have hr_i : -2147483648 ≤ i ∧ i ≤ 2147483647 := hav (vI i) (by simp)
  have hr_k : -2147483648 ≤ k ∧ k ≤ 2147483647 := hav (vI k) (by simp)
  have hr_s : -2147483648 ≤ s ∧ s ≤ 2147483647 := hav (vI s) (by simp)
  have hr_v : -2147483648 ≤ v ∧ v ≤ 2147483647 := hav (vI v) (by simp)
  have hr_w : -2147483648 ≤ w ∧ w ≤ 2147483647 := hav (vI w) (by simp)
  have hz : zX3_writeRow.2.2.2.1 = some .boolean → ∀ (T' : Zt) (x : Int), po_X3_writeRow T a i k s v w T' (some (vI x)) → 0 ≤ x ∧ x ≤ 1 := fun h => by cases h
  show J_ zX3_writeRow T (po_X3_writeRow T a i k s v w) 0 0 0 [some (vR 190 a), some (vI i), some (vI k), some (vI s), some (vI v), some (vI w)] [] T
  refine j_blx (F := fX3) tb_X3 (nn_ _) bk_X3_writeRow_0 bs_X3_writeRow_0 hz (fun K hK => ?_)
  refine rg_i (by omega) ?_
  refine iy_i (by omega) (by omega) ?_
  refine x_nm (fun U1 hU1 => ?_)
  have e2 := up_f hU1
  refine rg_i (by omega) ?_
  refine rg_i (by omega) ?_
  have y3 : U1 190 a (-2) = T 190 a (-2) := up_g hU1 (fun z => by omega)
  refine iy_i (by omega) (by omega) ?_
  refine x_nm (fun U4 hU4 => ?_)
  have e5 := up_f hU4
  refine rg_i (by omega) ?_
  refine rg_i (by omega) ?_
  have y6 : U4 190 a (-2) = T 190 a (-2) := (up_g hU4 (fun z => by omega)).trans (up_g hU1 (fun z => by omega))
  refine iy_i (by omega) (by omega) ?_
  refine x_nm (fun U7 hU7 => ?_)
  have e8 := up_f hU7
  refine rg_i (by omega) ?_
  refine rg_i (by omega) ?_
  have y9 : U7 190 a (-2) = T 190 a (-2) := (up_g hU7 (fun z => by omega)).trans ((up_g hU4 (fun z => by omega)).trans (up_g hU1 (fun z => by omega)))
  refine iy_i (by omega) (by omega) ?_
  refine x_nm (fun U10 hU10 => ?_)
  have e11 := up_f hU10
  refine (show po_X3_writeRow T a i k s v w U10 (none) from ?_)
  exact ⟨rfl, fr_u (fr_u (fr_u (fr_u (fr_0 _ _) hU1 rfl) hU4 rfl) hU7 rfl) hU10 rfl, fun x => (up_g hU10 (fun z => by omega)).trans ((up_g hU7 (fun z => by omega)).trans ((up_g hU4 (fun z => by omega)).trans (up_g hU1 (fun z => by omega)))), fun x j hx => (up_g hU10 (fun z => hx z.2.1)).trans ((up_g hU7 (fun z => hx z.2.1)).trans ((up_g hU4 (fun z => hx z.2.1)).trans (up_g hU1 (fun z => hx z.2.1))))⟩
abbrev cX3_keepRow : ByteArray := prog_5_method_29_code
def yX3_keepRow : MethodName := ⟨RX3, "keepRow", "(IIII)V"⟩
def zX3_keepRow : Zm := (RX3, cX3_keepRow, 5, none, { frames := 2, cells := 1, slots := 2048, locals := 92 })
theorem bk_X3_keepRow_0 : ck_ fX3 none cX3_keepRow 0 [.aload 0, .tableswitch 0 3 15 #[], .iconst 4, .imul, .iconst 4, .iadd, .aload 0, .tableswitch 0 3 14 #[], .arraylength, .if_icmp .le 34, .aload 0, .aload 0, .tableswitch 0 3 14 #[], .aload 0, .tableswitch 0 3 14 #[], .arraylength, .iconst 2, .imul] 28 = true := qck_r (nn_ _) (by decide +kernel)
theorem bs_X3_keepRow_0 {P : Zt → Option Zv → Prop} (K : Int → Zl → List Zv → Zt → Prop) : sx_ K P [.aload 0, .tableswitch 0 3 15 #[], .iconst 4, .imul, .iconst 4, .iadd, .aload 0, .tableswitch 0 3 14 #[], .arraylength, .if_icmp .le 34, .aload 0, .aload 0, .tableswitch 0 3 14 #[], .aload 0, .tableswitch 0 3 14 #[], .arraylength, .iconst 2, .imul] 28 = x_aload 0 (x_g0 103 15 0 3000 (x_iconst 4 (x_imul (x_iconst 4 (x_iadd (x_aload 0 (x_g3 103 190 14 (x_arraylength (x_if_icmp .le 34 K (x_aload 0 (x_aload 0 (x_g3 103 190 14 (x_aload 0 (x_g3 103 190 14 (x_arraylength (x_iconst 2 (x_imul (K 28)))))))))))))))))) := ((xe_aload 0).trans (congrArg (x_aload 0) ((xe_g0 (kk := 103) rfl tl_3_15).trans (congrArg (x_g0 103 15 0 3000) ((xe_iconst 4).trans (congrArg (x_iconst 4) ((xe_imul).trans (congrArg (x_imul) ((xe_iconst 4).trans (congrArg (x_iconst 4) ((xe_iadd).trans (congrArg (x_iadd) ((xe_aload 0).trans (congrArg (x_aload 0) ((xe_g3 (kk := 103) rfl tl_3_14).trans (congrArg (x_g3 103 190 14) ((xe_arraylength).trans (congrArg (x_arraylength) ((xe_if_icmp .le 34).trans (congrArg (x_if_icmp .le 34 K) ((xe_aload 0).trans (congrArg (x_aload 0) ((xe_aload 0).trans (congrArg (x_aload 0) ((xe_g3 (kk := 103) rfl tl_3_14).trans (congrArg (x_g3 103 190 14) ((xe_aload 0).trans (congrArg (x_aload 0) ((xe_g3 (kk := 103) rfl tl_3_14).trans (congrArg (x_g3 103 190 14) ((xe_arraylength).trans (congrArg (x_arraylength) ((xe_iconst 2).trans (congrArg (x_iconst 2) ((xe_imul).trans (congrArg (x_imul) xe_nil))))))))))))))))))))))))))))))))))))
theorem bk_X3_keepRow_34 : ck_ fX3 none cX3_keepRow 34 [.aload 0, .tableswitch 0 3 14 #[], .aload 0, .tableswitch 0 3 15 #[], .iload 1, .iload 2, .iload 3, .iload 4] 47 = true := qck_r (nn_ _) (by decide +kernel)
theorem bs_X3_keepRow_34 {P : Zt → Option Zv → Prop} (K : Int → Zl → List Zv → Zt → Prop) : sx_ K P [.aload 0, .tableswitch 0 3 14 #[], .aload 0, .tableswitch 0 3 15 #[], .iload 1, .iload 2, .iload 3, .iload 4] 47 = x_aload 0 (x_g3 103 190 14 (x_aload 0 (x_g0 103 15 0 3000 (x_iload 1 (x_iload 2 (x_iload 3 (x_iload 4 (K 47)))))))) := ((xe_aload 0).trans (congrArg (x_aload 0) ((xe_g3 (kk := 103) rfl tl_3_14).trans (congrArg (x_g3 103 190 14) ((xe_aload 0).trans (congrArg (x_aload 0) ((xe_g0 (kk := 103) rfl tl_3_15).trans (congrArg (x_g0 103 15 0 3000) ((xe_iload 1).trans (congrArg (x_iload 1) ((xe_iload 2).trans (congrArg (x_iload 2) ((xe_iload 3).trans (congrArg (x_iload 3) ((xe_iload 4).trans (congrArg (x_iload 4) xe_nil))))))))))))))))
set_option maxRecDepth 100000 in
theorem cl_X3_161 : cs_ RX3 161 yX3_writeRow zX3_writeRow 6 := ⟨gi_S (lw_b5 146 (by decide +kernel) rfl : Cond.methodLink RX3 161 yX3_writeRow ∈ lw_g) (lw_b5 147 (by decide +kernel) rfl : Cond.static yX3_writeRow ∈ lw_g) (lw_b1 18 (by decide +kernel) rfl : Cond.initialized yX3_writeRow.cls ∈ lw_g) (lw_b5 148 rfl rfl : Cond.code yX3_writeRow cX3_writeRow 6 none ∈ lw_g), ⟨by decide, by decide, by decide +kernel⟩⟩
theorem bk_X3_keepRow_50 : ck_ fX3 none cX3_keepRow 50 [.aload 0, .dup, .tableswitch 0 3 15 #[], .iconst 1, .iadd, .tableswitch 1 3 15 #[], .return_] 61 = true := qck_r (nn_ _) (by decide +kernel)
theorem bs_X3_keepRow_50 {P : Zt → Option Zv → Prop} (K : Int → Zl → List Zv → Zt → Prop) : sx_ K P [.aload 0, .dup, .tableswitch 0 3 15 #[], .iconst 1, .iadd, .tableswitch 1 3 15 #[], .return_] 61 = x_aload 0 (x_dup (x_g0 103 15 0 3000 (x_iconst 1 (x_iadd (x_p 103 15 0 3000 (x_return_ P)))))) := ((xe_aload 0).trans (congrArg (x_aload 0) ((xe_dup).trans (congrArg (x_dup) ((xe_g0 (kk := 103) rfl tl_3_15).trans (congrArg (x_g0 103 15 0 3000) ((xe_iconst 1).trans (congrArg (x_iconst 1) ((xe_iadd).trans (congrArg (x_iadd) ((xe_p (kk := 103) rfl tl_3_15).trans (congrArg (x_p 103 15 0 3000) (xe_return_)))))))))))))
set_option maxRecDepth 100000 in
theorem cl_X3_157 (sl : Nat) : cs_ RX3 157 yJ7_copyOf_59c91 (zJ7_copyOf_59c91 sl) 2 := ⟨gi_S (lw_b5 137 (by decide +kernel) rfl : Cond.methodLink RX3 157 yJ7_copyOf_59c91 ∈ lw_g) (lw_b5 138 (by decide +kernel) rfl : Cond.static yJ7_copyOf_59c91 ∈ lw_g) (lw_b1 7 (by decide +kernel) rfl : Cond.initialized yJ7_copyOf_59c91.cls ∈ lw_g) (lw_b5 139 rfl rfl : Cond.code yJ7_copyOf_59c91 cJ7_copyOf_59c91 3 (some (.array .int)) ∈ lw_g), ⟨by decide, by decide, by decide +kernel⟩⟩
theorem fr5_X3_36 : fr5_ RX3 36 3 14 := ⟨_, _, _, rfl, by decide, by decide, (lw_b4 209 (by decide +kernel) rfl : Cond.fieldLink RX3 36 _ _ _ ∈ lw_g), rfl, fun a => ⟨.array .int, by decide +kernel, rfl, rfl⟩⟩
abbrev po_X3_keepRow (T : Zt) (p : Int) (k s v w : Int) : Zt → Option Zv → Prop := fun T' r => r = none ∧ fr_ [(103, [14, 15]), (190, []), (191, [0])] T T' ∧ (oq_ T T' p ∧ T' 103 p 15 = T 103 p 15 + 1 ∧ (∀ x, x < T 191 0 0 → T' 190 x (-2) = T 190 x (-2)) ∧ T 191 0 0 ≤ T' 191 0 0 ∧ T' 191 0 0 ≤ T 191 0 0 + 1 ∧ lz_ (T' 190 (T' 103 p 14) (-2)) ∧ T' 103 p 14 < T' 191 0 0 ∧ 4 * (T 103 p 15 + 1) ≤ T' 190 (T' 103 p 14) (-2) ∧ T' 190 (T' 103 p 14) (-2) ≤ 2 * T 190 (T 103 p 14) (-2))
set_option maxHeartbeats 4000000 in
theorem ct_X3_keepRow {T : Zt} {p : Int} {k s v w : Int} (h1 : 0 ≤ T 103 p 15 ∧ T 103 p 15 < 512 ∧ 4 * T 103 p 15 ≤ T 190 (T 103 p 14) (-2)) (h2 : T 103 p 14 < T 191 0 0 ∧ T 191 0 0 ≤ 2000000000 ∧ -2147483648 ≤ T 103 p 14) (hz9 : lz_ (T 190 (T 103 p 14) (-2))) : Ct_ yX3_keepRow zX3_keepRow T [vR 103 p, vI k, vI s, vI v, vI w] (po_X3_keepRow T p k s v w) := by
  refine ct_of pn_3 rfl rfl (Nat.le_of_ble_eq_true rfl) (fun hT hav => ?_)
  have hr_k : -2147483648 ≤ k ∧ k ≤ 2147483647 := hav (vI k) (by simp)
  have hr_s : -2147483648 ≤ s ∧ s ≤ 2147483647 := hav (vI s) (by simp)
  have hr_v : -2147483648 ≤ v ∧ v ≤ 2147483647 := hav (vI v) (by simp)
  have hr_w : -2147483648 ≤ w ∧ w ≤ 2147483647 := hav (vI w) (by simp)
  have hz : zX3_keepRow.2.2.2.1 = some .boolean → ∀ (T' : Zt) (x : Int), po_X3_keepRow T p k s v w T' (some (vI x)) → 0 ≤ x ∧ x ≤ 1 := fun h => by cases h
  have hb9 := lz_b hz9
  show J_ zX3_keepRow T (po_X3_keepRow T p k s v w) 1 2048 0 [some (vR 103 p), some (vI k), some (vI s), some (vI v), some (vI w)] [] T
  refine j_blx (F := fX3) tb_X3 (nn_ _) bk_X3_keepRow_0 bs_X3_keepRow_0 hz (fun K hK => ?_)
  intro b1 b1b
  refine rg_i (by omega) ?_
  refine rg_i (by omega) ?_
  intro b3 b3b
  refine And.intro (fun c4 => ?_) (fun c4 => ?_)
  · refine hK 34 _ [] T ?_
    refine j_blx (F := fX3) tb_X3 (nn_ _) bk_X3_keepRow_34 bs_X3_keepRow_34 hz (fun K hK => ?_)
    intro b6 b6b
    refine hK 47 _ [vI w, vI v, vI s, vI k, vI (T 103 p 15), vR 190 (T 103 p 14)] T ?_
    refine j_callS (y := yX3_writeRow) (Yc := zX3_writeRow) (rest := []) [vR 190 (T 103 p 14), vI (T 103 p 15), vI k, vI s, vI v, vI w] (ct_X3_writeRow (T := T) (by omega)) cl_X3_161 (qd_c (by decide +kernel)) (nn_ _) rfl (rf_of rfl) (Nat.le_of_ble_eq_true rfl) (Nat.le_of_ble_eq_true rfl) (Nat.le_of_ble_eq_true rfl) rfl ?_
    rintro U7 _ ⟨rfl, fU7, lU7, oU7⟩
    show J_ zX3_keepRow T (po_X3_keepRow T p k s v w) 1 2048 50 _ [] U7
    refine j_blx (F := fX3) tb_X3 (nn_ _) bk_X3_keepRow_50 bs_X3_keepRow_50 hz (fun K hK => ?_)
    intro b8 b8b
    have e9 : U7 103 p 15 = T 103 p 15 := fU7 103 p 15 rfl
    rw [e9] at b8 b8b ⊢
    refine rg_i (by omega) ?_
    refine bd_i (by omega) ?_
    refine x_nm (fun U10 hU10 => ?_)
    have e11 := up_f hU10
    refine (show po_X3_keepRow T p k s v w U10 (none) from ?_)
    have e12 : U10 103 p 15 = (T 103 p 15) + 1 := up_f hU10
    have e13 : U10 103 p 14 = T 103 p 14 := (up_j hU10 (by decide) 103 p).trans (fU7 103 p 14 rfl)
    have e14 : U10 191 0 0 = T 191 0 0 := (up_k hU10 (by exact Nat.ne_of_beq_eq_false rfl) 0 0).trans (fU7 191 0 0 rfl)
    have e15 : U10 103 p 14 = T 103 p 14 := (up_j hU10 (by decide) 103 p).trans (fU7 103 p 14 rfl)
    have e16 : U10 103 p 15 = (T 103 p 15) + 1 := up_f hU10
    have d1 : U10 103 p 14 = T 103 p 14 := by omega
    have d2 : U10 190 (U10 103 p 14) (-2) = T 190 (T 103 p 14) (-2) := by rw [d1]; exact (up_k hU10 (by exact Nat.ne_of_beq_eq_false rfl) _ (-2)).trans (lU7 _)
    have e17 : U10 191 0 0 = T 191 0 0 := (up_k hU10 (by exact Nat.ne_of_beq_eq_false rfl) 0 0).trans (fU7 191 0 0 rfl)
    have d6 : lz_ (U10 190 (U10 103 p 14) (-2)) := by rw [d2]; exact hz9
    exact ⟨rfl, fr_u (fr_t (fr_0 _ _) (fr_s fU7 rfl)) hU10 rfl, oq_u (oq_1 (oq_r) fU7) hU10, by omega, fun x hx => (up_k hU10 (by exact Nat.ne_of_beq_eq_false rfl) _ (-2)).trans (lU7 _), by omega, by omega, d6, by omega, by omega, by omega⟩
  · have hg9 : T 190 (T 103 p 14) (-2) ≤ 1024 := lz_h hz9 (by omega)
    intro b20 b20b
    refine rg_i (by omega) ?_
    refine hK 28 _ [vI ((T 190 (T 103 p 14) (-2)) * 2), vR 190 (T 103 p 14), vR 103 p] T ?_
    refine j_callS (pc := 28) (y := yJ7_copyOf_59c91) (Yc := (zJ7_copyOf_59c91 1024)) (rest := [vR 103 p]) [vR 190 (T 103 p 14), vI ((T 190 (T 103 p 14) (-2)) * 2)] (ct_J7_copyOf_59c91 (T := T) (sl := 1024) (by omega) (by omega) (by omega)) (cl_X3_157 _) (qd_c (by decide +kernel)) (by decide) rfl rfl (Nat.le_of_ble_eq_true rfl) (by first | decide | (simp only [zJ7_copyOf_59c91]; omega)) (by first | decide | (simp only [zJ7_copyOf_59c91]; omega)) rfl ?_
    rintro U21 _ ⟨rfl, fU21, aU21, lU21, oU21⟩
    show J_ zX3_keepRow T (po_X3_keepRow T p k s v w) 0 0 31 _ [vR 190 (T 191 0 0), vR 103 p] U21
    refine j_putV (pc := 31) (ci := 3) (j := 14) (z := T 191 0 0) (by decide) fr5_X3_36 (by decide +kernel : (tf_ 103)[14]? = some (3, 190, (-2147483648), 2147483647)) (by decide +kernel) rfl (by omega) (by omega) ?_
    refine j_nm (fun U22 hU22 => ?_)
    have e23 := up_f hU22
    show J_ zX3_keepRow T (po_X3_keepRow T p k s v w) 0 0 34 _ [] U22
    refine j_blx (F := fX3) tb_X3 (nn_ _) bk_X3_keepRow_34 bs_X3_keepRow_34 hz (fun K hK => ?_)
    have e25 : U22 103 p 14 = T 191 0 0 := up_f hU22
    intro b26 b26b
    have e27 : U22 103 p 15 = T 103 p 15 := (up_j hU22 (by decide) 103 p).trans (fU21 103 p 15 rfl)
    rw [e27] at b26 b26b ⊢
    refine hK 47 _ [vI w, vI v, vI s, vI k, vI (T 103 p 15), vR 190 (U22 103 p 14)] U22 ?_
    have y28 : U22 190 (U22 103 p 14) (-2) = (T 190 (T 103 p 14) (-2)) * 2 := by rw [e25]; exact (up_k hU22 (by exact Nat.ne_of_beq_eq_false rfl) _ (-2)).trans lU21
    refine j_callS (y := yX3_writeRow) (Yc := zX3_writeRow) (rest := []) [vR 190 (U22 103 p 14), vI (T 103 p 15), vI k, vI s, vI v, vI w] (ct_X3_writeRow (T := U22) (by omega)) cl_X3_161 (qd_c (by decide +kernel)) (nn_ _) rfl (rf_of rfl) (Nat.le_of_ble_eq_true rfl) (Nat.le_of_ble_eq_true rfl) (Nat.le_of_ble_eq_true rfl) rfl ?_
    rintro U29 _ ⟨rfl, fU29, lU29, oU29⟩
    show J_ zX3_keepRow T (po_X3_keepRow T p k s v w) 0 0 50 _ [] U29
    refine j_blx (F := fX3) tb_X3 (nn_ _) bk_X3_keepRow_50 bs_X3_keepRow_50 hz (fun K hK => ?_)
    intro b30 b30b
    have e31 : U29 103 p 15 = T 103 p 15 := (fU29 103 p 15 rfl).trans ((up_j hU22 (by decide) 103 p).trans (fU21 103 p 15 rfl))
    rw [e31] at b30 b30b ⊢
    refine rg_i (by omega) ?_
    refine bd_i (by omega) ?_
    refine x_nm (fun U32 hU32 => ?_)
    have e33 := up_f hU32
    refine (show po_X3_keepRow T p k s v w U32 (none) from ?_)
    have e34 : U32 103 p 15 = (T 103 p 15) + 1 := up_f hU32
    have e35 : U32 103 p 14 = T 191 0 0 := (up_j hU32 (by decide) 103 p).trans ((fU29 103 p 14 rfl).trans (up_f hU22))
    have e36 : U32 191 0 0 = U21 191 0 0 := (up_k hU32 (by exact Nat.ne_of_beq_eq_false rfl) 0 0).trans ((fU29 191 0 0 rfl).trans (up_k hU22 (by exact Nat.ne_of_beq_eq_false rfl) 0 0))
    have e37 : U32 103 p 14 = T 191 0 0 := (up_j hU32 (by decide) 103 p).trans ((fU29 103 p 14 rfl).trans (up_f hU22))
    have e38 : U32 103 p 15 = (T 103 p 15) + 1 := up_f hU32
    have d1 : U32 103 p 14 = T 191 0 0 := by omega
    have d2 : U32 190 (U32 103 p 14) (-2) = (T 190 (T 103 p 14) (-2)) * 2 := by rw [d1]; exact ((up_k hU32 (by exact Nat.ne_of_beq_eq_false rfl) _ (-2)).trans ((lU29 _).trans (up_k hU22 (by exact Nat.ne_of_beq_eq_false rfl) _ (-2)))).trans lU21
    have e39 : U32 191 0 0 = U21 191 0 0 := (up_k hU32 (by exact Nat.ne_of_beq_eq_false rfl) 0 0).trans ((fU29 191 0 0 rfl).trans (up_k hU22 (by exact Nat.ne_of_beq_eq_false rfl) 0 0))
    have d5 : T 190 (T 103 p 14) (-2) < 2048 := by omega
    have d6 : lz_ (U32 190 (U32 103 p 14) (-2)) := by rw [d2, show (T 190 (T 103 p 14) (-2)) * 2 = 2 * (T 190 (T 103 p 14) (-2)) by omega]; exact lz_d hz9 d5
    exact ⟨rfl, fr_u (fr_t (fr_u (fr_t (fr_0 _ _) (fr_s fU21 rfl)) hU22 rfl) (fr_s fU29 rfl)) hU32 rfl, oq_u (oq_1 (oq_u (oq_9 (oq_r) fU21) hU22) fU29) hU32, by omega, fun x hx => ((up_k hU32 (by exact Nat.ne_of_beq_eq_false rfl) _ (-2)).trans ((lU29 _).trans (up_k hU22 (by exact Nat.ne_of_beq_eq_false rfl) _ (-2)))).trans (oU21 x (-2) (by omega)), by omega, by omega, d6, by omega, by omega, by omega⟩
def zX3_keepRow0 : Zm := (RX3, cX3_keepRow, 5, none, { frames := 2, cells := 0, slots := 0, locals := 92 })
abbrev po_X3_keepRow0 (T : Zt) (p : Int) (k s v w : Int) : Zt → Option Zv → Prop := fun T' r => r = none ∧ fr_ [(103, [15]), (190, [])] T T' ∧ (oq_ T T' p ∧ T' 103 p 15 = T 103 p 15 + 1 ∧ (∀ x, x < T 191 0 0 → T' 190 x (-2) = T 190 x (-2)) ∧ True)
set_option maxHeartbeats 4000000 in
theorem ct_X3_keepRow0 {T : Zt} {p : Int} {k s v w : Int} (h1 : 0 ≤ T 103 p 15 ∧ T 103 p 15 < 512 ∧ 4 * T 103 p 15 ≤ T 190 (T 103 p 14) (-2)) (h2 : T 103 p 14 < T 191 0 0 ∧ T 191 0 0 ≤ 2000000000 ∧ -2147483648 ≤ T 103 p 14) (h3 : 4 * T 103 p 15 + 4 ≤ T 190 (T 103 p 14) (-2)) : Ct_ yX3_keepRow zX3_keepRow0 T [vR 103 p, vI k, vI s, vI v, vI w] (po_X3_keepRow0 T p k s v w) := by
  refine ct_of pn_3 rfl rfl (Nat.le_of_ble_eq_true rfl) (fun hT hav => ?_)
  have hr_k : -2147483648 ≤ k ∧ k ≤ 2147483647 := hav (vI k) (by simp)
  have hr_s : -2147483648 ≤ s ∧ s ≤ 2147483647 := hav (vI s) (by simp)
  have hr_v : -2147483648 ≤ v ∧ v ≤ 2147483647 := hav (vI v) (by simp)
  have hr_w : -2147483648 ≤ w ∧ w ≤ 2147483647 := hav (vI w) (by simp)
  have hz : zX3_keepRow0.2.2.2.1 = some .boolean → ∀ (T' : Zt) (x : Int), po_X3_keepRow0 T p k s v w T' (some (vI x)) → 0 ≤ x ∧ x ≤ 1 := fun h => by cases h
  show J_ zX3_keepRow0 T (po_X3_keepRow0 T p k s v w) 0 0 0 [some (vR 103 p), some (vI k), some (vI s), some (vI v), some (vI w)] [] T
  refine j_blx (F := fX3) tb_X3 (nn_ _) bk_X3_keepRow_0 bs_X3_keepRow_0 hz (fun K hK => ?_)
  intro b1 b1b
  refine rg_i (by omega) ?_
  refine rg_i (by omega) ?_
  intro b3 b3b
  refine And.intro (fun c4 => ?_) (fun c4 => ?_)
  · refine hK 34 _ [] T ?_
    refine j_blx (F := fX3) tb_X3 (nn_ _) bk_X3_keepRow_34 bs_X3_keepRow_34 hz (fun K hK => ?_)
    intro b6 b6b
    refine hK 47 _ [vI w, vI v, vI s, vI k, vI (T 103 p 15), vR 190 (T 103 p 14)] T ?_
    refine j_callS (y := yX3_writeRow) (Yc := zX3_writeRow) (rest := []) [vR 190 (T 103 p 14), vI (T 103 p 15), vI k, vI s, vI v, vI w] (ct_X3_writeRow (T := T) (by omega)) cl_X3_161 (qd_c (by decide +kernel)) (nn_ _) rfl (rf_of rfl) (Nat.le_of_ble_eq_true rfl) (Nat.le_of_ble_eq_true rfl) (Nat.le_of_ble_eq_true rfl) rfl ?_
    rintro U7 _ ⟨rfl, fU7, lU7, oU7⟩
    show J_ zX3_keepRow0 T (po_X3_keepRow0 T p k s v w) 0 0 50 _ [] U7
    refine j_blx (F := fX3) tb_X3 (nn_ _) bk_X3_keepRow_50 bs_X3_keepRow_50 hz (fun K hK => ?_)
    intro b8 b8b
    have e9 : U7 103 p 15 = T 103 p 15 := fU7 103 p 15 rfl
    rw [e9] at b8 b8b ⊢
    refine rg_i (by omega) ?_
    refine bd_i (by omega) ?_
    refine x_nm (fun U10 hU10 => ?_)
    have e11 := up_f hU10
    refine (show po_X3_keepRow0 T p k s v w U10 (none) from ?_)
    have e12 : U10 103 p 15 = (T 103 p 15) + 1 := up_f hU10
    have e13 : U10 103 p 14 = T 103 p 14 := (up_j hU10 (by decide) 103 p).trans (fU7 103 p 14 rfl)
    have e14 : U10 103 p 15 = (T 103 p 15) + 1 := up_f hU10
    exact ⟨rfl, fr_u (fr_t (fr_0 _ _) (fr_s fU7 rfl)) hU10 rfl, oq_u (oq_1 (oq_r) fU7) hU10, by omega, fun x hx => (up_k hU10 (by exact Nat.ne_of_beq_eq_false rfl) _ (-2)).trans (lU7 _), trivial⟩
  · exact absurd c4 (by omega)
abbrev cX3_putAside : ByteArray := prog_5_method_30_code
def yX3_putAside : MethodName := ⟨RX3, "putAside", "(IIII)V"⟩
def zX3_putAside0 : Zm := (RX3, cX3_putAside, 5, none, { frames := 2, cells := 0, slots := 0, locals := 92 })
theorem bk_X3_putAside_0 : ck_ fX3 none cX3_putAside 0 [.aload 0, .tableswitch 0 3 17 #[], .iconst 4, .imul, .iconst 4, .iadd, .aload 0, .tableswitch 0 3 16 #[], .arraylength, .if_icmp .le 34, .aload 0, .aload 0, .tableswitch 0 3 16 #[], .aload 0, .tableswitch 0 3 16 #[], .arraylength, .iconst 2, .imul] 28 = true := qck_r (nn_ _) (by decide +kernel)
theorem bs_X3_putAside_0 {P : Zt → Option Zv → Prop} (K : Int → Zl → List Zv → Zt → Prop) : sx_ K P [.aload 0, .tableswitch 0 3 17 #[], .iconst 4, .imul, .iconst 4, .iadd, .aload 0, .tableswitch 0 3 16 #[], .arraylength, .if_icmp .le 34, .aload 0, .aload 0, .tableswitch 0 3 16 #[], .aload 0, .tableswitch 0 3 16 #[], .arraylength, .iconst 2, .imul] 28 = x_aload 0 (x_g0 103 17 0 3000 (x_iconst 4 (x_imul (x_iconst 4 (x_iadd (x_aload 0 (x_g3 103 190 16 (x_arraylength (x_if_icmp .le 34 K (x_aload 0 (x_aload 0 (x_g3 103 190 16 (x_aload 0 (x_g3 103 190 16 (x_arraylength (x_iconst 2 (x_imul (K 28)))))))))))))))))) := ((xe_aload 0).trans (congrArg (x_aload 0) ((xe_g0 (kk := 103) rfl tl_3_17).trans (congrArg (x_g0 103 17 0 3000) ((xe_iconst 4).trans (congrArg (x_iconst 4) ((xe_imul).trans (congrArg (x_imul) ((xe_iconst 4).trans (congrArg (x_iconst 4) ((xe_iadd).trans (congrArg (x_iadd) ((xe_aload 0).trans (congrArg (x_aload 0) ((xe_g3 (kk := 103) rfl tl_3_16).trans (congrArg (x_g3 103 190 16) ((xe_arraylength).trans (congrArg (x_arraylength) ((xe_if_icmp .le 34).trans (congrArg (x_if_icmp .le 34 K) ((xe_aload 0).trans (congrArg (x_aload 0) ((xe_aload 0).trans (congrArg (x_aload 0) ((xe_g3 (kk := 103) rfl tl_3_16).trans (congrArg (x_g3 103 190 16) ((xe_aload 0).trans (congrArg (x_aload 0) ((xe_g3 (kk := 103) rfl tl_3_16).trans (congrArg (x_g3 103 190 16) ((xe_arraylength).trans (congrArg (x_arraylength) ((xe_iconst 2).trans (congrArg (x_iconst 2) ((xe_imul).trans (congrArg (x_imul) xe_nil))))))))))))))))))))))))))))))))))))
theorem bk_X3_putAside_34 : ck_ fX3 none cX3_putAside 34 [.aload 0, .tableswitch 0 3 16 #[], .aload 0, .tableswitch 0 3 17 #[], .iload 1, .iload 2, .iload 3, .iload 4] 47 = true := qck_r (nn_ _) (by decide +kernel)
theorem bs_X3_putAside_34 {P : Zt → Option Zv → Prop} (K : Int → Zl → List Zv → Zt → Prop) : sx_ K P [.aload 0, .tableswitch 0 3 16 #[], .aload 0, .tableswitch 0 3 17 #[], .iload 1, .iload 2, .iload 3, .iload 4] 47 = x_aload 0 (x_g3 103 190 16 (x_aload 0 (x_g0 103 17 0 3000 (x_iload 1 (x_iload 2 (x_iload 3 (x_iload 4 (K 47)))))))) := ((xe_aload 0).trans (congrArg (x_aload 0) ((xe_g3 (kk := 103) rfl tl_3_16).trans (congrArg (x_g3 103 190 16) ((xe_aload 0).trans (congrArg (x_aload 0) ((xe_g0 (kk := 103) rfl tl_3_17).trans (congrArg (x_g0 103 17 0 3000) ((xe_iload 1).trans (congrArg (x_iload 1) ((xe_iload 2).trans (congrArg (x_iload 2) ((xe_iload 3).trans (congrArg (x_iload 3) ((xe_iload 4).trans (congrArg (x_iload 4) xe_nil))))))))))))))))
theorem bk_X3_putAside_50 : ck_ fX3 none cX3_putAside 50 [.aload 0, .dup, .tableswitch 0 3 17 #[], .iconst 1, .iadd, .tableswitch 1 3 17 #[], .return_] 61 = true := qck_r (nn_ _) (by decide +kernel)
theorem bs_X3_putAside_50 {P : Zt → Option Zv → Prop} (K : Int → Zl → List Zv → Zt → Prop) : sx_ K P [.aload 0, .dup, .tableswitch 0 3 17 #[], .iconst 1, .iadd, .tableswitch 1 3 17 #[], .return_] 61 = x_aload 0 (x_dup (x_g0 103 17 0 3000 (x_iconst 1 (x_iadd (x_p 103 17 0 3000 (x_return_ P)))))) := ((xe_aload 0).trans (congrArg (x_aload 0) ((xe_dup).trans (congrArg (x_dup) ((xe_g0 (kk := 103) rfl tl_3_17).trans (congrArg (x_g0 103 17 0 3000) ((xe_iconst 1).trans (congrArg (x_iconst 1) ((xe_iadd).trans (congrArg (x_iadd) ((xe_p (kk := 103) rfl tl_3_17).trans (congrArg (x_p 103 17 0 3000) (xe_return_)))))))))))))
abbrev po_X3_putAside0 (T : Zt) (p : Int) (k s v w : Int) : Zt → Option Zv → Prop := fun T' r => r = none ∧ fr_ [(103, [17]), (190, [])] T T' ∧ (oq_ T T' p ∧ T' 103 p 17 = T 103 p 17 + 1 ∧ (∀ x, x < T 191 0 0 → T' 190 x (-2) = T 190 x (-2)) ∧ True)
set_option maxHeartbeats 4000000 in
theorem ct_X3_putAside0 {T : Zt} {p : Int} {k s v w : Int} (h1 : 0 ≤ T 103 p 17 ∧ T 103 p 17 < 512 ∧ 4 * T 103 p 17 ≤ T 190 (T 103 p 16) (-2)) (h2 : T 103 p 16 < T 191 0 0 ∧ T 191 0 0 ≤ 2000000000 ∧ -2147483648 ≤ T 103 p 16) (h3 : 4 * T 103 p 17 + 4 ≤ T 190 (T 103 p 16) (-2)) : Ct_ yX3_putAside zX3_putAside0 T [vR 103 p, vI k, vI s, vI v, vI w] (po_X3_putAside0 T p k s v w) := by
  refine ct_of pn_3 rfl rfl (Nat.le_of_ble_eq_true rfl) (fun hT hav => ?_)
  have hr_k : -2147483648 ≤ k ∧ k ≤ 2147483647 := hav (vI k) (by simp)
  have hr_s : -2147483648 ≤ s ∧ s ≤ 2147483647 := hav (vI s) (by simp)
  have hr_v : -2147483648 ≤ v ∧ v ≤ 2147483647 := hav (vI v) (by simp)
  have hr_w : -2147483648 ≤ w ∧ w ≤ 2147483647 := hav (vI w) (by simp)
  have hz : zX3_putAside0.2.2.2.1 = some .boolean → ∀ (T' : Zt) (x : Int), po_X3_putAside0 T p k s v w T' (some (vI x)) → 0 ≤ x ∧ x ≤ 1 := fun h => by cases h
  show J_ zX3_putAside0 T (po_X3_putAside0 T p k s v w) 0 0 0 [some (vR 103 p), some (vI k), some (vI s), some (vI v), some (vI w)] [] T
  refine j_blx (F := fX3) tb_X3 (nn_ _) bk_X3_putAside_0 bs_X3_putAside_0 hz (fun K hK => ?_)
  intro b1 b1b
  refine rg_i (by omega) ?_
  refine rg_i (by omega) ?_
  intro b3 b3b
  refine And.intro (fun c4 => ?_) (fun c4 => ?_)
  · refine hK 34 _ [] T ?_
    refine j_blx (F := fX3) tb_X3 (nn_ _) bk_X3_putAside_34 bs_X3_putAside_34 hz (fun K hK => ?_)
    intro b6 b6b
    refine hK 47 _ [vI w, vI v, vI s, vI k, vI (T 103 p 17), vR 190 (T 103 p 16)] T ?_
    refine j_callS (y := yX3_writeRow) (Yc := zX3_writeRow) (rest := []) [vR 190 (T 103 p 16), vI (T 103 p 17), vI k, vI s, vI v, vI w] (ct_X3_writeRow (T := T) (by omega)) cl_X3_161 (qd_c (by decide +kernel)) (nn_ _) rfl (rf_of rfl) (Nat.le_of_ble_eq_true rfl) (Nat.le_of_ble_eq_true rfl) (Nat.le_of_ble_eq_true rfl) rfl ?_
    rintro U7 _ ⟨rfl, fU7, lU7, oU7⟩
    show J_ zX3_putAside0 T (po_X3_putAside0 T p k s v w) 0 0 50 _ [] U7
    refine j_blx (F := fX3) tb_X3 (nn_ _) bk_X3_putAside_50 bs_X3_putAside_50 hz (fun K hK => ?_)
    intro b8 b8b
    have e9 : U7 103 p 17 = T 103 p 17 := fU7 103 p 17 rfl
    rw [e9] at b8 b8b ⊢
    refine rg_i (by omega) ?_
    refine bd_i (by omega) ?_
    refine x_nm (fun U10 hU10 => ?_)
    have e11 := up_f hU10
    refine (show po_X3_putAside0 T p k s v w U10 (none) from ?_)
    have e12 : U10 103 p 17 = (T 103 p 17) + 1 := up_f hU10
    have e13 : U10 103 p 16 = T 103 p 16 := (up_j hU10 (by decide) 103 p).trans (fU7 103 p 16 rfl)
    have e14 : U10 103 p 17 = (T 103 p 17) + 1 := up_f hU10
    exact ⟨rfl, fr_u (fr_t (fr_0 _ _) (fr_s fU7 rfl)) hU10 rfl, oq_u (oq_1 (oq_r) fU7) hU10, by omega, fun x hx => (up_k hU10 (by exact Nat.ne_of_beq_eq_false rfl) _ (-2)).trans (lU7 _), trivial⟩
  · exact absurd c4 (by omega)
def zX3_putAsideD (sl : Nat) : Zm := (RX3, cX3_putAside, 5, none, { frames := 2, cells := 1, slots := 2 * sl, locals := 92 })
theorem fr5_X3_39 : fr5_ RX3 39 3 16 := ⟨_, _, _, rfl, by decide, by decide, (lw_b4 213 (by decide +kernel) rfl : Cond.fieldLink RX3 39 _ _ _ ∈ lw_g), rfl, fun a => ⟨.array .int, by decide +kernel, rfl, rfl⟩⟩
abbrev po_X3_putAsideD (T : Zt) (p : Int) (sl : Nat) (k s v w : Int) : Zt → Option Zv → Prop := fun T' r => r = none ∧ fr_ [(103, [16, 17]), (190, []), (191, [0])] T T' ∧ (oq_ T T' p ∧ T' 103 p 17 = T 103 p 17 + 1 ∧ (∀ x, x < T 191 0 0 → T' 190 x (-2) = T 190 x (-2)) ∧ T 191 0 0 ≤ T' 191 0 0 ∧ T' 191 0 0 ≤ T 191 0 0 + 1 ∧ lz_ (T' 190 (T' 103 p 16) (-2)) ∧ T' 103 p 16 < T' 191 0 0 ∧ 4 * (T 103 p 17 + 1) ≤ T' 190 (T' 103 p 16) (-2) ∧ T' 190 (T' 103 p 16) (-2) ≤ 2 * T 190 (T 103 p 16) (-2))
set_option maxHeartbeats 4000000 in
theorem ct_X3_putAsideD {T : Zt} {p : Int} {sl : Nat} {k s v w : Int} (h1 : 0 ≤ T 103 p 17 ∧ T 103 p 17 < 512 ∧ 4 * T 103 p 17 ≤ T 190 (T 103 p 16) (-2)) (h2 : T 103 p 16 < T 191 0 0 ∧ T 191 0 0 ≤ 2000000000 ∧ -2147483648 ≤ T 103 p 16) (hz9 : lz_ (T 190 (T 103 p 16) (-2))) (hsl : T 190 (T 103 p 16) (-2) ≤ (sl : Int)) : Ct_ yX3_putAside (zX3_putAsideD sl) T [vR 103 p, vI k, vI s, vI v, vI w] (po_X3_putAsideD T p sl k s v w) := by
  refine ct_of pn_3 rfl rfl (Nat.le_of_ble_eq_true rfl) (fun hT hav => ?_) (hi := fun h => absurd ((im_ev _).symm.trans h) (by decide))
  have hr_k : -2147483648 ≤ k ∧ k ≤ 2147483647 := hav (vI k) (by simp)
  have hr_s : -2147483648 ≤ s ∧ s ≤ 2147483647 := hav (vI s) (by simp)
  have hr_v : -2147483648 ≤ v ∧ v ≤ 2147483647 := hav (vI v) (by simp)
  have hr_w : -2147483648 ≤ w ∧ w ≤ 2147483647 := hav (vI w) (by simp)
  have hz : (zX3_putAsideD sl).2.2.2.1 = some .boolean → ∀ (T' : Zt) (x : Int), po_X3_putAsideD T p sl k s v w T' (some (vI x)) → 0 ≤ x ∧ x ≤ 1 := fun h => by cases h
  have hb9 := lz_b hz9
  show J_ (zX3_putAsideD sl) T (po_X3_putAsideD T p sl k s v w) 1 (2 * sl) 0 [some (vR 103 p), some (vI k), some (vI s), some (vI v), some (vI w)] [] T
  refine j_blx (F := fX3) tb_X3 (nn_ _) bk_X3_putAside_0 bs_X3_putAside_0 hz (fun K hK => ?_)
  intro b1 b1b
  refine rg_i (by omega) ?_
  refine rg_i (by omega) ?_
  intro b3 b3b
  refine And.intro (fun c4 => ?_) (fun c4 => ?_)
  · refine hK 34 _ [] T ?_
    refine j_blx (F := fX3) tb_X3 (nn_ _) bk_X3_putAside_34 bs_X3_putAside_34 hz (fun K hK => ?_)
    intro b6 b6b
    refine hK 47 _ [vI w, vI v, vI s, vI k, vI (T 103 p 17), vR 190 (T 103 p 16)] T ?_
    refine j_callS (pc := 47) (y := yX3_writeRow) (Yc := zX3_writeRow) (rest := []) [vR 190 (T 103 p 16), vI (T 103 p 17), vI k, vI s, vI v, vI w] (ct_X3_writeRow (T := T) (by omega)) cl_X3_161 (by show decode cX3_putAside (Int.toNat 47) = _; decide +kernel) (by decide) rfl rfl (Nat.le_of_ble_eq_true rfl) (by first | decide | (simp only [zX3_writeRow]; omega)) (by first | decide | (simp only [zX3_writeRow]; omega)) rfl ?_
    rintro U7 _ ⟨rfl, fU7, lU7, oU7⟩
    show J_ (zX3_putAsideD sl) T (po_X3_putAsideD T p sl k s v w) 1 (2 * sl) 50 _ [] U7
    refine j_blx (F := fX3) tb_X3 (nn_ _) bk_X3_putAside_50 bs_X3_putAside_50 hz (fun K hK => ?_)
    intro b8 b8b
    have e9 : U7 103 p 17 = T 103 p 17 := fU7 103 p 17 rfl
    rw [e9] at b8 b8b ⊢
    refine rg_i (by omega) ?_
    refine bd_i (by omega) ?_
    refine x_nm (fun U10 hU10 => ?_)
    have e11 := up_f hU10
    refine (show po_X3_putAsideD T p sl k s v w U10 (none) from ?_)
    have e12 : U10 103 p 17 = (T 103 p 17) + 1 := up_f hU10
    have e13 : U10 103 p 16 = T 103 p 16 := (up_j hU10 (by decide) 103 p).trans (fU7 103 p 16 rfl)
    have e14 : U10 191 0 0 = T 191 0 0 := (up_k hU10 (by exact Nat.ne_of_beq_eq_false rfl) 0 0).trans (fU7 191 0 0 rfl)
    have e15 : U10 103 p 16 = T 103 p 16 := (up_j hU10 (by decide) 103 p).trans (fU7 103 p 16 rfl)
    have e16 : U10 103 p 17 = (T 103 p 17) + 1 := up_f hU10
    have d1 : U10 103 p 16 = T 103 p 16 := by omega
    have d2 : U10 190 (U10 103 p 16) (-2) = T 190 (T 103 p 16) (-2) := by rw [d1]; exact (up_k hU10 (by exact Nat.ne_of_beq_eq_false rfl) _ (-2)).trans (lU7 _)
    have e17 : U10 191 0 0 = T 191 0 0 := (up_k hU10 (by exact Nat.ne_of_beq_eq_false rfl) 0 0).trans (fU7 191 0 0 rfl)
    have d6 : lz_ (U10 190 (U10 103 p 16) (-2)) := by rw [d2]; exact hz9
    exact ⟨rfl, fr_u (fr_t (fr_0 _ _) (fr_s fU7 rfl)) hU10 rfl, oq_u (oq_1 (oq_r) fU7) hU10, by omega, fun x hx => (up_k hU10 (by exact Nat.ne_of_beq_eq_false rfl) _ (-2)).trans (lU7 _), by omega, by omega, d6, by omega, by omega, by omega⟩
  · have hg9 : T 190 (T 103 p 16) (-2) ≤ 1024 := lz_h hz9 (by omega)
    intro b20 b20b
    refine rg_i (by omega) ?_
    refine hK 28 _ [vI ((T 190 (T 103 p 16) (-2)) * 2), vR 190 (T 103 p 16), vR 103 p] T ?_
    refine j_callS (pc := 28) (y := yJ7_copyOf_59c91) (Yc := (zJ7_copyOf_59c91 sl)) (rest := [vR 103 p]) [vR 190 (T 103 p 16), vI ((T 190 (T 103 p 16) (-2)) * 2)] (ct_J7_copyOf_59c91 (T := T) (sl := sl) (by omega) (by omega) (by omega)) (cl_X3_157 _) (by show decode cX3_putAside (Int.toNat 28) = _; decide +kernel) (by decide) rfl rfl (Nat.le_of_ble_eq_true rfl) (by first | decide | (simp only [zJ7_copyOf_59c91]; omega)) (by first | decide | (simp only [zJ7_copyOf_59c91]; omega)) rfl ?_
    rintro U21 _ ⟨rfl, fU21, aU21, lU21, oU21⟩
    show J_ (zX3_putAsideD sl) T (po_X3_putAsideD T p sl k s v w) 0 ((2 * sl) - (2 * sl)) 31 _ [vR 190 (T 191 0 0), vR 103 p] U21
    refine j_putV (pc := 31) (ci := 3) (j := 16) (z := T 191 0 0) (by decide) fr5_X3_39 (by decide +kernel : (tf_ 103)[16]? = some (3, 190, (-2147483648), 2147483647)) (by show decode cX3_putAside (Int.toNat 31) = _; decide +kernel) rfl (by omega) (by omega) ?_
    refine j_nm (fun U22 hU22 => ?_)
    have e23 := up_f hU22
    show J_ (zX3_putAsideD sl) T (po_X3_putAsideD T p sl k s v w) 0 ((2 * sl) - (2 * sl)) 34 _ [] U22
    refine j_blx (F := fX3) tb_X3 (nn_ _) bk_X3_putAside_34 bs_X3_putAside_34 hz (fun K hK => ?_)
    have e25 : U22 103 p 16 = T 191 0 0 := up_f hU22
    intro b26 b26b
    have e27 : U22 103 p 17 = T 103 p 17 := (up_j hU22 (by decide) 103 p).trans (fU21 103 p 17 rfl)
    rw [e27] at b26 b26b ⊢
    refine hK 47 _ [vI w, vI v, vI s, vI k, vI (T 103 p 17), vR 190 (U22 103 p 16)] U22 ?_
    have y28 : U22 190 (U22 103 p 16) (-2) = (T 190 (T 103 p 16) (-2)) * 2 := by rw [e25]; exact (up_k hU22 (by exact Nat.ne_of_beq_eq_false rfl) _ (-2)).trans lU21
    refine j_callS (pc := 47) (y := yX3_writeRow) (Yc := zX3_writeRow) (rest := []) [vR 190 (U22 103 p 16), vI (T 103 p 17), vI k, vI s, vI v, vI w] (ct_X3_writeRow (T := U22) (by omega)) cl_X3_161 (by show decode cX3_putAside (Int.toNat 47) = _; decide +kernel) (by decide) rfl rfl (Nat.le_of_ble_eq_true rfl) (by first | decide | (simp only [zX3_writeRow]; omega)) (by first | decide | (simp only [zX3_writeRow]; omega)) rfl ?_
    rintro U29 _ ⟨rfl, fU29, lU29, oU29⟩
    show J_ (zX3_putAsideD sl) T (po_X3_putAsideD T p sl k s v w) 0 ((2 * sl) - (2 * sl)) 50 _ [] U29
    refine j_blx (F := fX3) tb_X3 (nn_ _) bk_X3_putAside_50 bs_X3_putAside_50 hz (fun K hK => ?_)
    intro b30 b30b
    have e31 : U29 103 p 17 = T 103 p 17 := (fU29 103 p 17 rfl).trans ((up_j hU22 (by decide) 103 p).trans (fU21 103 p 17 rfl))
    rw [e31] at b30 b30b ⊢
    refine rg_i (by omega) ?_
    refine bd_i (by omega) ?_
    refine x_nm (fun U32 hU32 => ?_)
    have e33 := up_f hU32
    refine (show po_X3_putAsideD T p sl k s v w U32 (none) from ?_)
    have e34 : U32 103 p 17 = (T 103 p 17) + 1 := up_f hU32
    have e35 : U32 103 p 16 = T 191 0 0 := (up_j hU32 (by decide) 103 p).trans ((fU29 103 p 16 rfl).trans (up_f hU22))
    have e36 : U32 191 0 0 = U21 191 0 0 := (up_k hU32 (by exact Nat.ne_of_beq_eq_false rfl) 0 0).trans ((fU29 191 0 0 rfl).trans (up_k hU22 (by exact Nat.ne_of_beq_eq_false rfl) 0 0))
    have e37 : U32 103 p 16 = T 191 0 0 := (up_j hU32 (by decide) 103 p).trans ((fU29 103 p 16 rfl).trans (up_f hU22))
    have e38 : U32 103 p 17 = (T 103 p 17) + 1 := up_f hU32
    have d1 : U32 103 p 16 = T 191 0 0 := by omega
    have d2 : U32 190 (U32 103 p 16) (-2) = (T 190 (T 103 p 16) (-2)) * 2 := by rw [d1]; exact ((up_k hU32 (by exact Nat.ne_of_beq_eq_false rfl) _ (-2)).trans ((lU29 _).trans (up_k hU22 (by exact Nat.ne_of_beq_eq_false rfl) _ (-2)))).trans lU21
    have e39 : U32 191 0 0 = U21 191 0 0 := (up_k hU32 (by exact Nat.ne_of_beq_eq_false rfl) 0 0).trans ((fU29 191 0 0 rfl).trans (up_k hU22 (by exact Nat.ne_of_beq_eq_false rfl) 0 0))
    have d5 : T 190 (T 103 p 16) (-2) < 2048 := by omega
    have d6 : lz_ (U32 190 (U32 103 p 16) (-2)) := by rw [d2, show (T 190 (T 103 p 16) (-2)) * 2 = 2 * (T 190 (T 103 p 16) (-2)) by omega]; exact lz_d hz9 d5
    exact ⟨rfl, fr_u (fr_t (fr_u (fr_t (fr_0 _ _) (fr_s fU21 rfl)) hU22 rfl) (fr_s fU29 rfl)) hU32 rfl, oq_u (oq_1 (oq_u (oq_9 (oq_r) fU21) hU22) fU29) hU32, by omega, fun x hx => ((up_k hU32 (by exact Nat.ne_of_beq_eq_false rfl) _ (-2)).trans ((lU29 _).trans (up_k hU22 (by exact Nat.ne_of_beq_eq_false rfl) _ (-2)))).trans (oU21 x (-2) (by omega)), by omega, by omega, d6, by omega, by omega, by omega⟩
abbrev po_X3_brokenLaw_k (T : Zt) (p : Int) (k s a b : Int) : Zt → Option Zv → Prop := fun T' r => T = T' ∧ ∃ x : Int, r = some (vI x) ∧ (0 ≤ x ∧ x ≤ 7 ∧ (x = 0 → ((k = 0 ∨ (0 ≤ s ∧ s ≤ 1)) ∧ ((T 401 (T 103 p 0) 0 = 0 ∧ 0 ≤ k ∧ k ≤ 5) ∨ (T 401 (T 103 p 0) 0 = 1 ∧ (k = 1 ∨ k = 5)) ∨ (T 401 (T 103 p 0) 0 = 2 ∧ (k = 1 ∨ k = 6)) ∨ (¬ T 401 (T 103 p 0) 0 = 0 ∧ ¬ T 401 (T 103 p 0) 0 = 1 ∧ ¬ T 401 (T 103 p 0) 0 = 2 ∧ 1 ≤ k ∧ k ≤ 4))) ∧ T 103 p 3 = 0))
set_option maxHeartbeats 4000000 in
theorem ct_X3_brokenLaw_k {T : Zt} {p : Int} {k s a b : Int} : Ct_ yX3_brokenLaw zX3_brokenLaw T [vR 103 p, vI k, vI s, vI a, vI b] (po_X3_brokenLaw_k T p k s a b) := by
  refine ct_of pn_3 rfl rfl (Nat.le_of_ble_eq_true rfl) (fun hT hav => ?_)
  have hr_k : -2147483648 ≤ k ∧ k ≤ 2147483647 := hav (vI k) (by simp)
  have hr_s : -2147483648 ≤ s ∧ s ≤ 2147483647 := hav (vI s) (by simp)
  have hr_a : -2147483648 ≤ a ∧ a ≤ 2147483647 := hav (vI a) (by simp)
  have hr_b : -2147483648 ≤ b ∧ b ≤ 2147483647 := hav (vI b) (by simp)
  have hz : zX3_brokenLaw.2.2.2.1 = some .boolean → ∀ (T' : Zt) (x : Int), po_X3_brokenLaw_k T p k s a b T' (some (vI x)) → 0 ≤ x ∧ x ≤ 1 := fun h => by cases h
  show J_ zX3_brokenLaw T (po_X3_brokenLaw_k T p k s a b) 0 0 0 [some (vR 103 p), some (vI k), some (vI s), some (vI a), some (vI b)] [] T
  have c_51 : ((k = 0 ∨ (0 ≤ s ∧ s ≤ 1)) ∧ ((T 401 (T 103 p 0) 0 = 0 ∧ 0 ≤ k ∧ k ≤ 5) ∨ (T 401 (T 103 p 0) 0 = 1 ∧ (k = 1 ∨ k = 5)) ∨ (T 401 (T 103 p 0) 0 = 2 ∧ (k = 1 ∨ k = 6)) ∨ (¬ T 401 (T 103 p 0) 0 = 0 ∧ ¬ T 401 (T 103 p 0) 0 = 1 ∧ ¬ T 401 (T 103 p 0) 0 = 2 ∧ 1 ≤ k ∧ k ≤ 4))) → (T 103 p 3 = 0) → J_ zX3_brokenLaw T (po_X3_brokenLaw_k T p k s a b) 0 0 51 [some (vR 103 p), some (vI k), some (vI s), some (vI a), some (vI b)] [] T := by
    intro  i1 i2
    refine j_blx (F := fX3) tb_X3 (nn_ _) bk_X3_brokenLaw_51 bs_X3_brokenLaw_51 hz (fun K hK => ?_)
    refine And.intro (fun c1 => ?_) (fun c1 => ?_)
    · refine hK 88 _ [] T ?_
      refine j_blx (F := fX3) tb_X3 (nn_ _) bk_X3_brokenLaw_88 bs_X3_brokenLaw_88 hz (fun K hK => ?_)
      refine hK 92 _ [vI b, vI k, vR 103 p] T ?_
      refine j_callV (y := yX3_isBounded) (Yc := zX3_isBounded) (rest := []) [vI k, vI b] (ct_X3_isBounded (T := T)) cl_X3_86 (qd_c (by decide +kernel)) (nn_ _) rfl (rf_of rfl) (Nat.le_of_ble_eq_true rfl) (Nat.le_of_ble_eq_true rfl) (Nat.le_of_ble_eq_true rfl) rfl ?_
      rintro _ _ ⟨rfl, x2, rfl, hx2⟩
      show J_ zX3_brokenLaw T (po_X3_brokenLaw_k T p k s a b) 0 0 95 _ [vI x2] T
      refine j_blx (F := fX3) tb_X3 (nn_ _) bk_X3_brokenLaw_95 bs_X3_brokenLaw_95 hz (fun K hK => ?_)
      refine And.intro (fun c3 => ?_) (fun c3 => ?_)
      · refine hK 102 _ [] T ?_
        refine j_blx (F := fX3) tb_X3 (nn_ _) bk_X3_brokenLaw_102 bs_X3_brokenLaw_102 hz (fun K hK => ?_)
        refine (show po_X3_brokenLaw_k T p k s a b T (some (vI 7)) from ?_)
        exact ⟨rfl, _, rfl, by omega⟩
      · refine hK 104 _ [vI 0] T ?_
        refine j_blx (F := fX3) tb_X3 (nn_ _) bk_X3_brokenLaw_104 bs_X3_brokenLaw_104 hz (fun K hK => ?_)
        refine (show po_X3_brokenLaw_k T p k s a b T (some (vI 0)) from ?_)
        exact ⟨rfl, _, rfl, by omega⟩
    · refine hK 60 _ [vI b, vI s, vR 103 p] T ?_
      refine j_callV (y := yX3_benchPlace) (Yc := zX3_benchPlace) (rest := []) [vI s, vI b] (ct_X3_benchPlace (T := T) (by omega)) cl_X3_83 (qd_c (by decide +kernel)) (nn_ _) rfl (rf_of rfl) (Nat.le_of_ble_eq_true rfl) (Nat.le_of_ble_eq_true rfl) (Nat.le_of_ble_eq_true rfl) rfl ?_
      rintro _ _ ⟨rfl, x4, rfl, hx4⟩
      show J_ zX3_brokenLaw T (po_X3_brokenLaw_k T p k s a b) 0 0 63 _ [vI x4] T
      refine j_blx (F := fX3) tb_X3 (nn_ _) bk_X3_brokenLaw_63 bs_X3_brokenLaw_63 hz (fun K hK => ?_)
      refine And.intro (fun c5 => ?_) (fun c5 => ?_)
      · refine hK 69 _ [] T ?_
        refine j_blx (F := fX3) tb_X3 (nn_ _) bk_X3_brokenLaw_69 bs_X3_brokenLaw_69 hz (fun K hK => ?_)
        refine ix_i (by omega) ?_
        intro b6 b6b
        refine ix_i (by omega) ?_
        intro b8 b8b
        refine And.intro (fun c9 => ?_) (fun c9 => ?_)
        · refine hK 88 _ [] T ?_
          refine j_blx (F := fX3) tb_X3 (nn_ _) bk_X3_brokenLaw_88 bs_X3_brokenLaw_88 hz (fun K hK => ?_)
          refine hK 92 _ [vI b, vI k, vR 103 p] T ?_
          refine j_callV (y := yX3_isBounded) (Yc := zX3_isBounded) (rest := []) [vI k, vI b] (ct_X3_isBounded (T := T)) cl_X3_86 (qd_c (by decide +kernel)) (nn_ _) rfl (rf_of rfl) (Nat.le_of_ble_eq_true rfl) (Nat.le_of_ble_eq_true rfl) (Nat.le_of_ble_eq_true rfl) rfl ?_
          rintro _ _ ⟨rfl, x10, rfl, hx10⟩
          show J_ zX3_brokenLaw T (po_X3_brokenLaw_k T p k s a b) 0 0 95 _ [vI x10] T
          refine j_blx (F := fX3) tb_X3 (nn_ _) bk_X3_brokenLaw_95 bs_X3_brokenLaw_95 hz (fun K hK => ?_)
          refine And.intro (fun c11 => ?_) (fun c11 => ?_)
          · refine hK 102 _ [] T ?_
            refine j_blx (F := fX3) tb_X3 (nn_ _) bk_X3_brokenLaw_102 bs_X3_brokenLaw_102 hz (fun K hK => ?_)
            refine (show po_X3_brokenLaw_k T p k s a b T (some (vI 7)) from ?_)
            exact ⟨rfl, _, rfl, by omega⟩
          · refine hK 104 _ [vI 0] T ?_
            refine j_blx (F := fX3) tb_X3 (nn_ _) bk_X3_brokenLaw_104 bs_X3_brokenLaw_104 hz (fun K hK => ?_)
            refine (show po_X3_brokenLaw_k T p k s a b T (some (vI 0)) from ?_)
            exact ⟨rfl, _, rfl, by omega⟩
        · refine (show po_X3_brokenLaw_k T p k s a b T (some (vI 6)) from ?_)
          exact ⟨rfl, _, rfl, by omega⟩
      · refine (show po_X3_brokenLaw_k T p k s a b T (some (vI 5)) from ?_)
        exact ⟨rfl, _, rfl, by omega⟩
  refine j_blx (F := fX3) tb_X3 (nn_ _) bk_X3_brokenLaw_0 bs_X3_brokenLaw_0 hz (fun K hK => ?_)
  intro b12 b12b
  refine And.intro (fun c13 => ?_) (fun c13 => ?_)
  · refine hK 9 _ [] T ?_
    refine j_blx (F := fX3) tb_X3 (nn_ _) bk_X3_brokenLaw_9 bs_X3_brokenLaw_9 hz (fun K hK => ?_)
    refine hK 12 _ [vI s, vI k, vR 103 p] T ?_
    refine j_callV (y := yX3_isFormed) (Yc := zX3_isFormed) (rest := []) [vI k, vI s] (ct_X3_isFormed (T := T)) cl_X3_68 (qd_c (by decide +kernel)) (nn_ _) rfl (rf_of rfl) (Nat.le_of_ble_eq_true rfl) (Nat.le_of_ble_eq_true rfl) (Nat.le_of_ble_eq_true rfl) rfl ?_
    rintro _ _ ⟨rfl, x14, rfl, hx14⟩
    show J_ zX3_brokenLaw T (po_X3_brokenLaw_k T p k s a b) 0 0 15 _ [vI x14] T
    refine j_blx (F := fX3) tb_X3 (nn_ _) bk_X3_brokenLaw_15 bs_X3_brokenLaw_15 hz (fun K hK => ?_)
    refine And.intro (fun c15 => ?_) (fun c15 => ?_)
    · refine hK 20 _ [] T ?_
      refine j_blx (F := fX3) tb_X3 (nn_ _) bk_X3_brokenLaw_20 bs_X3_brokenLaw_20 hz (fun K hK => ?_)
      refine hK 23 _ [vI s, vI k, vR 103 p] T ?_
      refine j_callV (y := yX3_isAllowed) (Yc := zX3_isAllowed) (rest := []) [vI k, vI s] (ct_X3_isAllowed (T := T)) cl_X3_72 (qd_c (by decide +kernel)) (nn_ _) rfl (rf_of rfl) (Nat.le_of_ble_eq_true rfl) (Nat.le_of_ble_eq_true rfl) (Nat.le_of_ble_eq_true rfl) rfl ?_
      rintro _ _ ⟨rfl, x16, rfl, hx16⟩
      show J_ zX3_brokenLaw T (po_X3_brokenLaw_k T p k s a b) 0 0 26 _ [vI x16] T
      refine j_blx (F := fX3) tb_X3 (nn_ _) bk_X3_brokenLaw_26 bs_X3_brokenLaw_26 hz (fun K hK => ?_)
      refine And.intro (fun c17 => ?_) (fun c17 => ?_)
      · refine hK 31 _ [] T ?_
        refine j_blx (F := fX3) tb_X3 (nn_ _) bk_X3_brokenLaw_31 bs_X3_brokenLaw_31 hz (fun K hK => ?_)
        refine hK 33 _ [vI k, vR 103 p] T ?_
        refine j_callV (y := yX3_needsPerson) (Yc := zX3_needsPerson) (rest := []) [vI k] (ct_X3_needsPerson_k (T := T)) cl_X3_75 (qd_c (by decide +kernel)) (nn_ _) rfl (rf_of rfl) (Nat.le_of_ble_eq_true rfl) (Nat.le_of_ble_eq_true rfl) (Nat.le_of_ble_eq_true rfl) rfl ?_
        rintro _ _ ⟨rfl, x18, rfl, hx18⟩
        show J_ zX3_brokenLaw T (po_X3_brokenLaw_k T p k s a b) 0 0 36 _ [vI x18] T
        refine j_blx (F := fX3) tb_X3 (nn_ _) bk_X3_brokenLaw_36 bs_X3_brokenLaw_36 hz (fun K hK => ?_)
        refine And.intro (fun c19 => ?_) (fun c19 => ?_)
        · refine hK 51 _ [] T ?_
          refine c_51  ?_ ?_
          · omega
          · omega
        · refine hK 42 _ [vI a, vI s, vR 103 p] T ?_
          refine j_callV (y := yX3_fieldPlace) (Yc := zX3_fieldPlace) (rest := []) [vI s, vI a] (ct_X3_fieldPlace (T := T) (by omega)) cl_X3_79 (qd_c (by decide +kernel)) (nn_ _) rfl (rf_of rfl) (Nat.le_of_ble_eq_true rfl) (Nat.le_of_ble_eq_true rfl) (Nat.le_of_ble_eq_true rfl) rfl ?_
          rintro _ _ ⟨rfl, x20, rfl, hx20⟩
          show J_ zX3_brokenLaw T (po_X3_brokenLaw_k T p k s a b) 0 0 45 _ [vI x20] T
          refine j_blx (F := fX3) tb_X3 (nn_ _) bk_X3_brokenLaw_45 bs_X3_brokenLaw_45 hz (fun K hK => ?_)
          refine And.intro (fun c21 => ?_) (fun c21 => ?_)
          · refine hK 51 _ [] T ?_
            refine c_51  ?_ ?_
            · omega
            · omega
          · refine (show po_X3_brokenLaw_k T p k s a b T (some (vI 4)) from ?_)
            exact ⟨rfl, _, rfl, by omega⟩
      · refine (show po_X3_brokenLaw_k T p k s a b T (some (vI 3)) from ?_)
        exact ⟨rfl, _, rfl, by omega⟩
    · refine (show po_X3_brokenLaw_k T p k s a b T (some (vI 2)) from ?_)
      exact ⟨rfl, _, rfl, by omega⟩
  · refine (show po_X3_brokenLaw_k T p k s a b T (some (vI 1)) from ?_)
    exact ⟨rfl, _, rfl, by omega⟩
abbrev cX3_isSameRow : ByteArray := prog_5_method_32_code
def yX3_isSameRow : MethodName := ⟨RX3, "isSameRow", "(IIIII)Z"⟩
def zX3_isSameRow : Zm := (RX3, cX3_isSameRow, 6, (some .boolean), { frames := 0, cells := 0, slots := 0, locals := 0 })
theorem bk_X3_isSameRow_0 : ck_ fX3 (some .boolean) cX3_isSameRow 0 [.aload 0, .tableswitch 0 3 14 #[], .iload 1, .iconst 4, .imul, .iaload, .iload 2, .if_icmp .ne 60, .aload 0, .tableswitch 0 3 14 #[], .iload 1, .iconst 4, .imul, .iconst 1, .iadd, .iaload, .iload 3, .if_icmp .ne 60, .aload 0, .tableswitch 0 3 14 #[], .iload 1, .iconst 4, .imul, .iconst 2, .iadd, .iaload, .iload 4, .if_icmp .ne 60, .aload 0, .tableswitch 0 3 14 #[], .iload 1, .iconst 4, .imul, .iconst 3, .iadd, .iaload, .iload 5, .if_icmp .ne 60, .iconst 1, .goto 61] 60 = true := qck_r (nn_ _) (by decide +kernel)
theorem bs_X3_isSameRow_0 {P : Zt → Option Zv → Prop} (K : Int → Zl → List Zv → Zt → Prop) : sx_ K P [.aload 0, .tableswitch 0 3 14 #[], .iload 1, .iconst 4, .imul, .iaload, .iload 2, .if_icmp .ne 60, .aload 0, .tableswitch 0 3 14 #[], .iload 1, .iconst 4, .imul, .iconst 1, .iadd, .iaload, .iload 3, .if_icmp .ne 60, .aload 0, .tableswitch 0 3 14 #[], .iload 1, .iconst 4, .imul, .iconst 2, .iadd, .iaload, .iload 4, .if_icmp .ne 60, .aload 0, .tableswitch 0 3 14 #[], .iload 1, .iconst 4, .imul, .iconst 3, .iadd, .iaload, .iload 5, .if_icmp .ne 60, .iconst 1, .goto 61] 60 = x_aload 0 (x_g3 103 190 14 (x_iload 1 (x_iconst 4 (x_imul (x_iaload (x_iload 2 (x_if_icmp .ne 60 K (x_aload 0 (x_g3 103 190 14 (x_iload 1 (x_iconst 4 (x_imul (x_iconst 1 (x_iadd (x_iaload (x_iload 3 (x_if_icmp .ne 60 K (x_aload 0 (x_g3 103 190 14 (x_iload 1 (x_iconst 4 (x_imul (x_iconst 2 (x_iadd (x_iaload (x_iload 4 (x_if_icmp .ne 60 K (x_aload 0 (x_g3 103 190 14 (x_iload 1 (x_iconst 4 (x_imul (x_iconst 3 (x_iadd (x_iaload (x_iload 5 (x_if_icmp .ne 60 K (x_iconst 1 (x_goto 61 K))))))))))))))))))))))))))))))))))))))) := ((xe_aload 0).trans (congrArg (x_aload 0) ((xe_g3 (kk := 103) rfl tl_3_14).trans (congrArg (x_g3 103 190 14) ((xe_iload 1).trans (congrArg (x_iload 1) ((xe_iconst 4).trans (congrArg (x_iconst 4) ((xe_imul).trans (congrArg (x_imul) ((xe_iaload).trans (congrArg (x_iaload) ((xe_iload 2).trans (congrArg (x_iload 2) ((xe_if_icmp .ne 60).trans (congrArg (x_if_icmp .ne 60 K) ((xe_aload 0).trans (congrArg (x_aload 0) ((xe_g3 (kk := 103) rfl tl_3_14).trans (congrArg (x_g3 103 190 14) ((xe_iload 1).trans (congrArg (x_iload 1) ((xe_iconst 4).trans (congrArg (x_iconst 4) ((xe_imul).trans (congrArg (x_imul) ((xe_iconst 1).trans (congrArg (x_iconst 1) ((xe_iadd).trans (congrArg (x_iadd) ((xe_iaload).trans (congrArg (x_iaload) ((xe_iload 3).trans (congrArg (x_iload 3) ((xe_if_icmp .ne 60).trans (congrArg (x_if_icmp .ne 60 K) ((xe_aload 0).trans (congrArg (x_aload 0) ((xe_g3 (kk := 103) rfl tl_3_14).trans (congrArg (x_g3 103 190 14) ((xe_iload 1).trans (congrArg (x_iload 1) ((xe_iconst 4).trans (congrArg (x_iconst 4) ((xe_imul).trans (congrArg (x_imul) ((xe_iconst 2).trans (congrArg (x_iconst 2) ((xe_iadd).trans (congrArg (x_iadd) ((xe_iaload).trans (congrArg (x_iaload) ((xe_iload 4).trans (congrArg (x_iload 4) ((xe_if_icmp .ne 60).trans (congrArg (x_if_icmp .ne 60 K) ((xe_aload 0).trans (congrArg (x_aload 0) ((xe_g3 (kk := 103) rfl tl_3_14).trans (congrArg (x_g3 103 190 14) ((xe_iload 1).trans (congrArg (x_iload 1) ((xe_iconst 4).trans (congrArg (x_iconst 4) ((xe_imul).trans (congrArg (x_imul) ((xe_iconst 3).trans (congrArg (x_iconst 3) ((xe_iadd).trans (congrArg (x_iadd) ((xe_iaload).trans (congrArg (x_iaload) ((xe_iload 5).trans (congrArg (x_iload 5) ((xe_if_icmp .ne 60).trans (congrArg (x_if_icmp .ne 60 K) ((xe_iconst 1).trans (congrArg (x_iconst 1) (xe_goto 61)))))))))))))))))))))))))))))))))))))))))))))))))))))))))))))))))))))))))))))))
theorem bk_X3_isSameRow_60 : ck_ fX3 (some .boolean) cX3_isSameRow 60 [.iconst 0, .ireturn] 62 = true := qck_r (nn_ _) (by decide +kernel)
theorem bs_X3_isSameRow_60 {P : Zt → Option Zv → Prop} (K : Int → Zl → List Zv → Zt → Prop) : sx_ K P [.iconst 0, .ireturn] 62 = x_iconst 0 (x_ireturn P) := ((xe_iconst 0).trans (congrArg (x_iconst 0) (xe_ireturn)))
theorem bk_X3_isSameRow_61 : ck_ fX3 (some .boolean) cX3_isSameRow 61 [.ireturn] 62 = true := qck_r (nn_ _) (by decide +kernel)
theorem bs_X3_isSameRow_61 {P : Zt → Option Zv → Prop} (K : Int → Zl → List Zv → Zt → Prop) : sx_ K P [.ireturn] 62 = x_ireturn P := (xe_ireturn)
abbrev po_X3_isSameRow (T : Zt) (p : Int) (i k s v w : Int) : Zt → Option Zv → Prop := fun T' r => T = T' ∧ ∃ x : Int, r = some (vI x) ∧ (0 ≤ x ∧ x ≤ 1)
set_option maxHeartbeats 4000000 in
theorem ct_X3_isSameRow {T : Zt} {p : Int} {i k s v w : Int} (h1 : 0 ≤ i ∧ i ≤ 1000 ∧ i * 4 + 3 < T 190 (T 103 p 14) (-2)) : Ct_ yX3_isSameRow zX3_isSameRow T [vR 103 p, vI i, vI k, vI s, vI v, vI w] (po_X3_isSameRow T p i k s v w) := by
  refine ct_of pn_3 rfl rfl (Nat.le_of_ble_eq_true rfl) (fun hT hav => ?_)
  have hr_i : -2147483648 ≤ i ∧ i ≤ 2147483647 := hav (vI i) (by simp)
  have hr_k : -2147483648 ≤ k ∧ k ≤ 2147483647 := hav (vI k) (by simp)
  have hr_s : -2147483648 ≤ s ∧ s ≤ 2147483647 := hav (vI s) (by simp)
  have hr_v : -2147483648 ≤ v ∧ v ≤ 2147483647 := hav (vI v) (by simp)
  have hr_w : -2147483648 ≤ w ∧ w ≤ 2147483647 := hav (vI w) (by simp)
  have hz : zX3_isSameRow.2.2.2.1 = some .boolean → ∀ (T' : Zt) (x : Int), po_X3_isSameRow T p i k s v w T' (some (vI x)) → 0 ≤ x ∧ x ≤ 1 := fun _ T' x h => by obtain ⟨-, y, e, hy⟩ := h; cases e; omega
  show J_ zX3_isSameRow T (po_X3_isSameRow T p i k s v w) 0 0 0 [some (vR 103 p), some (vI i), some (vI k), some (vI s), some (vI v), some (vI w)] [] T
  refine j_blx (F := fX3) tb_X3 (nn_ _) bk_X3_isSameRow_0 bs_X3_isSameRow_0 hz (fun K hK => ?_)
  refine rg_i (by omega) ?_
  refine ix_i (by omega) ?_
  intro b2 b2b
  refine And.intro (fun c3 => ?_) (fun c3 => ?_)
  · refine hK 60 _ [] T ?_
    refine j_blx (F := fX3) tb_X3 (nn_ _) bk_X3_isSameRow_60 bs_X3_isSameRow_60 hz (fun K hK => ?_)
    refine (show po_X3_isSameRow T p i k s v w T (some (vI 0)) from ?_)
    exact ⟨rfl, _, rfl, by omega⟩
  · refine rg_i (by omega) ?_
    refine rg_i (by omega) ?_
    refine ix_i (by omega) ?_
    intro b5 b5b
    refine And.intro (fun c6 => ?_) (fun c6 => ?_)
    · refine hK 60 _ [] T ?_
      refine j_blx (F := fX3) tb_X3 (nn_ _) bk_X3_isSameRow_60 bs_X3_isSameRow_60 hz (fun K hK => ?_)
      refine (show po_X3_isSameRow T p i k s v w T (some (vI 0)) from ?_)
      exact ⟨rfl, _, rfl, by omega⟩
    · refine rg_i (by omega) ?_
      refine rg_i (by omega) ?_
      refine ix_i (by omega) ?_
      intro b8 b8b
      refine And.intro (fun c9 => ?_) (fun c9 => ?_)
      · refine hK 60 _ [] T ?_
        refine j_blx (F := fX3) tb_X3 (nn_ _) bk_X3_isSameRow_60 bs_X3_isSameRow_60 hz (fun K hK => ?_)
        refine (show po_X3_isSameRow T p i k s v w T (some (vI 0)) from ?_)
        exact ⟨rfl, _, rfl, by omega⟩
      · refine rg_i (by omega) ?_
        refine rg_i (by omega) ?_
        refine ix_i (by omega) ?_
        intro b11 b11b
        refine And.intro (fun c12 => ?_) (fun c12 => ?_)
        · refine hK 60 _ [] T ?_
          refine j_blx (F := fX3) tb_X3 (nn_ _) bk_X3_isSameRow_60 bs_X3_isSameRow_60 hz (fun K hK => ?_)
          refine (show po_X3_isSameRow T p i k s v w T (some (vI 0)) from ?_)
          exact ⟨rfl, _, rfl, by omega⟩
        · refine hK 61 _ [vI 1] T ?_
          refine j_blx (F := fX3) tb_X3 (nn_ _) bk_X3_isSameRow_61 bs_X3_isSameRow_61 hz (fun K hK => ?_)
          refine (show po_X3_isSameRow T p i k s v w T (some (vI 1)) from ?_)
          exact ⟨rfl, _, rfl, by omega⟩
abbrev cX3_takeOut : ByteArray := prog_5_method_33_code
def yX3_takeOut : MethodName := ⟨RX3, "takeOut", "(I)V"⟩
def zX3_takeOut : Zm := (RX3, cX3_takeOut, 3, none, { frames := 0, cells := 0, slots := 0, locals := 0 })
theorem bk_X3_takeOut_6 : ck_ fX3 none cX3_takeOut 6 [.iload 2, .aload 0, .tableswitch 0 3 15 #[], .iconst 4, .imul, .if_icmp .ge 36, .aload 0, .tableswitch 0 3 14 #[], .iload 2, .iconst 4, .isub, .aload 0, .tableswitch 0 3 14 #[], .iload 2, .iaload, .iastore, .iinc 2 1, .goto 6] 36 = true := qck_r (nn_ _) (by decide +kernel)
theorem bs_X3_takeOut_6 {P : Zt → Option Zv → Prop} (K : Int → Zl → List Zv → Zt → Prop) : sx_ K P [.iload 2, .aload 0, .tableswitch 0 3 15 #[], .iconst 4, .imul, .if_icmp .ge 36, .aload 0, .tableswitch 0 3 14 #[], .iload 2, .iconst 4, .isub, .aload 0, .tableswitch 0 3 14 #[], .iload 2, .iaload, .iastore, .iinc 2 1, .goto 6] 36 = x_iload 2 (x_aload 0 (x_g0 103 15 0 3000 (x_iconst 4 (x_imul (x_if_icmp .ge 36 K (x_aload 0 (x_g3 103 190 14 (x_iload 2 (x_iconst 4 (x_isub (x_aload 0 (x_g3 103 190 14 (x_iload 2 (x_iaload (x_iastore (x_iinc 2 1 (x_goto 6 K))))))))))))))))) := ((xe_iload 2).trans (congrArg (x_iload 2) ((xe_aload 0).trans (congrArg (x_aload 0) ((xe_g0 (kk := 103) rfl tl_3_15).trans (congrArg (x_g0 103 15 0 3000) ((xe_iconst 4).trans (congrArg (x_iconst 4) ((xe_imul).trans (congrArg (x_imul) ((xe_if_icmp .ge 36).trans (congrArg (x_if_icmp .ge 36 K) ((xe_aload 0).trans (congrArg (x_aload 0) ((xe_g3 (kk := 103) rfl tl_3_14).trans (congrArg (x_g3 103 190 14) ((xe_iload 2).trans (congrArg (x_iload 2) ((xe_iconst 4).trans (congrArg (x_iconst 4) ((xe_isub).trans (congrArg (x_isub) ((xe_aload 0).trans (congrArg (x_aload 0) ((xe_g3 (kk := 103) rfl tl_3_14).trans (congrArg (x_g3 103 190 14) ((xe_iload 2).trans (congrArg (x_iload 2) ((xe_iaload).trans (congrArg (x_iaload) ((xe_iastore).trans (congrArg (x_iastore) ((xe_iinc 2 1).trans (congrArg (x_iinc 2 1) (xe_goto 6)))))))))))))))))))))))))))))))))))
theorem bk_X3_takeOut_36 : ck_ fX3 none cX3_takeOut 36 [.aload 0, .dup, .tableswitch 0 3 15 #[], .iconst 1, .isub, .tableswitch 1 3 15 #[], .return_] 47 = true := qck_r (nn_ _) (by decide +kernel)
theorem bs_X3_takeOut_36 {P : Zt → Option Zv → Prop} (K : Int → Zl → List Zv → Zt → Prop) : sx_ K P [.aload 0, .dup, .tableswitch 0 3 15 #[], .iconst 1, .isub, .tableswitch 1 3 15 #[], .return_] 47 = x_aload 0 (x_dup (x_g0 103 15 0 3000 (x_iconst 1 (x_isub (x_p 103 15 0 3000 (x_return_ P)))))) := ((xe_aload 0).trans (congrArg (x_aload 0) ((xe_dup).trans (congrArg (x_dup) ((xe_g0 (kk := 103) rfl tl_3_15).trans (congrArg (x_g0 103 15 0 3000) ((xe_iconst 1).trans (congrArg (x_iconst 1) ((xe_isub).trans (congrArg (x_isub) ((xe_p (kk := 103) rfl tl_3_15).trans (congrArg (x_p 103 15 0 3000) (xe_return_)))))))))))))
theorem bk_X3_takeOut_0 : ck_ fX3 none cX3_takeOut 0 [.iload 1, .iconst 4, .imul, .iconst 4, .iadd, .istore 2] 6 = true := qck_r (nn_ _) (by decide +kernel)
theorem bs_X3_takeOut_0 {P : Zt → Option Zv → Prop} (K : Int → Zl → List Zv → Zt → Prop) : sx_ K P [.iload 1, .iconst 4, .imul, .iconst 4, .iadd, .istore 2] 6 = x_iload 1 (x_iconst 4 (x_imul (x_iconst 4 (x_iadd (x_istore 2 (K 6)))))) := ((xe_iload 1).trans (congrArg (x_iload 1) ((xe_iconst 4).trans (congrArg (x_iconst 4) ((xe_imul).trans (congrArg (x_imul) ((xe_iconst 4).trans (congrArg (x_iconst 4) ((xe_iadd).trans (congrArg (x_iadd) ((xe_istore 2).trans (congrArg (x_istore 2) xe_nil))))))))))))
abbrev po_X3_takeOut (T : Zt) (p : Int) (i : Int) : Zt → Option Zv → Prop := fun T' r => r = none ∧ fr_ [(103, [15]), (190, [])] T T' ∧ (oq_ T T' p ∧ T' 103 p 15 = T 103 p 15 - 1 ∧ ∀ x, T' 190 x (-2) = T 190 x (-2))
set_option maxHeartbeats 4000000 in
theorem ct_X3_takeOut {T : Zt} {p : Int} {i : Int} (h1 : 0 ≤ i ∧ i < T 103 p 15 ∧ T 103 p 15 ≤ 1000 ∧ 4 * T 103 p 15 ≤ T 190 (T 103 p 14) (-2)) : Ct_ yX3_takeOut zX3_takeOut T [vR 103 p, vI i] (po_X3_takeOut T p i) := by
  refine ct_of pn_3 rfl rfl (Nat.le_of_ble_eq_true rfl) (fun hT hav => ?_)
  have hr_i : -2147483648 ≤ i ∧ i ≤ 2147483647 := hav (vI i) (by simp)
  have hz : zX3_takeOut.2.2.2.1 = some .boolean → ∀ (T' : Zt) (x : Int), po_X3_takeOut T p i T' (some (vI x)) → 0 ≤ x ∧ x ≤ 1 := fun h => by cases h
  show J_ zX3_takeOut T (po_X3_takeOut T p i) 0 0 0 [some (vR 103 p), some (vI i), none] [] T
  have c_6 : ∀ (nn : Nat) (j : Int) (T1 : Zt), ((4 * T 103 p 15 - j).toNat) ≤ nn → (fr_ [(190, [])] T T1) → (∀ x, T1 190 x (-2) = T 190 x (-2)) → (oq_ T T1 p) → (4 ≤ j ∧ j ≤ 4 * T 103 p 15) → J_ zX3_takeOut T (po_X3_takeOut T p i) 0 0 6 [some (vR 103 p), some (vI i), some (vI j)] [] T1 := by
    intro nn
    induction nn using Nat.strongRecOn with
    | _ nn ih_6 =>
      intro j T1 hm_6 hf_6 lT1 oT1 i1
      refine j_blx (F := fX3) tb_X3 (nn_ _) bk_X3_takeOut_6 bs_X3_takeOut_6 hz (fun K hK => ?_)
      intro b1 b1b
      have e2 : T1 103 p 15 = T 103 p 15 := hf_6 103 p 15 rfl
      rw [e2] at b1 b1b ⊢
      refine rg_i (by omega) ?_
      refine And.intro (fun c3 => ?_) (fun c3 => ?_)
      · refine hK 36 _ [] T1 ?_
        refine j_blx (F := fX3) tb_X3 (nn_ _) bk_X3_takeOut_36 bs_X3_takeOut_36 hz (fun K hK => ?_)
        intro b4 b4b
        have e5 : T1 103 p 15 = T 103 p 15 := hf_6 103 p 15 rfl
        rw [e5] at b4 b4b ⊢
        refine rg_i (by omega) ?_
        refine bd_i (by omega) ?_
        refine x_nm (fun U6 hU6 => ?_)
        have e7 := up_f hU6
        refine (show po_X3_takeOut T p i U6 (none) from ?_)
        have e8 : U6 103 p 15 = (T 103 p 15) - 1 := up_f hU6
        have e9 : U6 103 p 15 = (T 103 p 15) - 1 := up_f hU6
        exact ⟨rfl, fr_u (fr_t (fr_0 _ _) (fr_s hf_6 rfl)) hU6 rfl, oq_u (oT1) hU6, by omega, fun x => (up_k hU6 (by exact Nat.ne_of_beq_eq_false rfl) _ (-2)).trans (lT1 x)⟩
      · have e11 : T1 103 p 14 = T 103 p 14 := hf_6 103 p 14 rfl
        refine rg_i (by omega) ?_
        have e13 : T1 103 p 14 = T 103 p 14 := hf_6 103 p 14 rfl
        have y14 : T1 190 (T1 103 p 14) (-2) = T 190 (T 103 p 14) (-2) := by rw [e13]; exact lT1 _
        refine ix_i (by omega) ?_
        intro b15 b15b
        have e16 : T1 190 (T1 103 p 14) j = T1 190 (T 103 p 14) j := by rw [e13]
        rw [e16] at b15 b15b ⊢
        have y17 : T1 190 (T1 103 p 14) (-2) = T 190 (T 103 p 14) (-2) := by rw [e13]; exact lT1 _
        refine iy_i (by omega) (by omega) ?_
        refine x_nm (fun U18 hU18 => ?_)
        have e19 := up_f hU18
        refine rg_i (by omega) ?_
        refine hK 6 [some (vR 103 p), some (vI i), some (vI (j + 1))] [] U18 ?_
        refine ih_6 _ ?_ (j + 1) U18 (Nat.le_refl _) ?_ ?_ ?_ ?_
        · omega
        · exact fr_u (fr_t (fr_0 _ _) (fr_s hf_6 rfl)) hU18 rfl
        · exact fun x => (up_g hU18 (fun z => by omega)).trans (lT1 x)
        · exact oq_w (oT1) hU18
        · omega
  refine j_blx (F := fX3) tb_X3 (nn_ _) bk_X3_takeOut_0 bs_X3_takeOut_0 hz (fun K hK => ?_)
  refine rg_i (by omega) ?_
  refine rg_i (by omega) ?_
  refine hK 6 [some (vR 103 p), some (vI i), some (vI ((i * 4) + 4))] [] T ?_
  refine c_6 _ ((i * 4) + 4) T (Nat.le_refl _) ?_ ?_ ?_ ?_
  · exact fr_0 _ _
  · exact fun x => rfl
  · exact oq_r
  · omega
abbrev cX3_putInPlace : ByteArray := prog_5_method_34_code
def yX3_putInPlace : MethodName := ⟨RX3, "putInPlace", "(IIIII)V"⟩
def zX3_putInPlace : Zm := (RX3, cX3_putInPlace, 6, none, { frames := 1, cells := 0, slots := 0, locals := 25 })
theorem bk_X3_putInPlace_0 : ck_ fX3 none cX3_putInPlace 0 [.aload 0, .tableswitch 0 3 14 #[], .iload 1, .iload 2, .iload 3, .iload 4, .iload 5] 11 = true := qck_r (nn_ _) (by decide +kernel)
theorem bs_X3_putInPlace_0 {P : Zt → Option Zv → Prop} (K : Int → Zl → List Zv → Zt → Prop) : sx_ K P [.aload 0, .tableswitch 0 3 14 #[], .iload 1, .iload 2, .iload 3, .iload 4, .iload 5] 11 = x_aload 0 (x_g3 103 190 14 (x_iload 1 (x_iload 2 (x_iload 3 (x_iload 4 (x_iload 5 (K 11))))))) := ((xe_aload 0).trans (congrArg (x_aload 0) ((xe_g3 (kk := 103) rfl tl_3_14).trans (congrArg (x_g3 103 190 14) ((xe_iload 1).trans (congrArg (x_iload 1) ((xe_iload 2).trans (congrArg (x_iload 2) ((xe_iload 3).trans (congrArg (x_iload 3) ((xe_iload 4).trans (congrArg (x_iload 4) ((xe_iload 5).trans (congrArg (x_iload 5) xe_nil))))))))))))))
theorem bk_X3_putInPlace_14 : ck_ fX3 none cX3_putInPlace 14 [.return_] 15 = true := qck_r (nn_ _) (by decide +kernel)
theorem bs_X3_putInPlace_14 {P : Zt → Option Zv → Prop} (K : Int → Zl → List Zv → Zt → Prop) : sx_ K P [.return_] 15 = x_return_ P := (xe_return_)
abbrev po_X3_putInPlace (T : Zt) (p : Int) (i k s v w : Int) : Zt → Option Zv → Prop := fun T' r => r = none ∧ fr_ [(190, [])] T T' ∧ ∀ x, T' 190 x (-2) = T 190 x (-2)
set_option maxHeartbeats 4000000 in
theorem ct_X3_putInPlace {T : Zt} {p : Int} {i k s v w : Int} (h1 : 0 ≤ i ∧ i ≤ 1000 ∧ i * 4 + 3 < T 190 (T 103 p 14) (-2)) : Ct_ yX3_putInPlace zX3_putInPlace T [vR 103 p, vI i, vI k, vI s, vI v, vI w] (po_X3_putInPlace T p i k s v w) := by
  refine ct_of pn_3 rfl rfl (Nat.le_of_ble_eq_true rfl) (fun hT hav => ?_)
  have hr_i : -2147483648 ≤ i ∧ i ≤ 2147483647 := hav (vI i) (by simp)
  have hr_k : -2147483648 ≤ k ∧ k ≤ 2147483647 := hav (vI k) (by simp)
  have hr_s : -2147483648 ≤ s ∧ s ≤ 2147483647 := hav (vI s) (by simp)
  have hr_v : -2147483648 ≤ v ∧ v ≤ 2147483647 := hav (vI v) (by simp)
  have hr_w : -2147483648 ≤ w ∧ w ≤ 2147483647 := hav (vI w) (by simp)
  have hz : zX3_putInPlace.2.2.2.1 = some .boolean → ∀ (T' : Zt) (x : Int), po_X3_putInPlace T p i k s v w T' (some (vI x)) → 0 ≤ x ∧ x ≤ 1 := fun h => by cases h
  show J_ zX3_putInPlace T (po_X3_putInPlace T p i k s v w) 0 0 0 [some (vR 103 p), some (vI i), some (vI k), some (vI s), some (vI v), some (vI w)] [] T
  refine j_blx (F := fX3) tb_X3 (nn_ _) bk_X3_putInPlace_0 bs_X3_putInPlace_0 hz (fun K hK => ?_)
  refine hK 11 _ [vI w, vI v, vI s, vI k, vI i, vR 190 (T 103 p 14)] T ?_
  refine j_callS (y := yX3_writeRow) (Yc := zX3_writeRow) (rest := []) [vR 190 (T 103 p 14), vI i, vI k, vI s, vI v, vI w] (ct_X3_writeRow (T := T) (by omega)) cl_X3_161 (qd_c (by decide +kernel)) (nn_ _) rfl (rf_of rfl) (Nat.le_of_ble_eq_true rfl) (Nat.le_of_ble_eq_true rfl) (Nat.le_of_ble_eq_true rfl) rfl ?_
  rintro U2 _ ⟨rfl, fU2, lU2, oU2⟩
  show J_ zX3_putInPlace T (po_X3_putInPlace T p i k s v w) 0 0 14 _ [] U2
  refine j_blx (F := fX3) tb_X3 (nn_ _) bk_X3_putInPlace_14 bs_X3_putInPlace_14 hz (fun K hK => ?_)
  refine (show po_X3_putInPlace T p i k s v w U2 (none) from ?_)
  exact ⟨rfl, fU2, lU2⟩
