-- raw objects are filled, constructors are called, raw objects become things of the picture
section JO
variable {Y Yc : Zm} {T0 T : Zt} {P : Zt → Option Zv → Prop} {bc bs : Nat} {pc : Int} {ls : Zl} {st rest : List Zv} {y : MethodName} {Qp : Zt → Option Zv → Prop}
def fW_ (own : String) (idx ci j : Nat) (I : Bool) : Prop := ∃ (C : String) (Tb : u_T) (N : Nat), vwCl[ci]? = some (C, Tb, N) ∧ j < N ∧ N = (tf_ (150 + ci)).length ∧ Cond.fieldLink own idx (Tb j).1 (Tb j).2.1 (Tb j).2.2.1 ∈ lw_g ∧ (Tb j).1 = own ∧ ∃ ty, parseFieldDescriptor (Tb j).2.2.1 = some ty ∧ (∀ a : Nat, I = false → narrow ty (.ref a) = .ref a ∧ fits ty (.ref a) = true) ∧ (∀ a : Int32, I = true → narrow ty (.int a) = .int a ∧ fits ty (.int a) = true)
/-- a field of a raw object is put, in its constructor -/
theorem j_putW {ci j c k' idx : Nat} {lo hi i z : Int} {v : Zv} {I : Bool} (hp : 0 ≤ pc) (h4 : ci < 4) (hf : fW_ Y.1 idx ci j I) (ht : (tf_ (150 + ci))[j]? = some (c, k', lo, hi)) (him : im_ Y.2.2.2.2.slots = true) (hd : decode Y.2.1 pc.toNat = .ok (.putfield idx, 3)) (ev : fv_ c k' z i = v) (hI : match v with | .inl _ => I = true | .inr (.inr (some _)) => I = false | _ => False) (h1 : lo ≤ z) (h2 : z ≤ hi) (k : J_ Y T0 P bc bs (pc + 3) ls st (up_ T (150 + ci) i (j : Int) z)) : J_ Y T0 P bc bs pc ls (v :: vR (150 + ci) i :: st) T := by
  intro l p e s m args below meth c0 D cA ad0 A X ad H locs cells slots lsC hc hs hR hS hB hT hL hl hn
  have hal : al_ T (150 + ci) i := ok_al (v := none) (by omega) (ok_head (ok_tail hL))
  have hup := al_up (T := T) (k := 150 + ci) (i := i) (j := (j : Int)) (x := z) (by omega)
  obtain ⟨ids, q0, hq, hids, hP, hD⟩ := rp_at hR hal
  obtain ⟨C, Tb, N, hC, hjN, hN, hlk, how, ty, hty1, hr1, hi1⟩ := hf
  obtain ⟨hin, ⟨ty0, hty⟩, hnm⟩ := cl_in hC
  have hw := wd_get (cA := cA) (ad := ad) (T := T) hq
  rw [ce_rw h4] at hw
  obtain ⟨hnar, hfit⟩ : narrow ty (en_v ad v) = en_v ad v ∧ fits ty (en_v ad v) = true := by
    rcases v with x | x | _ | ⟨k9, i9⟩
    · exact hi1 _ hI
    · exact hI.elim
    · exact hI.elim
    · exact hr1 _ hI
  have fin : ∀ (H1 : Heap) (locs1 : List Loc), va_P D vwCl ((wd_ cA ad T ids).set q0 (ad (150 + ci) i, .inr (ci, ((tf_ (150 + ci)).zipIdx.map fun q => en_v ad (fv_ q.1.1 q.1.2.1 (T (150 + ci) i (q.2 : Int)) i)).set j (en_v ad v)))) H1 → va_D A ((wd_ cA ad T ids).set q0 (ad (150 + ci) i, .inr (ci, ((tf_ (150 + ci)).zipIdx.map fun q => en_v ad (fv_ q.1.1 q.1.2.1 (T (150 + ci) i (q.2 : Int)) i)).set j (en_v ad v)))) → va_S A s.heap H1 locs1 → W p l e Y.2.2.2.2 s m args below meth c0 H1 locs1 cells slots (MQ below (Qc_ D cA ad0 T0 A P) args s Y.2.2.2.2.cells Y.2.2.2.2.slots A) (F0 m (pc.toNat + 3) lsC (st.map (en_v ad))) := by
    intro H1 locs1 hP1 hD1 hS1
    have e1 : ((tf_ (150 + ci)).zipIdx.map fun q => en_v ad (fv_ q.1.1 q.1.2.1 (T (150 + ci) i (q.2 : Int)) i)).set j (en_v ad v) = (tf_ (150 + ci)).zipIdx.map fun q => en_v ad (fv_ q.1.1 q.1.2.1 (up_ T (150 + ci) i (j : Int) z (150 + ci) i (q.2 : Int)) i) := by
      apply List.ext_getElem?
      intro n
      rw [List.getElem?_set]
      by_cases en : j = n
      · subst en
        rw [if_pos rfl, if_pos (by rw [List.length_map, List.length_zipIdx, ← hN]; exact hjN), fs_at (T := up_ T (150 + ci) i (j : Int) z) ht, up_s, ev]
      · rw [if_neg en, List.getElem?_map, List.getElem?_map, List.getElem?_zipIdx]
        cases hn9 : (tf_ (150 + ci))[n]? with
        | none => rfl
        | some q =>
          simp only [Option.map_some]
          rw [up_n (fun q => by omega)]
    have e2 : (wd_ cA ad T ids).set q0 (ad (150 + ci) i, .inr (ci, ((tf_ (150 + ci)).zipIdx.map fun q => en_v ad (fv_ q.1.1 q.1.2.1 (T (150 + ci) i (q.2 : Int)) i)).set j (en_v ad v))) = wd_ cA ad (up_ T (150 + ci) i (j : Int) z) ids := by
      rw [e1, ← ce_rw h4 (T := up_ T (150 + ci) i (j : Int) z) (cA := cA)]
      exact wd_set hD hq (fun k' i' h => up_o h)
    rw [e2] at hP1 hD1
    have k2 := k l p e s m args below meth c0 D cA ad0 A X ad H1 locs1 cells slots lsC hc hs ⟨ids, fun k i => (hup k i).trans (hids k i), hP1, hD1⟩ hS1 ⟨fun k i h => (hup k i).mpr (hB.1 k i h), hB.2⟩ (ok_upR hT ht h1 h2 (by rw [ev]; exact ok_head hL)) ⟨fun k9 v h => okv_mono (fun k i => (hup k i).mpr) (hL.1 k9 v h), fun v h => okv_mono (fun k i => (hup k i).mpr) ((ok_tail (ok_tail hL)).2 v h)⟩ hl hn
    rw [show (pc + 3).toNat = pc.toNat + 3 by omega] at k2
    exact k2
  cases hfin : (Tb j).2.2.2 with
  | false => exact va_put (D := D) (ci := ci) (C := C) (T := Tb) (N := N) (own := Y.1) (ref := (Tb j).1) (index := idx) (ty := ty) (v := en_v ad v) X.1 X.2.1 X.2.2.2.2.2.1 hin ty0 hty hnm X.2.2.2.2.2.2.1 X.2.2.2.2.2.2.2.1 hP hD hS q0 hw hC j hjN (X.2.2.2.2.2.1 _ hlk) (fun _ h => h) hfin hty1 hnar hfit (by rw [List.length_map, List.length_zipIdx, ← hN]; exact hjN) hd fin
  | true => exact va_putF (D := D) (ci := ci) (C := C) (T := Tb) (N := N) (own := Y.1) (ref := (Tb j).1) (index := idx) (ty := ty) (v := en_v ad v) X.1 X.2.1 X.2.2.2.2.2.1 hin ty0 hty hnm X.2.2.2.2.2.2.1 X.2.2.2.2.2.2.2.1 hP hD hS q0 hw hC j hjN (X.2.2.2.2.2.1 _ hlk) (fun _ h => h) hfin (X.2.2.2.2.2.2.2.2.2.2.2 him) how hty1 hnar hfit (by rw [List.length_map, List.length_zipIdx, ← hN]; exact hjN) hd fin
/-- a field of a raw object is read -/
theorem j_getW {ci j c k' idx N : Nat} {C : String} {Tb : u_T} {lo hi i : Int} (hp : 0 ≤ pc) (h4 : ci < 4) (hC : vwCl[ci]? = some (C, Tb, N)) (hjN : j < N) (hlk : Cond.fieldLink Y.1 idx (Tb j).1 (Tb j).2.1 (Tb j).2.2.1 ∈ lw_g) (ht : (tf_ (150 + ci))[j]? = some (c, k', lo, hi)) (hd : decode Y.2.1 pc.toNat = .ok (.getfield idx, 3)) {v : Zv} (ev : fv_ c k' (T (150 + ci) i (j : Int)) i = v) (k : J_ Y T0 P bc bs (pc + 3) ls (v :: st) T) : J_ Y T0 P bc bs pc ls (vR (150 + ci) i :: st) T := by
  subst ev
  intro l p e s m args below meth c0 D cA ad0 A X ad H locs cells slots lsC hc hs hR hS hB hT hL hl hn
  have hal : al_ T (150 + ci) i := ok_al (v := none) (by omega) (ok_head hL)
  obtain ⟨ids, q0, hq, h1, hP, hD⟩ := rp_at hR hal
  obtain ⟨hin, -, -⟩ := cl_in hC
  have k2 := k l p e s m args below meth c0 D cA ad0 A X ad H locs cells slots lsC hc hs hR hS hB hT (ok_push (hT.2.2.2.1 _ _ hal _ _ _ _ _ ht) (ok_tail hL)) hl hn
  rw [show (pc + 3).toNat = pc.toNat + 3 by omega] at k2
  have hw := wd_get (cA := cA) (ad := ad) (T := T) hq
  rw [ce_rw h4] at hw
  exact va_get (D := D) (ci := ci) (C := C) (T := Tb) (N := N) (own := Y.1) (ref := (Tb j).1) (index := idx) X.1 X.2.1 X.2.2.2.2.2.1 hin X.2.2.2.2.2.2.1 X.2.2.2.2.2.2.2.1 hP q0 hw hC j hjN (X.2.2.2.2.2.1 _ hlk) (fun _ h => h) (fs_at ht) hd k2
/-- a reference is put into a field of a thing -/
theorem j_putV {ci j c k' k2 idx : Nat} {lo hi i x z : Int} (hp : 0 ≤ pc) (hf : fr5_ Y.1 idx ci j) (ht : (tf_ (100 + ci))[j]? = some (c, k', lo, hi)) (hd : decode Y.2.1 pc.toNat = .ok (.putfield idx, 3)) (ev : fv_ c k' z i = vR k2 x) (h1 : lo ≤ z) (h2 : z ≤ hi) (k : J_ Y T0 P bc bs (pc + 3) ls st (up_ T (100 + ci) i (j : Int) z)) : J_ Y T0 P bc bs pc ls (vR k2 x :: vR (100 + ci) i :: st) T := by
  intro l p e s m args below meth c0 D cA ad0 A X ad H locs cells slots lsC hc hs hR hS hB hT hL hl hn
  have hal : al_ T (100 + ci) i := ok_al (v := none) (by omega) (ok_head (ok_tail hL))
  have hup := al_up (T := T) (k := 100 + ci) (i := i) (j := (j : Int)) (x := z) (by omega)
  obtain ⟨ids, q0, hq, hids, hP, hD⟩ := rp_at hR hal
  obtain ⟨C, Tb, N, hC, hjN, hN, hlk, hfin, hds⟩ := hf
  obtain ⟨hin, ⟨ty0, hty⟩, hnm⟩ := cl_in hC
  have hw := wd_get (cA := cA) (ad := ad) (T := T) hq
  rw [ce_ob (cl_lt hC)] at hw
  obtain ⟨ty, hty1, hnar, hfit⟩ := hds (ad k2 x)
  refine va_put (D := D) (ci := ci) (C := C) (T := Tb) (N := N) (own := Y.1) (ref := (Tb j).1) (index := idx) (ty := ty) (v := .ref (ad k2 x)) X.1 X.2.1 X.2.2.2.2.2.1 hin ty0 hty hnm X.2.2.2.2.2.2.1 X.2.2.2.2.2.2.2.1 hP hD hS q0 hw hC j hjN (X.2.2.2.2.2.1 _ hlk) (fun _ h => h) hfin hty1 hnar hfit (by rw [List.length_map, List.length_zipIdx, ← hN]; exact hjN) hd (fun H1 locs1 hP1 hD1 hS1 => ?_)
  have e1 : ((tf_ (100 + ci)).zipIdx.map fun q => en_v ad (fv_ q.1.1 q.1.2.1 (T (100 + ci) i (q.2 : Int)) i)).set j (.ref (ad k2 x)) = (tf_ (100 + ci)).zipIdx.map fun q => en_v ad (fv_ q.1.1 q.1.2.1 (up_ T (100 + ci) i (j : Int) z (100 + ci) i (q.2 : Int)) i) := by
    apply List.ext_getElem?
    intro n
    rw [List.getElem?_set]
    by_cases en : j = n
    · subst en
      rw [if_pos rfl, if_pos (by rw [List.length_map, List.length_zipIdx, ← hN]; exact hjN), fs_at (T := up_ T (100 + ci) i (j : Int) z) ht, up_s, ev]
      rfl
    · rw [if_neg en, List.getElem?_map, List.getElem?_map, List.getElem?_zipIdx]
      cases hn9 : (tf_ (100 + ci))[n]? with
      | none => rfl
      | some q =>
        simp only [Option.map_some]
        rw [up_n (fun q => by omega)]
  have e2 : (wd_ cA ad T ids).set q0 (ad (100 + ci) i, .inr (ci, ((tf_ (100 + ci)).zipIdx.map fun q => en_v ad (fv_ q.1.1 q.1.2.1 (T (100 + ci) i (q.2 : Int)) i)).set j (.ref (ad k2 x)))) = wd_ cA ad (up_ T (100 + ci) i (j : Int) z) ids := by
    rw [e1, ← ce_ob (cl_lt hC) (T := up_ T (100 + ci) i (j : Int) z) (cA := cA)]
    exact wd_set hD hq (fun k' i' h => up_o h)
  rw [e2] at hP1 hD1
  have k3 := k l p e s m args below meth c0 D cA ad0 A X ad H1 locs1 cells slots lsC hc hs ⟨ids, fun k i => (hup k i).trans (hids k i), hP1, hD1⟩ hS1 ⟨fun k i h => (hup k i).mpr (hB.1 k i h), hB.2⟩ (ok_upR hT ht h1 h2 (by rw [ev]; exact ok_head hL)) ⟨fun k9 v h => okv_mono (fun k i => (hup k i).mpr) (hL.1 k9 v h), fun v h => okv_mono (fun k i => (hup k i).mpr) ((ok_tail (ok_tail hL)).2 v h)⟩ hl hn
  rw [show (pc + 3).toNat = pc.toNat + 3 by omega] at k3
  exact k3
/-- the constructor of Object -/
theorem j_objI {idx k : Nat} {i : Int} (hml : Cond.methodLink Y.1 idx Lib.objectInit ∈ lw_g) (hin : Cond.instanceMethod Lib.objectInit ∈ lw_g) (hco : Cond.code Lib.objectInit ⟨#[0xb1]⟩ 1 none ∈ lw_g) (hd : decode Y.2.1 pc.toNat = .ok (.invokespecial idx, 3)) (hp : 0 ≤ pc) (hf : 1 ≤ Y.2.2.2.2.frames) (hlo : 20 ≤ Y.2.2.2.2.locals) (hrest : rest.length ≤ 4) (kk : J_ Y T0 P bc bs (pc + 3) ls rest T) : J_ Y T0 P bc bs pc ls (vR k i :: rest) T := by
  intro l p e s m args below meth c D cA ad0 A X ad H locs cells slots lsC hc hs hR hS hB hT hL hl hln
  have w := X.2.2.2.2.2.1
  have sm := en_sum (ad := ad) rest
  have k2 := kk l p e s m args below meth c D cA ad0 A X ad H locs cells slots lsC hc hs hR hS hB hT (ok_tail hL) hl hln
  rw [show (pc + 3).toNat = pc.toNat + 3 by omega] at k2
  exact W.objInit (a := ad k i) (rest := rest.map (en_v ad)) X.1 X.2.1 X.2.2.2.2.2.2.1 (w _ hml) (w _ hin) (w _ hco) rfl (hl.1.trans X.2.2.1.symm) rfl hd hf (by show 2 * 0 + _ + 12 ≤ _; omega) k2
/-- a constructor is called -/
def ci_ (own : String) (idx : Nat) (y : MethodName) (Yc : Zm) (n : Nat) : Prop := GoodIn lw_g (.code y Yc.2.1 Yc.2.2.1 none :: lw_g) ∧ Cond.initialized y.cls ∈ lw_g ∧ Cond.methodLink own idx y ∈ lw_g ∧ Cond.instanceMethod y ∈ lw_g ∧ y.name = "<init>" ∧ Yc.2.2.2.1 = none ∧ (y.cls ≠ "java/lang/invoke/MethodHandle" ∧ y.cls ≠ "java/lang/invoke/VarHandle" ∧ (parseMethodDescriptor y.desc).map (fun d => d.parameters.length) = some n)
theorem j_callI {idx k n : Nat} {i : Int} (as : List Zv) (hC : Ct_ y Yc T (vR k i :: as) Qp) (hcv : ci_ Y.1 idx y Yc n) (hd : decode Y.2.1 pc.toNat = .ok (.invokespecial idx, 3)) (hp : 0 ≤ pc) (hn : as.length = n) (hrm : rf_ Yc Y = true) (hrest : rest.length ≤ 4) (hmc : Yc.2.2.2.2.cells ≤ bc) (hms : Yc.2.2.2.2.slots ≤ bs) {st0 : List Zv} (hst : st0 = as.reverse ++ vR k i :: rest) (kk : ∀ (T' : Zt) (r : Option Zv), Qp T' r → J_ Y T0 P (bc - Yc.2.2.2.2.cells) (bs - Yc.2.2.2.2.slots) (pc + 3) ls (r.toList ++ rest) T') : J_ Y T0 P bc bs pc ls st0 T := by
  subst hst
  intro l p e s m args below meth c D cA ad0 A X ad H locs cells slots lsC hc hs hR hS hB hT hL hl hln
  obtain ⟨hG, hini, hml, hin, hy1, hret, hdd⟩ := hcv
  simp only [rf_, Bool.and_eq_true, decide_eq_true_eq] at hrm
  have hLr : ok_l T ls rest := ⟨hL.1, fun v hv => hL.2 v (by simp [hv])⟩
  have hAA : ∀ q, A_ ad T H.size q → A q := by
    rintro q (⟨k, i, ha, rfl⟩ | h)
    · exact Rp_in hR ha
    · exact X.2.2.2.2.2.2.2.2.2.1 q (Nat.le_trans hS.1 h)
  have w := X.2.2.2.2.2.1
  have hM := hC l D cA ad H.size
  rw [hret] at hM
  refine j_back X hc hs hR hS hB hLr hl hln hp hmc hms (va_runI (As := as.map (en_v ad)) (rest := rest.map (en_v ad)) (b := ad k i) ⟨X.1, X.2.1, X.2.2.1, X.2.2.2.2.2.2.1, X.2.2.2.2.2.1⟩ hM (cwI n w hG rfl rfl rfl (w _ hini) (w _ hml) (w _ hin) hy1 hdd hrm) ⟨pc_blind, fun U hU hW => ⟨rfl, by rw [hU], by rw [hU]; exact Rp_A hR (fun _ _ _ _ => trivial), va_K.moved hW.alike X.2.2.2.2.2.2.2.1, ex_warm hW X.2.2.2.2.2.2.2.2.1, se_call X.2.2.2.2.2.2.2.2.2.2.1 hS hAA hU hW (fun k i hk => hB.2 k i (Or.inl hk)), hT, fun v hv => hL.2 v ?_⟩⟩ rfl (by rw [List.length_map]; exact hn) (hl.1) ?_ (lv_room ?_) hd ⟨by omega, by omega⟩) (fun T' r h => kk T' r h)
  · rcases List.mem_cons.mp hv with rfl | h
    · simp
    · simp [h]
  · show List.map (en_v ad) (as.reverse ++ vR k i :: rest) = _
    rw [List.map_append, List.map_reverse, List.map_cons]
    rfl
  · have := en_sum (ad := ad) rest
    omega
/-- a row is given back -/
theorem j_aret {k : Nat} {i : Int} {rt : FieldType} (hr : Y.2.2.2.1 = some rt) (hrt : (∃ n, rt = .object n) ∨ ∃ t, rt = .array t) (hd : decode Y.2.1 pc.toNat = .ok (.areturn, 1)) (k2 : P T (some (vR k i))) : J_ Y T0 P bc bs pc ls [vR k i] T := by
  intro l p e' s m args below meth c D cA ad0 A X ad H locs cells slots lsC hc hs hR hS hB hT hL hl hn
  refine W.widen (k := Y.2.2.2.2.cells) (n := Y.2.2.2.2.slots) (by omega) (by omega) ?_
  exact W.aret X.1 X.2.1 (X.2.2.2.1.trans hr) hrt (Or.inr ⟨ad k i, rfl⟩) (fun t ht _ => ⟨⟨T, ad, some (vR k i), rfl, k2, hT, fun v hv => by cases hv; exact ok_head hL, by rw [ht]; exact hR, hB⟩, hS.F ht⟩) hS.2.2 hd X.2.2.2.2.1
end JO
-- raw objects become things of the picture; references into rows; clones and copies
section JP
variable {Y Yc : Zm} {T0 T : Zt} {P : Zt → Option Zv → Prop} {bc bs bc' bs' : Nat} {pc : Int} {ls : Zl} {st rest : List Zv}
def cw_ (T : Zt) (k : Nat) (i : Int) (g : Int → Int) : Zt := fun k' i' j' => if k' = k ∧ i' = i then (if j' = -1 then 1 else g j') else if k' = k + 50 ∧ i' = i ∧ j' = -1 then 0 else T k' i' j'
theorem cw_s {k : Nat} {i : Int} {g : Int → Int} {j : Int} (h : 0 ≤ j) : cw_ T k i g k i j = g j := by
  unfold cw_
  rw [if_pos ⟨rfl, rfl⟩, if_neg (by omega)]
theorem cw_o {k k' : Nat} {i i' : Int} {g : Int → Int} (h : ¬ (k' = k ∧ i' = i)) (h2 : ¬ (k' = k + 50 ∧ i' = i)) : cw_ T k i g k' i' = T k' i' := by
  funext j
  unfold cw_
  rw [if_neg h, if_neg (fun z => h2 ⟨z.1, z.2.1⟩)]
theorem cw_n {k k' : Nat} {i i' j : Int} {g : Int → Int} (h : ¬ (k' = k ∧ i' = i)) (h2 : j ≠ -1) : cw_ T k i g k' i' j = T k' i' j := by
  unfold cw_
  rw [if_neg h, if_neg (fun z => h2 z.2.2)]
theorem al_cw {k : Nat} {i : Int} {g : Int → Int} (k' : Nat) (i' : Int) : al_ (cw_ T k i g) k' i' ↔ (k' = k ∧ i' = i) ∨ (al_ T k' i' ∧ ¬ (k' = k + 50 ∧ i' = i)) := by
  unfold al_ cw_
  by_cases h : k' = k ∧ i' = i
  · rw [if_pos h, if_pos rfl]
    simp [h]
  · rw [if_neg h]
    by_cases h2 : k' = k + 50 ∧ i' = i
    · rw [if_pos ⟨h2.1, h2.2, rfl⟩]
      simp [h, h2]
    · rw [if_neg (fun z => h2 ⟨z.1, z.2.1⟩)]
      simp [h, h2]
/-- no local and nothing on the stack is of a kind -/
def nk_ (k : Nat) : List (Option Zv) → Bool
  | [] => true
  | some (.inr (.inr (some (k', _)))) :: r => !(k' == k) && nk_ k r
  | _ :: r => nk_ k r
theorem nk_no {k : Nat} {i : Int} : ∀ {l : List (Option Zv)}, nk_ k l = true → some (vR k i) ∉ l
  | [], _ => by simp
  | none :: r, h => by
    intro q
    rcases List.mem_cons.mp q with q | q
    · cases q
    · exact nk_no (l := r) h q
  | some (.inl x) :: r, h => by
    intro q
    rcases List.mem_cons.mp q with q | q
    · cases q
    · exact nk_no (l := r) h q
  | some (.inr (.inl x)) :: r, h => by
    intro q
    rcases List.mem_cons.mp q with q | q
    · cases q
    · exact nk_no (l := r) h q
  | some (.inr (.inr none)) :: r, h => by
    intro q
    rcases List.mem_cons.mp q with q | q
    · cases q
    · exact nk_no (l := r) h q
  | some (.inr (.inr (some (k', i')))) :: r, h => by
    simp only [nk_, Bool.and_eq_true, Bool.not_eq_true', beq_eq_false_iff_ne] at h
    intro q
    rcases List.mem_cons.mp q with q | q
    · cases q
      exact h.1 rfl
    · exact nk_no (l := r) h.2 q
theorem fv_ky {k j c k' : Nat} {lo hi x i : Int} (h : (tf_ k)[j]? = some (c, k', lo, hi)) {k2 : Nat} {i2 : Int} (e : fv_ c k' x i = vR k2 i2) : ¬ (150 ≤ k2 ∧ k2 < 154) := by
  have h1 := tf_ky k (tf_lt h) _ (List.mem_of_getElem? h)
  have h2 : k2 = k' := by
    match c, e with
    | 0, e => cases e
    | 1, e => cases e; rfl
    | 2, e => cases e; rfl
    | 3, e => cases e; rfl
    | 4, e =>
      have e : (if x = 0 then vN else vR k' i) = vR k2 i2 := e
      split at e
      · cases e
      · cases e; rfl
    | 5, e =>
      have e : (if x = 0 then vN else vR k' (x - 1)) = vR k2 i2 := e
      split at e
      · cases e
      · cases e; rfl
    | c + 6, e => cases e
  rw [h2]
  exact h1
theorem j_conv {k : Nat} {i : Int} {g : Int → Int} (hk : k = 100 ∨ k = 102 ∨ k = 103) (hfr : ¬ al_ T k i) (h0 : ¬ al_ T0 (k + 50) i) (hg : ∀ (j c k1 : Nat) (lo hi : Int), (tf_ k)[j]? = some (c, k1, lo, hi) → ∃ c2 k2 lo2 hi2, (tf_ (k + 50))[j]? = some (c2, k2, lo2, hi2) ∧ fv_ c k1 (g j) i = fv_ c2 k2 (T (k + 50) i j) i ∧ lo ≤ g j ∧ g j ≤ hi) (hls : nk_ (k + 50) ls = true) (hst : nk_ (k + 50) (st.map some) = true) (kk : J_ Y T0 P bc bs pc ls (vR k i :: st) (cw_ T k i g)) : J_ Y T0 P bc bs pc ls (vR (k + 50) i :: st) T := by
  intro l p e s m args below meth c D cA ad0 A X ad H locs cells slots lsC hc hs hR hS hB hT hL hl hln
  have hraw : al_ T (k + 50) i := ok_al (v := none) (by omega) (ok_head hL)
  obtain ⟨ids, hids, hP, hD⟩ := rp_ids hR
  have hlen : (tf_ k).length = (tf_ (k + 50)).length := by
    rcases hk with rfl | rfl | rfl <;> decide +kernel
  have hce : ∀ ad2 : Nat → Int → Nat, ce_ cA ad2 (cw_ T k i g) k i = .inr (k - 100, (tf_ k).zipIdx.map fun q => en_v ad2 (fv_ q.1.1 q.1.2.1 (g (q.2 : Int)) i)) := fun ad2 => by
    have e1 : ((tf_ k).zipIdx.map fun q => en_v ad2 (fv_ q.1.1 q.1.2.1 (cw_ T k i g k i (q.2 : Int)) i)) = (tf_ k).zipIdx.map fun q => en_v ad2 (fv_ q.1.1 q.1.2.1 (g (q.2 : Int)) i) := by
      apply List.map_congr_left
      rintro ⟨q, j⟩ _
      rw [cw_s (by omega)]
    unfold ce_
    rw [tk_no _ (by omega), e1]
    simp only [kc_]
    rw [if_pos (by omega)]
  have hcr : ce_ cA ad T (k + 50) i = .inr (k - 100, (tf_ (k + 50)).zipIdx.map fun q => en_v ad (fv_ q.1.1 q.1.2.1 (T (k + 50) i (q.2 : Int)) i)) := by
    unfold ce_
    rw [tk_no _ (by omega)]
    simp only [kc_]
    rw [if_neg (by omega), show k + 50 - 150 = k - 100 by omega]
  have had : ∀ k' i', k' < 100 ∨ al_ T k' i' → aq_ ad k i (ad (k + 50) i) k' i' = ad k' i' := aq_e (by omega) hfr
  have hraws : ∀ (j c2 k2 : Nat) (lo2 hi2 : Int), (tf_ (k + 50))[j]? = some (c2, k2, lo2, hi2) → ok_v T (fv_ c2 k2 (T (k + 50) i j) i) := fun j c2 k2 lo2 hi2 h => hT.2.2.2.1 _ _ hraw j c2 k2 lo2 hi2 h
  have hfl : ((tf_ k).zipIdx.map fun q => en_v (aq_ ad k i (ad (k + 50) i)) (fv_ q.1.1 q.1.2.1 (g (q.2 : Int)) i)) = (tf_ (k + 50)).zipIdx.map fun q => en_v ad (fv_ q.1.1 q.1.2.1 (T (k + 50) i (q.2 : Int)) i) := by
    apply List.ext_getElem?
    intro n
    rw [List.getElem?_map, List.getElem?_map, List.getElem?_zipIdx, List.getElem?_zipIdx]
    cases hn : (tf_ k)[n]? with
    | none =>
      have : (tf_ (k + 50))[n]? = none := by
        rw [List.getElem?_eq_none_iff] at hn ⊢
        omega
      rw [this]
      rfl
    | some q =>
      obtain ⟨c1, k1, lo, hi⟩ := q
      obtain ⟨c2, k2, lo2, hi2, h2, e2, -, -⟩ := hg n c1 k1 lo hi hn
      rw [h2]
      simp only [Option.map_some, Nat.zero_add]
      rw [e2, en_congr had (hraws n c2 k2 lo2 hi2 h2)]
  have hw : wd_ cA (aq_ ad k i (ad (k + 50) i)) (cw_ T k i g) (ids.map fun q => if q = (k + 50, i) then (k, i) else q) = wd_ cA ad T ids := by
    unfold wd_
    rw [List.map_map]
    apply List.map_congr_left
    rintro ⟨k', i'⟩ hm
    have ha := (hids k' i').mpr hm
    by_cases ez : (k', i') = (k + 50, i)
    · cases ez
      show (aq_ ad k i (ad (k + 50) i) (if (k + 50, i) = (k + 50, i) then (k, i) else (k + 50, i)).1 (if (k + 50, i) = (k + 50, i) then (k, i) else (k + 50, i)).2, ce_ cA _ _ (if (k + 50, i) = (k + 50, i) then (k, i) else (k + 50, i)).1 (if (k + 50, i) = (k + 50, i) then (k, i) else (k + 50, i)).2) = _
      rw [if_pos rfl, aq_s, hce, hfl, ← hcr]
    · show (aq_ ad k i (ad (k + 50) i) (if (k', i') = (k + 50, i) then (k, i) else (k', i')).1 (if (k', i') = (k + 50, i) then (k, i) else (k', i')).2, ce_ cA _ _ (if (k', i') = (k + 50, i) then (k, i) else (k', i')).1 (if (k', i') = (k + 50, i) then (k, i) else (k', i')).2) = _
      rw [if_neg ez]
      have hne : ¬ (k' = k ∧ i' = i) := fun z => hfr (by rw [← z.1, ← z.2]; exact ha)
      have hne2 : ¬ (k' = k + 50 ∧ i' = i) := fun z => ez (by rw [z.1, z.2])
      rw [ce_congr (cw_o hne hne2), ce_ad hT had ha, aq_n hne]
  have hRp : Rp_ D cA (aq_ ad k i (ad (k + 50) i)) (cw_ T k i g) A H := by
    refine ⟨ids.map fun q => if q = (k + 50, i) then (k, i) else q, fun k' i' => ?_, by rw [hw]; exact hP, by rw [hw]; exact hD⟩
    rw [al_cw, List.mem_map]
    constructor
    · rintro (⟨rfl, rfl⟩ | ⟨h1, h2⟩)
      · exact ⟨(k' + 50, i'), (hids _ _).mp hraw, by rw [if_pos rfl]⟩
      · exact ⟨(k', i'), (hids _ _).mp h1, by rw [if_neg (fun z => h2 (by cases z; exact ⟨rfl, rfl⟩))]⟩
    · rintro ⟨⟨k9, i9⟩, h1, h2⟩
      by_cases ez : (k9, i9) = (k + 50, i)
      · rw [if_pos ez] at h2
        cases h2
        exact Or.inl ⟨rfl, rfl⟩
      · rw [if_neg ez] at h2
        cases h2
        exact Or.inr ⟨(hids _ _).mpr h1, fun z => ez (by rw [z.1, z.2])⟩
  have mo : ∀ k' i', al_ T k' i' → ¬ (k' = k + 50 ∧ i' = i) → al_ (cw_ T k i g) k' i' := fun k' i' h h2 => (al_cw k' i').mpr (Or.inr ⟨h, h2⟩)
  have mov : ∀ v : Zv, ok_v T v → v ≠ vR (k + 50) i → ok_v (cw_ T k i g) v := fun v hv hne => by
    rcases v with x | x | _ | ⟨k9, i9⟩
    · exact hv
    · exact hv
    · exact trivial
    · rcases hv with h | h
      · exact Or.inl h
      · exact Or.inr (mo _ _ h (fun z => hne (by rw [z.1, z.2])))
  have hok : ok_T (cw_ T k i g) := by
    obtain ⟨a1, a2, a3, a4, a5, a6, a7, a8, a9⟩ := hT
    refine ⟨fun k' t' n' lo' hi' h i' x' hx => ?_, fun k' j' c k'' lo' hi' h i' => ?_, fun i' => ?_, fun k' i' hl' j' c k'' lo' hi' h => ?_, fun i' x' hx h => ?_, fun i' x' hx h => ?_, fun k' i' h q => ?_, fun k' i' o h q => ?_, fun i' h q => ?_⟩
    · have := ta_ge h
      rw [cw_o (fun z => by omega) (fun z => by omega)]
      exact a1 k' t' n' lo' hi' h i' x' hx
    · by_cases ez : k' = k ∧ i' = i
      · obtain ⟨rfl, rfl⟩ := ez
        obtain ⟨-, -, -, -, -, -, b1, b2⟩ := hg j' c k'' lo' hi' h
        rw [cw_s (by omega)]
        exact ⟨b1, b2⟩
      · rw [cw_n ez (by omega)]
        exact a2 k' j' c k'' lo' hi' h i'
    · rw [cw_o (fun z => by omega) (fun z => by omega)]
      exact a3 i'
    · rcases (al_cw k' i').mp hl' with ⟨rfl, rfl⟩ | ⟨h1, h2⟩
      · obtain ⟨c2, k2, lo2, hi2, h2, e2, -, -⟩ := hg j' c k'' lo' hi' h
        rw [cw_s (by omega), e2]
        refine mov _ (hraws j' c2 k2 lo2 hi2 h2) (fun z => fv_ky h2 z (by omega))
      · by_cases ez : k' = k ∧ i' = i
        · obtain ⟨rfl, rfl⟩ := ez
          exact absurd h1 hfr
        · rw [cw_o ez h2]
          exact mov _ (a4 k' i' h1 j' c k'' lo' hi' h) (fun z => fv_ky h z (by omega))
    · rw [cw_o (fun z => by omega) (fun z => by omega)] at h
      exact mo _ _ (a5 i' x' hx h) (fun z => by omega)
    · rw [cw_o (fun z => by omega) (fun z => by omega)] at h
      exact mo _ _ (a6 i' x' hx h) (fun z => by omega)
    · rcases (al_cw k' i').mp q with z | ⟨h1, -⟩
      · omega
      · exact a7 k' i' h h1
    · rcases (al_cw k' i').mp q with z | ⟨h1, h2⟩
      · have : ow_ k' = none := by
          rw [z.1]
          rcases hk with rfl | rfl | rfl <;> decide
        rw [this] at h
        cases h
      · have hoo : o = 100 ∨ o = 102 ∨ o = 103 := by
          unfold ow_ at h
          split at h
          · cases h; exact Or.inl rfl
          · split at h
            · cases h; exact Or.inr (Or.inl rfl)
            · split at h
              · cases h; exact Or.inr (Or.inr rfl)
              · cases h
        rcases a8 k' i' o h h1 with z | z
        · exact Or.inl (mo _ _ z (fun w => by omega))
        · by_cases w : o + 50 = k + 50 ∧ i' = i
          · exact Or.inl ((al_cw o i').mpr (Or.inl ⟨by omega, w.2⟩))
          · exact Or.inr (mo _ _ z w)
    · rw [cw_o (fun z => by omega) (fun z => by omega)] at h
      rcases (al_cw 190 i').mp q with z | ⟨h1, -⟩
      · omega
      · exact a9 i' h h1
  have hlsn : ∀ (j : Nat) (v : Zv), ls[j]? = some (some v) → v ≠ vR (k + 50) i := fun j v hj z => nk_no hls (i := i) (by rw [← z]; exact List.mem_of_getElem? hj)
  have hstn : ∀ v ∈ st, v ≠ vR (k + 50) i := fun v hv z => nk_no hst (i := i) (by rw [← z]; exact List.mem_map.mpr ⟨v, hv, rfl⟩)
  have hee : ∀ v, ok_v T v → en_v (aq_ ad k i (ad (k + 50) i)) v = en_v ad v := fun v hv => en_congr had hv
  have el : lp_ (aq_ ad k i (ad (k + 50) i)) 0 ls = lp_ ad 0 ls := lp_congr (fun k v hk => hee v (hL.1 k v hk))
  have es : st.map (en_v (aq_ ad k i (ad (k + 50) i))) = st.map (en_v ad) := List.map_congr_left (fun v hv => hee v ((ok_tail hL).2 v hv))
  have k2 := kk l p e s m args below meth c D cA ad0 A X (aq_ ad k i (ad (k + 50) i)) H locs cells slots lsC hc hs hRp hS ⟨fun k' i' h => mo _ _ (hB.1 k' i' h) (fun z => h0 (by rw [← z.1, ← z.2]; exact h)), fun k' i' h => by rw [had k' i' (h.imp id (hB.1 k' i'))]; exact hB.2 k' i' h⟩ hok (ok_push (Or.inr ((al_cw k i).mpr (Or.inl ⟨rfl, rfl⟩))) ⟨fun j v hj => mov v (hL.1 j v hj) (hlsn j v hj), fun v hv => mov v ((ok_tail hL).2 v hv) (hstn v hv)⟩) (by rw [el]; exact hl) hln
  have e2 : (vR k i :: st).map (en_v (aq_ ad k i (ad (k + 50) i))) = (vR (k + 50) i :: st).map (en_v ad) := by
    rw [List.map_cons, List.map_cons, es]
    show Value.ref (aq_ ad k i (ad (k + 50) i) k i) :: _ = Value.ref (ad (k + 50) i) :: _
    rw [aq_s]
  rw [e2] at k2
  exact k2
end JP
-- references into rows, casts, clones, copies of rows
section JQ
variable {Y Yc : Zm} {T0 T : Zt} {P : Zt → Option Zv → Prop} {bc bs bc' bs' : Nat} {pc : Int} {ls : Zl} {st rest : List Zv}
theorem j_castA {idx k : Nat} {mo : Option Int} {lo hi i : Int} (hp : 0 ≤ pc) (ha : ta_ k = some (1, mo, lo, hi)) (hcl : Cond.classLink Y.1 idx "[I" ∈ lw_g) (hd : decode Y.2.1 pc.toNat = .ok (.checkcast idx, 3)) (kk : J_ Y T0 P bc bs (pc + 3) ls (vR k i :: st) T) : J_ Y T0 P bc bs pc ls (vR k i :: st) T := by
  intro l p e s m args below meth c D cA ad0 A X ad H locs cells slots lsC hc hs hR hS hB hT hL hl hln
  have hal : al_ T k i := ok_al (v := none) (by have := ta_ge ha; omega) (ok_head hL)
  obtain ⟨ids, q0, hq, hids, hP, hD⟩ := rp_at hR hal
  have hw := wd_get (cA := cA) (ad := ad) (T := T) hq
  unfold ce_ at hw
  rw [ha] at hw
  have k2 := kk l p e s m args below meth c D cA ad0 A X ad H locs cells slots lsC hc hs hR hS hB hT hL hl hln
  rw [show (pc + 3).toNat = pc.toNat + 3 by omega] at k2
  exact va_castA X.1 X.2.1 X.2.2.2.2.2.2.1 (X.2.2.2.2.2.1 _ hcl) hP q0 hw (va_nm_int (X.2.2.2.2.2.2.2.1.2 0 (cA 0, .int) rfl).2) hd k2
/-- a thing is put into the rows competitions and matches, at its own number -/
theorem j_aast {k ko : Nat} {n : Option Int} {lo hi i x : Int} (hp : 0 ≤ pc) (hk : (k = 521 ∧ ko = 100) ∨ (k = 523 ∧ ko = 102)) (ha : ta_ k = some (ko / 2 - 46, n, lo, hi)) (hd : decode Y.2.1 pc.toNat = .ok (.aastore, 1)) (h1 : 0 ≤ x) (h2 : x < ln_ T k i) (hlh : lo ≤ 1 ∧ 1 ≤ hi) (kk : J_ Y T0 P bc bs (pc + 1) ls st (up_ T k i x 1)) : J_ Y T0 P bc bs pc ls (vR ko x :: vI x :: vR k i :: st) T := by
  intro l p e s m args below meth c0 D cA ad0 A X ad H locs cells slots lsC hc hs hR hS hB hT hL hl hn
  have hx : -2147483648 ≤ x ∧ x ≤ 2147483647 := ok_head (ok_tail hL)
  have hal : al_ T k i := ok_al (v := none) (by omega) (ok_head (ok_tail (ok_tail hL)))
  have halo : al_ T ko x := ok_al (v := none) (by omega) (ok_head hL)
  have hup := al_up (T := T) (k := k) (i := i) (j := x) (x := 1) (by omega)
  obtain ⟨ids, q0, hq, hids, hP, hD⟩ := rp_at hR hal
  obtain ⟨q1, hq1⟩ := List.getElem?_of_mem ((hids ko x).mp halo)
  have hw := wd_get (cA := cA) (ad := ad) (T := T) hq
  have hw1 := wd_get (cA := cA) (ad := ad) (T := T) hq1
  have hin := i3_in h1 h2 hx.2
  have hok : ok_T (up_ T k i x 1) := by
    obtain ⟨a1, a2, a3, a4, a5, a6, a7, a8, a9⟩ := hT
    have hk5 : k = 521 ∨ k = 523 := by omega
    refine ⟨fun k' t' n' lo' hi' h i' x' hx => ?_, fun k' j' c k'' lo' hi' h i' => ?_, fun i' => ?_, fun k' i' hl' j' c k'' lo' hi' h => ?_, fun i' x' hx h => ?_, fun i' x' hx h => ?_, fun k' i' h q => a7 k' i' h ((hup _ _).mp q), fun k' i' o h q => (a8 k' i' o h ((hup _ _).mp q)).imp (hup _ _).mpr (hup _ _).mpr, fun i' h q => ?_⟩
    · by_cases e : k' = k ∧ i' = i ∧ x' = x
      · obtain ⟨rfl, rfl, rfl⟩ := e
        rw [ha] at h
        cases h
        rw [up_s]
        exact hlh
      · rw [up_n e]
        exact a1 k' t' n' lo' hi' h i' x' hx
    · have := tf_lt h
      rw [up_n (fun e => by omega)]
      exact a2 k' j' c k'' lo' hi' h i'
    · rw [up_n (fun e => by omega)]
      exact a3 i'
    · have := tf_lt h
      rw [up_n (fun e => by omega)]
      exact okv_mono (fun k i => (hup k i).mpr) (a4 k' i' ((hup k' i').mp hl') j' c k'' lo' hi' h)
    · by_cases e : 521 = k ∧ i' = i ∧ x' = x
      · obtain ⟨rfl, rfl, rfl⟩ := e
        have : ko = 100 := by omega
        subst this
        exact (hup _ _).mpr halo
      · rw [up_n e] at h
        exact (hup _ _).mpr (a5 i' x' hx h)
    · by_cases e : 523 = k ∧ i' = i ∧ x' = x
      · obtain ⟨rfl, rfl, rfl⟩ := e
        have : ko = 102 := by omega
        subst this
        exact (hup _ _).mpr halo
      · rw [up_n e] at h
        exact (hup _ _).mpr (a6 i' x' hx h)
    · rw [up_n (fun e => by omega)] at h
      exact a9 i' h ((hup _ _).mp q)
  have e2 : (wd_ cA ad T ids).set q0 (ad k i, ce_ cA ad (up_ T k i x 1) k i) = wd_ cA ad (up_ T k i x 1) ids := wd_set hD hq (fun k' i' h => up_o h)
  have fin : ∀ (H1 : Heap) (locs1 : List Loc), va_P D vwCl (wd_ cA ad (up_ T k i x 1) ids) H1 → va_D A (wd_ cA ad (up_ T k i x 1) ids) → va_S A s.heap H1 locs1 → W p l e Y.2.2.2.2 s m args below meth c0 H1 locs1 cells slots (MQ below (Qc_ D cA ad0 T0 A P) args s Y.2.2.2.2.cells Y.2.2.2.2.slots A) (F0 m (pc.toNat + 1) lsC (st.map (en_v ad))) := fun H1 locs1 hP1 hD1 hS1 => by
    have k2 := kk l p e s m args below meth c0 D cA ad0 A X ad H1 locs1 cells slots lsC hc hs ⟨ids, fun k i => (hup k i).trans (hids k i), hP1, hD1⟩ hS1 ⟨fun k i h => (hup k i).mpr (hB.1 k i h), hB.2⟩ hok ⟨fun k9 v h => okv_mono (fun k i => (hup k i).mpr) (hL.1 k9 v h), fun v h => okv_mono (fun k i => (hup k i).mpr) ((ok_tail (ok_tail (ok_tail hL))).2 v h)⟩ hl hn
    rw [show (pc + 1).toNat = pc.toNat + 1 by omega] at k2
    exact k2
  have hcl := i3_cl h1 hx.2
  have hxn : (Int32.ofInt x).toNatClampNeg = x.toNat := by omega
  rcases hk with ⟨rfl, rfl⟩ | ⟨rfl, rfl⟩
  · have hL4 : ∀ T9 : Zt, ce_ cA ad T9 521 i = .inl (cA 3, (ln_ T9 521 i).toNat, .inr (.inr (.inr (.inr fun x => if T9 521 i (x : Int) = 0 then none else some (ad 100 x))))) := fun T9 => by
      unfold ce_
      rw [ta_521]
      rfl
    rw [hL4] at hw e2
    rw [show (100 : Nat) = 100 + 0 from rfl, ce_ob (by omega)] at hw1
    refine va_astq X.1 X.2.1 X.2.2.2.2.2.2.2.1 hP hD hS q0 3 q1 0 hw rfl hw1 vi_0 hin hd (fun H1 locs1 hP1 hD1 hS1 => ?_)
    have ef : va_up (fun x : Nat => if T 521 i (x : Int) = 0 then none else some (ad 100 x)) (Int32.ofInt x).toNatClampNeg (some (ad (100 + 0) x)) = fun z : Nat => if up_ T 521 i x 1 521 i (z : Int) = 0 then none else some (ad 100 z) := by
      funext z
      unfold va_up
      by_cases ez : z = (Int32.ofInt x).toNatClampNeg
      · have : (z : Int) = x := by omega
        rw [if_pos ez, this, up_s, if_neg (by decide)]
      · rw [if_neg ez, up_n (fun q => ez (by omega))]
    rw [ef, ← ln_up (T := T) (k := 521) (i := i) (x := 1) h1, e2] at hP1 hD1
    exact fin H1 locs1 hP1 hD1 hS1
  · have hL4 : ∀ T9 : Zt, ce_ cA ad T9 523 i = .inl (cA 4, (ln_ T9 523 i).toNat, .inr (.inr (.inr (.inr fun x => if T9 523 i (x : Int) = 0 then none else some (ad 102 x))))) := fun T9 => by
      unfold ce_
      rw [ta_523]
      rfl
    rw [hL4] at hw e2
    rw [show (102 : Nat) = 100 + 2 from rfl, ce_ob (by omega)] at hw1
    refine va_astq X.1 X.2.1 X.2.2.2.2.2.2.2.1 hP hD hS q0 4 q1 2 hw rfl hw1 vi_2 hin hd (fun H1 locs1 hP1 hD1 hS1 => ?_)
    have ef : va_up (fun x : Nat => if T 523 i (x : Int) = 0 then none else some (ad 102 x)) (Int32.ofInt x).toNatClampNeg (some (ad (100 + 2) x)) = fun z : Nat => if up_ T 523 i x 1 523 i (z : Int) = 0 then none else some (ad 102 z) := by
      funext z
      unfold va_up
      by_cases ez : z = (Int32.ofInt x).toNatClampNeg
      · have : (z : Int) = x := by omega
        rw [if_pos ez, this, up_s, if_neg (by decide)]
      · rw [if_neg ez, up_n (fun q => ez (by omega))]
    rw [ef, ← ln_up (T := T) (k := 523) (i := i) (x := 1) h1, e2] at hP1 hD1
    exact fin H1 locs1 hP1 hD1 hS1
end JQ
theorem im_ev (n : Nat) : im_ (2 * n) = false := by
  unfold im_
  simp only [Bool.or_eq_false_iff, beq_eq_false_iff_ne]
  omega
section JR2
variable {Y Yc : Zm} {T0 T : Zt} {P : Zt → Option Zv → Prop} {bc bs bc' bs' : Nat} {pc : Int} {ls : Zl} {st rest : List Zv}
theorem j_mono (h1 : bc' ≤ bc) (h2 : bs' ≤ bs) (k : J_ Y T0 P bc' bs' pc ls st T) : J_ Y T0 P bc bs pc ls st T := by
  intro l p e s m args below meth c D cA ad0 A X ad H locs cells slots lsC hc hs hR hS hB hT hL hl hln
  exact k l p e s m args below meth c D cA ad0 A X ad H locs cells slots lsC (by omega) (by omega) hR hS hB hT hL hl hln
theorem nv_fr {U : Zt} {n : Int} (h : U = nv_ T n) : fr_ [(190, []), (191, [0])] T U := fun k i j w => by
  subst h
  unfold nv_
  rw [up_n (fun z => by rw [z.1, z.2.2] at w; exact absurd w (by decide)), nu_o (fun z => by rw [z.1] at w; simp [fw_] at w)]
theorem nv_t9 {U : Zt} {n : Int} (h : U = nv_ T n) : U 191 0 0 = T 191 0 0 + 1 := by rw [h]; exact nv_9
theorem nv_tl {U : Zt} {n : Int} (h : U = nv_ T n) : U 190 (T 191 0 0) (-2) = n := by rw [h, nv_s, nu_l]
theorem nv_to {U : Zt} {n : Int} (h : U = nv_ T n) (x j : Int) (hx : x ≠ T 191 0 0) : U 190 x j = T 190 x j := by rw [h, nv_o (fun z => hx z.2) (by decide)]
theorem nu_fr {U : Zt} {k : Nat} {i n : Int} {f : Int → Int} (h : U = nu_ T k i n f) : fr_ [(k, [])] T U := fun k' i' j w => by
  subst h
  rw [nu_o (fun z => by rw [z.1] at w; simp [fw_] at w)]
theorem nu_tz {U : Zt} {k : Nat} {i n : Int} (h : U = nu_ T k i n (fun _ => 0)) (j : Int) (hj : 0 ≤ j) : U k i j = 0 := by rw [h, nu_p hj]
theorem nu_to {U : Zt} {k : Nat} {i n : Int} {f : Int → Int} (h : U = nu_ T k i n f) (k' : Nat) (i' j : Int) (hx : ¬ (k' = k ∧ i' = i)) : U k' i' j = T k' i' j := by rw [h, nu_o hx]
theorem nu_tv {U : Zt} {k : Nat} {i n : Int} {f : Int → Int} (h : U = nu_ T k i n f) : U k i (-1) = 1 := by rw [h, nu_s, if_pos rfl]
theorem fv5_ {k' : Nat} {x i : Int} (h : 0 ≤ x) : fv_ 5 k' (x + 1) i = vR k' x := by
  show (if x + 1 = 0 then vN else vR k' (x + 1 - 1)) = _
  rw [if_neg (by omega), show x + 1 - 1 = x by omega]
theorem nf_0 (i : Int) (ad : Nat → Int → Nat) (j : Nat) (h : j < 9) : defaultValue (tyX0 j) = vp_V (rw_fs 0 ad i) j := by
  have e : rw_fs 0 ad i = [.int 0, .null, .null, .null, .null, .int 0, .int 0, .int 0, .int 0] := rfl
  have e2 : ∀ j, j < 9 → defaultValue (tyX0 j) = vp_V [.int 0, .null, .null, .null, .null, .int 0, .int 0, .int 0, .int 0] j := by decide +kernel
  rw [e]
  exact e2 j h
theorem nf_2 (i : Int) (ad : Nat → Int → Nat) (j : Nat) (h : j < 11) : defaultValue (tyX2 j) = vp_V (rw_fs 2 ad i) j := by
  have e : rw_fs 2 ad i = [.null, .int 0, .int 0, .int 0, .int 0, .int 0, .int 0, .int 0, .null, .null, .null] := rfl
  have e2 : ∀ j, j < 11 → defaultValue (tyX2 j) = vp_V [.null, .int 0, .int 0, .int 0, .int 0, .int 0, .int 0, .int 0, .null, .null, .null] j := by decide +kernel
  rw [e]
  exact e2 j h
theorem nf_3 (i : Int) (ad : Nat → Int → Nat) (j : Nat) (h : j < 18) : defaultValue (tyX3 j) = vp_V (rw_fs 3 ad i) j := by
  have e : rw_fs 3 ad i = [.null, .null, .null, .int 0, .int 0, .int 0, .null, .null, .null, .null, .null, .null, .null, .null, .null, .int 0, .null, .int 0] := rfl
  have e2 : ∀ j, j < 18 → defaultValue (tyX3 j) = vp_V [.null, .null, .null, .int 0, .int 0, .int 0, .null, .null, .null, .null, .null, .null, .null, .null, .null, .int 0, .null, .int 0] j := by decide +kernel
  rw [e]
  exact e2 j h
/-- a part of a row is copied into another -/
def cp_ (T : Zt) (a b n : Int) : Zt := fun k i j => if k = 190 ∧ i = b ∧ 0 ≤ j ∧ j < n then T 190 a j else T k i j
theorem cp_n {a b n : Int} {k : Nat} {i j : Int} (h : ¬ (k = 190 ∧ i = b ∧ 0 ≤ j ∧ j < n)) : cp_ T a b n k i j = T k i j := by
  unfold cp_
  rw [if_neg h]
theorem al_cp {a b n : Int} (k : Nat) (i : Int) : al_ (cp_ T a b n) k i ↔ al_ T k i := by
  unfold al_
  rw [cp_n (fun z => by omega)]
theorem ok_cp (hT : ok_T T) {a b n : Int} : ok_T (cp_ T a b n) := by
  obtain ⟨a1, a2, a3, a4, a5, a6, a7, a8, a9⟩ := hT
  refine ⟨fun k' t' n' lo' hi' h i' x' hx => ?_, fun k' j' c k'' lo' hi' h i' => ?_, fun i' => ?_, fun k' i' hl' j' c k'' lo' hi' h => ?_, fun i' x' hx h => ?_, fun i' x' hx h => ?_, fun k' i' h q => a7 k' i' h ((al_cp _ _).mp q), fun k' i' o h q => (a8 k' i' o h ((al_cp _ _).mp q)).imp (al_cp _ _).mpr (al_cp _ _).mpr, fun i' h q => ?_⟩
  · by_cases e : k' = 190 ∧ i' = b ∧ 0 ≤ x' ∧ x' < n
    · obtain ⟨rfl, rfl, -⟩ := e
      unfold cp_
      split
      · exact a1 _ _ _ _ _ h a x' hx
      · exact a1 _ _ _ _ _ h i' x' hx
    · rw [cp_n e]
      exact a1 k' t' n' lo' hi' h i' x' hx
  · have := tf_lt h
    rw [cp_n (fun e => by omega)]
    exact a2 k' j' c k'' lo' hi' h i'
  · rw [cp_n (fun e => by omega)]
    exact a3 i'
  · have := tf_lt h
    rw [cp_n (fun e => by omega)]
    exact okv_mono (fun k i => (al_cp k i).mpr) (a4 k' i' ((al_cp k' i').mp hl') j' c k'' lo' hi' h)
  · rw [cp_n (fun e => by omega)] at h
    exact (al_cp _ _).mpr (a5 i' x' hx h)
  · rw [cp_n (fun e => by omega)] at h
    exact (al_cp _ _).mpr (a6 i' x' hx h)
  · rw [cp_n (fun e => by omega)] at h
    exact a9 i' h ((al_cp _ _).mp q)
theorem cp_fr {U : Zt} {a b n : Int} (h : U = cp_ T a b n) : fr_ [(190, [])] T U := fun k i j w => by
  subst h
  rw [cp_n (fun z => by rw [z.1] at w; simp [fw_] at w)]
theorem cp_l {U : Zt} {a b n : Int} (h : U = cp_ T a b n) (x : Int) : U 190 x (-2) = T 190 x (-2) := by rw [h, cp_n (fun z => by omega)]
theorem cp_o {U : Zt} {a b n : Int} (h : U = cp_ T a b n) (x j : Int) (hx : x ≠ b) : U 190 x j = T 190 x j := by rw [h, cp_n (fun z => hx z.2.1)]
theorem j_acp {idx : Nat} {a b n : Int} (hp : 0 ≤ pc) (h0 : 0 ≤ n) (h1 : n ≤ T 190 a (-2)) (h2 : n ≤ T 190 b (-2)) (hml : Cond.methodLink Y.1 idx arraycopyName ∈ lw_g) (hna : Cond.native arraycopyName ∈ lw_g) (hst : Cond.static arraycopyName ∈ lw_g) (hin : Cond.initialized "java/lang/System" ∈ lw_g) (hd : decode Y.2.1 pc.toNat = .ok (.invokestatic idx, 3)) (hf : 1 ≤ Y.2.2.2.2.frames) (hlo : 8 + (nativeFrameWords "java/lang/System" "arraycopy" 5 + 11) ≤ Y.2.2.2.2.locals) (hrest : st.length ≤ 4) (kk : J_ Y T0 P bc bs (pc + 3) ls st (cp_ T a b n)) : J_ Y T0 P bc bs pc ls (vI n :: vI 0 :: vR 190 b :: vI 0 :: vR 190 a :: st) T := by
  intro l p e s m args below meth c D cA ad0 A X ad H locs cells slots lsC hc hs hR hS hB hT hL hl hln
  have hb : al_ T 190 b := ok_al (v := none) (by omega) (ok_head (ok_tail (ok_tail hL)))
  have ha : al_ T 190 a := ok_al (v := none) (by omega) (ok_head (ok_tail (ok_tail (ok_tail (ok_tail hL)))))
  have hn : -2147483648 ≤ n ∧ n ≤ 2147483647 := ok_head hL
  obtain ⟨ids, q0, hq, hids, hP, hD⟩ := rp_at hR ha
  obtain ⟨q1, hq1⟩ := List.getElem?_of_mem ((hids 190 b).mp hb)
  have w := X.2.2.2.2.2.1
  have sm := en_sum (ad := ad) st
  have hwa := wd_get (cA := cA) (ad := ad) (T := T) hq
  rw [ce_i (n := T 190 a (-2)) ta_190 (Or.inl ⟨rfl, rfl⟩)] at hwa
  have hwb := wd_get (cA := cA) (ad := ad) (T := T) hq1
  rw [ce_i (n := T 190 b (-2)) ta_190 (Or.inl ⟨rfl, rfl⟩)] at hwb
  have hcl := i3_cl h0 hn.2
  have hin2 := i3_in h0 (show n < n + 1 by omega) hn.2
  have z0 : (0 : Int32).toNatClampNeg = 0 := by decide
  have e2 : (wd_ cA ad T ids).set q1 (ad 190 b, ce_ cA ad (cp_ T a b n) 190 b) = wd_ cA ad (cp_ T a b n) ids := by
    refine wd_set hD hq1 (fun k' i' h => ?_)
    funext j
    exact cp_n (fun z => h (by rw [z.1, z.2.1]))
  rw [ce_i (n := T 190 b (-2)) ta_190 (Or.inl ⟨rfl, by rw [cp_n (fun z => by omega)]⟩)] at e2
  refine va_copyi (n := Int32.ofInt n) (sp := 0) (dp := 0) (ty := .int) X.1 X.2.1 (X.2.2.1.trans hl.1.symm) X.2.2.2.2.2.2.1 (w _ hml) (w _ hna) (w _ hst) (w _ hin) X.2.2.2.2.2.2.2.1 hP hD hS q0 q1 0 0 hwa hwb rfl rfl rfl (by decide) (by decide) (fun z => hin2 (Or.inl z)) (by rw [z0]; omega) (by rw [z0]; omega) (fun _ _ => rfl) hf (by omega) hd (fun H1 locs1 hP1 hD1 hS1 => ?_)
  have ef : va_cpy (fun x : Nat => Int32.ofInt (T 190 a (x : Int))) (fun x : Nat => Int32.ofInt (T 190 b (x : Int))) (0 : Int32).toNatClampNeg (0 : Int32).toNatClampNeg (Int32.ofInt n).toNatClampNeg = fun x : Nat => Int32.ofInt (cp_ T a b n 190 b (x : Int)) := by
    funext x
    unfold va_cpy
    rw [z0]
    by_cases hx : (x : Int) < n
    · rw [if_pos (by omega)]
      unfold cp_
      rw [if_pos ⟨rfl, rfl, by omega, hx⟩, show 0 + (x - 0) = x by omega]
    · rw [if_neg (by omega), cp_n (fun z => hx z.2.2.2)]
  rw [ef, e2] at hP1 hD1
  have k2 := kk l p e s m args below meth c D cA ad0 A X ad H1 locs1 cells slots lsC hc hs ⟨ids, fun k i => (al_cp k i).trans (hids k i), hP1, hD1⟩ hS1 ⟨fun k i h => (al_cp k i).mpr (hB.1 k i h), hB.2⟩ (ok_cp hT) ⟨fun k9 v h => okv_mono (fun k i => (al_cp k i).mpr) (hL.1 k9 v h), fun v h => okv_mono (fun k i => (al_cp k i).mpr) ((ok_tail (ok_tail (ok_tail (ok_tail (ok_tail hL))))).2 v h)⟩ hl hln
  rw [show (pc + 3).toNat = pc.toNat + 3 by omega] at k2
  exact k2
end JR2
abbrev cJ7_copyOf_59c91 : ByteArray := prog_21_method_123_code
def yJ7_copyOf_59c91 : MethodName := ⟨RJ7, "copyOf", "([II)[I"⟩
def zJ7_copyOf_59c91 (sl : Nat) : Zm := (RJ7, cJ7_copyOf_59c91, 3, (some (.array .int)), { frames := 1, cells := 1, slots := 2 * sl, locals := 70 })
/-- only what has the index p has changed, rows of any length aside -/
def oq_ (T T1 : Zt) (p : Int) : Prop := ∀ k i j, i ≠ p → k ≠ 190 → k ≠ 191 → T1 k i j = T k i j
theorem oq_r {T : Zt} {p : Int} : oq_ T T p := fun _ _ _ _ _ _ => rfl
theorem oq_u {T T1 T2 : Zt} {p j v : Int} {k : Nat} (h : oq_ T T1 p) (e : T2 = up_ T1 k p j v) : oq_ T T2 p := fun k' i j' hi a b => (up_g e (fun q => hi q.2.1)).trans (h k' i j' hi a b)
theorem oq_i {T T1 T2 : Zt} {p : Int} (h : oq_ T T1 p) (g : oi_ T1 T2 p) : oq_ T T2 p := fun k i j hi a b => (g k i j hi).trans (h k i j hi a b)
theorem oq_t {T T1 T2 : Zt} {p : Int} (h : oq_ T T1 p) (g : oq_ T1 T2 p) : oq_ T T2 p := fun k i j hi a b => (g k i j hi a b).trans (h k i j hi a b)
theorem oq_9 {T T1 T2 : Zt} {p : Int} (h : oq_ T T1 p) (g : fr_ [(190, []), (191, [0])] T1 T2) : oq_ T T2 p := fun k i j hi a b => (g k i j (by simp [fw_, a, b])).trans (h k i j hi a b)
theorem oq_1 {T T1 T2 : Zt} {p : Int} (h : oq_ T T1 p) (g : fr_ [(190, [])] T1 T2) : oq_ T T2 p := oq_9 h (fr_s g rfl)
/-- the lengths that a log has -/
def lz_ (x : Int) : Prop := x = 16 ∨ x = 32 ∨ x = 64 ∨ x = 128 ∨ x = 256 ∨ x = 512 ∨ x = 1024 ∨ x = 2048
theorem lz_b {x : Int} (h : lz_ x) : 16 ≤ x ∧ x ≤ 2048 := by unfold lz_ at h; omega
theorem lz_h {x : Int} (h : lz_ x) (g : x < 2048) : x ≤ 1024 := by unfold lz_ at h; omega
theorem lz_d {x : Int} (h : lz_ x) (g : x < 2048) : lz_ (2 * x) := by unfold lz_ at h ⊢; omega
theorem oq_w {T T1 T2 : Zt} {p i j v : Int} (h : oq_ T T1 p) (e : T2 = up_ T1 190 i j v) : oq_ T T2 p := fun k' i' j' hi a b => (up_g e (fun q => a q.1)).trans (h k' i' j' hi a b)
abbrev cX3_writeRow : ByteArray := prog_5_method_31_code
def yX3_writeRow : MethodName := ⟨RX3, "writeRow", "([IIIIII)V"⟩
def zX3_writeRow : Zm := (RX3, cX3_writeRow, 6, none, { frames := 0, cells := 0, slots := 0, locals := 0 })
abbrev cX3_keepRow : ByteArray := prog_5_method_29_code
def yX3_keepRow : MethodName := ⟨RX3, "keepRow", "(IIII)V"⟩
def zX3_keepRow : Zm := (RX3, cX3_keepRow, 5, none, { frames := 2, cells := 1, slots := 2048, locals := 92 })
set_option maxRecDepth 100000 in
theorem cl_X3_161 : cs_ RX3 161 yX3_writeRow zX3_writeRow 6 := ⟨gi_S (lwq_5 (dqc_m (dqc_m (dqc_m (dqc_m (dqa_m (dqa_m (List.mem_of_getElem? (i := 2) rfl))))))) rfl : Cond.methodLink RX3 161 yX3_writeRow ∈ lw_g) (lwq_5 (dqc_m (dqc_m (dqc_m (dqc_m (dqa_m (dqa_m (List.mem_of_getElem? (i := 3) rfl))))))) rfl : Cond.static yX3_writeRow ∈ lw_g) (lwq_1 (dqa_m (dqa_m (List.mem_of_getElem? (i := 2) rfl))) rfl : Cond.initialized yX3_writeRow.cls ∈ lw_g) (lwq_5 (dqc_m (dqc_m (dqc_m (dqc_m (dqa_m (dqa_m (List.mem_of_getElem? (i := 4) rfl))))))) rfl : Cond.code yX3_writeRow cX3_writeRow 6 none ∈ lw_g), ⟨by decide, by decide, by decide +kernel⟩⟩
set_option maxRecDepth 100000 in
theorem cl_X3_157 (sl : Nat) : cs_ RX3 157 yJ7_copyOf_59c91 (zJ7_copyOf_59c91 sl) 2 := ⟨gi_S (lwq_5 (dqc_m (dqc_m (dqc_m (dqc_m (dqa_m (List.mem_of_getElem? (i := 1) rfl)))))) rfl : Cond.methodLink RX3 157 yJ7_copyOf_59c91 ∈ lw_g) (lwq_5 (dqc_m (dqc_m (dqc_m (dqc_m (dqa_m (List.mem_of_getElem? (i := 2) rfl)))))) rfl : Cond.static yJ7_copyOf_59c91 ∈ lw_g) (lwq_1 (List.mem_of_getElem? (i := 7) rfl) rfl : Cond.initialized yJ7_copyOf_59c91.cls ∈ lw_g) (lwq_5 (dqc_m (dqc_m (dqc_m (dqc_m (dqa_m (List.mem_of_getElem? (i := 3) rfl)))))) rfl : Cond.code yJ7_copyOf_59c91 cJ7_copyOf_59c91 3 (some (.array .int)) ∈ lw_g), ⟨by decide, by decide, by decide +kernel⟩⟩
theorem fr5_X3_36 : fr5_ RX3 36 3 14 := ⟨_, _, _, rfl, by decide, by decide, (lwq_4 (dqc_m (dqc_m (dqc_m (dqc_m (dqc_m (dqc_m (dqa_m (dqa_m (List.mem_of_getElem? (i := 1) rfl))))))))) rfl : Cond.fieldLink RX3 36 _ _ _ ∈ lw_g), rfl, fun a => ⟨.array .int, by decide +kernel, rfl, rfl⟩⟩
def zX3_keepRow0 : Zm := (RX3, cX3_keepRow, 5, none, { frames := 2, cells := 0, slots := 0, locals := 92 })
abbrev cX3_putAside : ByteArray := prog_5_method_30_code
def yX3_putAside : MethodName := ⟨RX3, "putAside", "(IIII)V"⟩
def zX3_putAside0 : Zm := (RX3, cX3_putAside, 5, none, { frames := 2, cells := 0, slots := 0, locals := 92 })
def zX3_putAsideD (sl : Nat) : Zm := (RX3, cX3_putAside, 5, none, { frames := 2, cells := 1, slots := 2 * sl, locals := 92 })
theorem fr5_X3_39 : fr5_ RX3 39 3 16 := ⟨_, _, _, rfl, by decide, by decide, (lwq_4 (dqc_m (dqc_m (dqc_m (dqc_m (dqc_m (dqc_m (dqa_m (dqa_m (List.mem_of_getElem? (i := 5) rfl))))))))) rfl : Cond.fieldLink RX3 39 _ _ _ ∈ lw_g), rfl, fun a => ⟨.array .int, by decide +kernel, rfl, rfl⟩⟩
abbrev cX3_isSameRow : ByteArray := prog_5_method_32_code
def yX3_isSameRow : MethodName := ⟨RX3, "isSameRow", "(IIIII)Z"⟩
def zX3_isSameRow : Zm := (RX3, cX3_isSameRow, 6, (some .boolean), { frames := 0, cells := 0, slots := 0, locals := 0 })
abbrev cX3_takeOut : ByteArray := prog_5_method_33_code
def yX3_takeOut : MethodName := ⟨RX3, "takeOut", "(I)V"⟩
def zX3_takeOut : Zm := (RX3, cX3_takeOut, 3, none, { frames := 0, cells := 0, slots := 0, locals := 0 })
abbrev cX3_putInPlace : ByteArray := prog_5_method_34_code
def yX3_putInPlace : MethodName := ⟨RX3, "putInPlace", "(IIIII)V"⟩
def zX3_putInPlace : Zm := (RX3, cX3_putInPlace, 6, none, { frames := 1, cells := 0, slots := 0, locals := 25 })
theorem lz_2 {x y : Int} (h : lz_ x) (g : lz_ y) (a : x < y) (b : y ≤ 2 * x) : y = 2 * x := by unfold lz_ at h g; omega
abbrev cX3_runAnew : ByteArray := prog_5_method_35_code
def yX3_runAnew : MethodName := ⟨RX3, "runAnew", "()I"⟩
def zX3_runAnew : Zm := (RX3, cX3_runAnew, 8, (some .int), { frames := 5, cells := 127, slots := 4064, locals := 116 })
set_option maxRecDepth 100000 in
theorem cl_X3_171 : cv_ RX3 171 yX3_brokenLaw zX3_brokenLaw 3 4 := ⟨gi_V (lwq_5 (dqc_m (dqc_m (dqc_m (dqc_m (dqc_m (List.mem_of_getElem? (i := 2) rfl)))))) rfl : Cond.methodLink RX3 171 yX3_brokenLaw ∈ lw_g) (lwq_5 (dqa_m (dqa_m (dqa_m (List.mem_of_getElem? (i := 4) rfl)))) rfl : Cond.instanceMethod yX3_brokenLaw ∈ lw_g) (lwq_5 (dqa_m (dqa_m (dqa_m (List.mem_of_getElem? (i := 5) rfl)))) rfl : Cond.selects yX3_brokenLaw.cls yX3_brokenLaw yX3_brokenLaw ∈ lw_g) (lwq_1 (dqa_m (dqa_m (List.mem_of_getElem? (i := 2) rfl))) rfl : Cond.initialized yX3_brokenLaw.cls ∈ lw_g) (lwq_5 (dqa_m (dqa_m (dqa_m (List.mem_of_getElem? (i := 6) rfl)))) rfl : Cond.code yX3_brokenLaw cX3_brokenLaw 5 (some .int) ∈ lw_g), ⟨nmh_3.1, nmh_3.2, pdq_32⟩, ⟨_, _, rfl⟩⟩
set_option maxRecDepth 100000 in
theorem cl_X3_182_zX3_putAside0 : cv_ RX3 182 yX3_putAside zX3_putAside0 3 4 := ⟨gi_V (lwq_5 (dqc_m (dqc_m (dqc_m (dqc_m (dqc_m (List.mem_of_getElem? (i := 5) rfl)))))) rfl : Cond.methodLink RX3 182 yX3_putAside ∈ lw_g) (lwq_5 (dqc_m (dqc_m (dqc_m (dqc_m (dqc_m (List.mem_of_getElem? (i := 7) rfl)))))) rfl : Cond.instanceMethod yX3_putAside ∈ lw_g) (lw_sel 97 rfl : Cond.selects yX3_putAside.cls yX3_putAside yX3_putAside ∈ lw_g) (lwq_1 (dqa_m (dqa_m (List.mem_of_getElem? (i := 2) rfl))) rfl : Cond.initialized yX3_putAside.cls ∈ lw_g) (lwq_5 (dqc_m (dqc_m (dqc_m (dqc_m (dqc_m (dqa_m (List.mem_of_getElem? (i := 0) rfl))))))) rfl : Cond.code yX3_putAside cX3_putAside 5 none ∈ lw_g), ⟨nmh_3.1, nmh_3.2, pdq_12⟩, ⟨_, _, rfl⟩⟩
set_option maxRecDepth 100000 in
theorem cl_X3_182_zX3_putAsideD (sl : Nat) : cv_ RX3 182 yX3_putAside (zX3_putAsideD sl) 3 4 := ⟨gi_V (lwq_5 (dqc_m (dqc_m (dqc_m (dqc_m (dqc_m (List.mem_of_getElem? (i := 5) rfl)))))) rfl : Cond.methodLink RX3 182 yX3_putAside ∈ lw_g) (lwq_5 (dqc_m (dqc_m (dqc_m (dqc_m (dqc_m (List.mem_of_getElem? (i := 7) rfl)))))) rfl : Cond.instanceMethod yX3_putAside ∈ lw_g) (lw_sel 97 rfl : Cond.selects yX3_putAside.cls yX3_putAside yX3_putAside ∈ lw_g) (lwq_1 (dqa_m (dqa_m (List.mem_of_getElem? (i := 2) rfl))) rfl : Cond.initialized yX3_putAside.cls ∈ lw_g) (lwq_5 (dqc_m (dqc_m (dqc_m (dqc_m (dqc_m (dqa_m (List.mem_of_getElem? (i := 0) rfl))))))) rfl : Cond.code yX3_putAside cX3_putAside 5 none ∈ lw_g), ⟨by decide, by decide, by decide +kernel⟩, ⟨_, _, rfl⟩⟩
set_option maxRecDepth 100000 in
theorem cl_X3_175 : cv_ RX3 175 yX3_carryOut zX3_carryOut 3 4 := ⟨gi_V (lwq_5 (dqc_m (dqc_m (dqc_m (dqc_m (dqc_m (List.mem_of_getElem? (i := 3) rfl)))))) rfl : Cond.methodLink RX3 175 yX3_carryOut ∈ lw_g) (lwq_5 (dqc_m (dqa_m (dqa_m (dqa_m (List.mem_of_getElem? (i := 5) rfl))))) rfl : Cond.instanceMethod yX3_carryOut ∈ lw_g) (lwq_5 (dqc_m (dqa_m (dqa_m (dqa_m (List.mem_of_getElem? (i := 6) rfl))))) rfl : Cond.selects yX3_carryOut.cls yX3_carryOut yX3_carryOut ∈ lw_g) (lwq_1 (dqa_m (dqa_m (List.mem_of_getElem? (i := 2) rfl))) rfl : Cond.initialized yX3_carryOut.cls ∈ lw_g) (lwq_5 (dqc_m (dqa_m (dqa_m (dqa_m (List.mem_of_getElem? (i := 7) rfl))))) rfl : Cond.code yX3_carryOut cX3_carryOut 5 none ∈ lw_g), ⟨nmh_3.1, nmh_3.2, pdq_12⟩, ⟨_, _, rfl⟩⟩
set_option maxRecDepth 100000 in
theorem cl_X3_179_zX3_keepRow0 : cv_ RX3 179 yX3_keepRow zX3_keepRow0 3 4 := ⟨gi_V (lwq_5 (dqc_m (dqc_m (dqc_m (dqc_m (dqc_m (List.mem_of_getElem? (i := 4) rfl)))))) rfl : Cond.methodLink RX3 179 yX3_keepRow ∈ lw_g) (lwq_5 (dqc_m (dqc_m (dqc_m (dqc_m (List.mem_of_getElem? (i := 6) rfl))))) rfl : Cond.instanceMethod yX3_keepRow ∈ lw_g) (lwq_5 (dqc_m (dqc_m (dqc_m (dqc_m (List.mem_of_getElem? (i := 7) rfl))))) rfl : Cond.selects yX3_keepRow.cls yX3_keepRow yX3_keepRow ∈ lw_g) (lwq_1 (dqa_m (dqa_m (List.mem_of_getElem? (i := 2) rfl))) rfl : Cond.initialized yX3_keepRow.cls ∈ lw_g) (lwq_5 (dqc_m (dqc_m (dqc_m (dqc_m (dqa_m (List.mem_of_getElem? (i := 0) rfl)))))) rfl : Cond.code yX3_keepRow cX3_keepRow 5 none ∈ lw_g), ⟨nmh_3.1, nmh_3.2, pdq_12⟩, ⟨_, _, rfl⟩⟩
set_option maxRecDepth 100000 in
theorem cl_X3_168 : cv_ RX3 168 yX3_backToBeginning zX3_backToBeginning 3 0 := ⟨gi_V (lwq_5 (dqc_m (dqc_m (dqc_m (dqc_m (dqc_m (List.mem_of_getElem? (i := 1) rfl)))))) rfl : Cond.methodLink RX3 168 yX3_backToBeginning ∈ lw_g) (lwq_5 (dqa_m (List.mem_of_getElem? (i := 7) rfl)) rfl : Cond.instanceMethod yX3_backToBeginning ∈ lw_g) (lwq_5 (dqa_m (dqa_m (List.mem_of_getElem? (i := 0) rfl))) rfl : Cond.selects yX3_backToBeginning.cls yX3_backToBeginning yX3_backToBeginning ∈ lw_g) (lwq_1 (dqa_m (dqa_m (List.mem_of_getElem? (i := 2) rfl))) rfl : Cond.initialized yX3_backToBeginning.cls ∈ lw_g) (lwq_5 (dqa_m (dqa_m (List.mem_of_getElem? (i := 1) rfl))) rfl : Cond.code yX3_backToBeginning cX3_backToBeginning 3 none ∈ lw_g), ⟨nmh_3.1, nmh_3.2, pdq_1⟩, ⟨_, _, rfl⟩⟩
theorem oi_n {T T1 T2 : Zt} {p : Int} {k : Nat} (h : oi_ T T1 p) (e : ∀ k' i' j, ¬ (k' = k ∧ i' = p) → T2 k' i' j = T1 k' i' j) : oi_ T T2 p := fun k' i j hi => (e k' i j (fun q => hi q.2)).trans (h k' i j hi)
theorem oq_n {T T1 T2 : Zt} {p : Int} {k : Nat} (h : oq_ T T1 p) (e : ∀ k' i' j, ¬ (k' = k ∧ i' = p) → T2 k' i' j = T1 k' i' j) : oq_ T T2 p := fun k' i j hi a b => (e k' i j (fun q => hi q.2)).trans (h k' i j hi a b)
abbrev cX2_init : ByteArray := prog_4_method_1_code
def yX2_init : MethodName := ⟨RX2, "<init>", "(LSportsHouse$Competition;IIIII)V"⟩
def zX2_init : Zm := (RX2, cX2_init, 7, none, { frames := 1, cells := 2, slots := 23, locals := 30 })
theorem bk_X2_init_0 : ck_ fX2 none cX2_init 0 [.aload 0] 1 = true := qck_r (nn_ _) (by decide +kernel)
theorem bs_X2_init_0 {P : Zt → Option Zv → Prop} (K : Int → Zl → List Zv → Zt → Prop) : sx_ K P [.aload 0] 1 = x_aload 0 (K 1) := ((xe_aload 0).trans (congrArg (x_aload 0) xe_nil))
theorem bk_X2_init_4 : ck_ fX2 none cX2_init 4 [.aload 0, .iconst (-1)] 6 = true := qck_r (nn_ _) (by decide +kernel)
theorem bs_X2_init_4 {P : Zt → Option Zv → Prop} (K : Int → Zl → List Zv → Zt → Prop) : sx_ K P [.aload 0, .iconst (-1)] 6 = x_aload 0 (x_iconst (-1) (K 6)) := ((xe_aload 0).trans (congrArg (x_aload 0) ((xe_iconst (-1)).trans (congrArg (x_iconst (-1)) xe_nil))))
theorem fW_X2_9 : fW_ RX2 9 2 6 true := ⟨_, _, _, rfl, by decide, by decide, (lwq_4 (dqa_m (List.mem_of_getElem? (i := 3) rfl)) rfl : Cond.fieldLink RX2 9 _ _ _ ∈ lw_g), rfl, .int, by decide +kernel, (fun _ h => by cases h), fun _ _ => ⟨rfl, rfl⟩⟩
theorem bk_X2_init_9 : ck_ fX2 none cX2_init 9 [.aload 0, .iconst (-1)] 11 = true := qck_r (nn_ _) (by decide +kernel)
theorem bs_X2_init_9 {P : Zt → Option Zv → Prop} (K : Int → Zl → List Zv → Zt → Prop) : sx_ K P [.aload 0, .iconst (-1)] 11 = x_aload 0 (x_iconst (-1) (K 11)) := ((xe_aload 0).trans (congrArg (x_aload 0) ((xe_iconst (-1)).trans (congrArg (x_iconst (-1)) xe_nil))))
theorem fW_X2_15 : fW_ RX2 15 2 7 true := ⟨_, _, _, rfl, by decide, by decide, (lwq_4 (dqa_m (List.mem_of_getElem? (i := 6) rfl)) rfl : Cond.fieldLink RX2 15 _ _ _ ∈ lw_g), rfl, .int, by decide +kernel, (fun _ h => by cases h), fun _ _ => ⟨rfl, rfl⟩⟩
theorem bk_X2_init_14 : ck_ fX2 none cX2_init 14 [.aload 0, .iconst 20] 17 = true := qck_r (nn_ _) (by decide +kernel)
theorem bs_X2_init_14 {P : Zt → Option Zv → Prop} (K : Int → Zl → List Zv → Zt → Prop) : sx_ K P [.aload 0, .iconst 20] 17 = x_aload 0 (x_iconst 20 (K 17)) := ((xe_aload 0).trans (congrArg (x_aload 0) ((xe_iconst 20).trans (congrArg (x_iconst 20) xe_nil))))
theorem fW_X2_18 : fW_ RX2 18 2 8 false := ⟨_, _, _, rfl, by decide, by decide, (lwq_4 (dqa_m (dqa_m (List.mem_of_getElem? (i := 1) rfl))) rfl : Cond.fieldLink RX2 18 _ _ _ ∈ lw_g), rfl, .array .int, by decide +kernel, fun _ _ => ⟨rfl, rfl⟩, (fun _ h => by cases h)⟩
theorem bk_X2_init_22 : ck_ fX2 none cX2_init 22 [.aload 0, .iconst 2] 24 = true := qck_r (nn_ _) (by decide +kernel)
theorem bs_X2_init_22 {P : Zt → Option Zv → Prop} (K : Int → Zl → List Zv → Zt → Prop) : sx_ K P [.aload 0, .iconst 2] 24 = x_aload 0 (x_iconst 2 (K 24)) := ((xe_aload 0).trans (congrArg (x_aload 0) ((xe_iconst 2).trans (congrArg (x_iconst 2) xe_nil))))
theorem fW_X2_22 : fW_ RX2 22 2 9 false := ⟨_, _, _, rfl, by decide, by decide, (lwq_4 (dqa_m (dqa_m (List.mem_of_getElem? (i := 3) rfl))) rfl : Cond.fieldLink RX2 22 _ _ _ ∈ lw_g), rfl, .array .int, by decide +kernel, fun _ _ => ⟨rfl, rfl⟩, (fun _ h => by cases h)⟩
theorem bk_X2_init_29 : ck_ fX2 none cX2_init 29 [.aload 0, .aload 1] 31 = true := qck_r (nn_ _) (by decide +kernel)
theorem bs_X2_init_29 {P : Zt → Option Zv → Prop} (K : Int → Zl → List Zv → Zt → Prop) : sx_ K P [.aload 0, .aload 1] 31 = x_aload 0 (x_aload 1 (K 31)) := ((xe_aload 0).trans (congrArg (x_aload 0) ((xe_aload 1).trans (congrArg (x_aload 1) xe_nil))))
theorem fW_X2_25 : fW_ RX2 25 2 0 false := ⟨_, _, _, rfl, by decide, by decide, (lwq_3 (dqc_m (dqc_m (dqc_m (dqc_m (dqc_m (dqc_m (dqc_m (List.mem_of_getElem? (i := 2) rfl)))))))) rfl : Cond.fieldLink RX2 25 _ _ _ ∈ lw_g), rfl, .object "SportsHouse$Competition", by decide +kernel, fun _ _ => ⟨rfl, rfl⟩, (fun _ h => by cases h)⟩
theorem bk_X2_init_34 : ck_ fX2 none cX2_init 34 [.aload 0, .iload 2] 36 = true := qck_r (nn_ _) (by decide +kernel)
theorem bs_X2_init_34 {P : Zt → Option Zv → Prop} (K : Int → Zl → List Zv → Zt → Prop) : sx_ K P [.aload 0, .iload 2] 36 = x_aload 0 (x_iload 2 (K 36)) := ((xe_aload 0).trans (congrArg (x_aload 0) ((xe_iload 2).trans (congrArg (x_iload 2) xe_nil))))
theorem fW_X2_29 : fW_ RX2 29 2 1 true := ⟨_, _, _, rfl, by decide, by decide, (lwq_3 (dqc_m (dqc_m (dqc_m (dqc_m (dqc_m (dqc_m (dqc_m (List.mem_of_getElem? (i := 5) rfl)))))))) rfl : Cond.fieldLink RX2 29 _ _ _ ∈ lw_g), rfl, .int, by decide +kernel, (fun _ h => by cases h), fun _ _ => ⟨rfl, rfl⟩⟩
theorem bk_X2_init_39 : ck_ fX2 none cX2_init 39 [.aload 0, .iload 3] 41 = true := qck_r (nn_ _) (by decide +kernel)
theorem bs_X2_init_39 {P : Zt → Option Zv → Prop} (K : Int → Zl → List Zv → Zt → Prop) : sx_ K P [.aload 0, .iload 3] 41 = x_aload 0 (x_iload 3 (K 41)) := ((xe_aload 0).trans (congrArg (x_aload 0) ((xe_iload 3).trans (congrArg (x_iload 3) xe_nil))))
theorem fW_X2_32 : fW_ RX2 32 2 2 true := ⟨_, _, _, rfl, by decide, by decide, (lwq_3 (dqc_m (dqc_m (dqc_m (dqc_m (dqc_m (dqc_m (dqc_m (dqa_m (List.mem_of_getElem? (i := 0) rfl))))))))) rfl : Cond.fieldLink RX2 32 _ _ _ ∈ lw_g), rfl, .int, by decide +kernel, (fun _ h => by cases h), fun _ _ => ⟨rfl, rfl⟩⟩
theorem bk_X2_init_44 : ck_ fX2 none cX2_init 44 [.aload 0, .iload 4] 47 = true := qck_r (nn_ _) (by decide +kernel)
theorem bs_X2_init_44 {P : Zt → Option Zv → Prop} (K : Int → Zl → List Zv → Zt → Prop) : sx_ K P [.aload 0, .iload 4] 47 = x_aload 0 (x_iload 4 (K 47)) := ((xe_aload 0).trans (congrArg (x_aload 0) ((xe_iload 4).trans (congrArg (x_iload 4) xe_nil))))
theorem fW_X2_35 : fW_ RX2 35 2 3 true := ⟨_, _, _, rfl, by decide, by decide, (lwq_3 (dqc_m (dqc_m (dqc_m (dqc_m (dqc_m (dqc_m (dqc_m (dqa_m (List.mem_of_getElem? (i := 2) rfl))))))))) rfl : Cond.fieldLink RX2 35 _ _ _ ∈ lw_g), rfl, .int, by decide +kernel, (fun _ h => by cases h), fun _ _ => ⟨rfl, rfl⟩⟩
theorem bk_X2_init_50 : ck_ fX2 none cX2_init 50 [.aload 0, .iload 5] 53 = true := qck_r (nn_ _) (by decide +kernel)
theorem bs_X2_init_50 {P : Zt → Option Zv → Prop} (K : Int → Zl → List Zv → Zt → Prop) : sx_ K P [.aload 0, .iload 5] 53 = x_aload 0 (x_iload 5 (K 53)) := ((xe_aload 0).trans (congrArg (x_aload 0) ((xe_iload 5).trans (congrArg (x_iload 5) xe_nil))))
theorem fW_X2_38 : fW_ RX2 38 2 4 true := ⟨_, _, _, rfl, by decide, by decide, (lwq_4 (List.mem_of_getElem? (i := 0) rfl) rfl : Cond.fieldLink RX2 38 _ _ _ ∈ lw_g), rfl, .int, by decide +kernel, (fun _ h => by cases h), fun _ _ => ⟨rfl, rfl⟩⟩
theorem bk_X2_init_56 : ck_ fX2 none cX2_init 56 [.aload 0, .iload 6] 59 = true := qck_r (nn_ _) (by decide +kernel)
theorem bs_X2_init_56 {P : Zt → Option Zv → Prop} (K : Int → Zl → List Zv → Zt → Prop) : sx_ K P [.aload 0, .iload 6] 59 = x_aload 0 (x_iload 6 (K 59)) := ((xe_aload 0).trans (congrArg (x_aload 0) ((xe_iload 6).trans (congrArg (x_iload 6) xe_nil))))
theorem fW_X2_41 : fW_ RX2 41 2 5 true := ⟨_, _, _, rfl, by decide, by decide, (lwq_4 (List.mem_of_getElem? (i := 6) rfl) rfl : Cond.fieldLink RX2 41 _ _ _ ∈ lw_g), rfl, .int, by decide +kernel, (fun _ h => by cases h), fun _ _ => ⟨rfl, rfl⟩⟩
theorem bk_X2_init_62 : ck_ fX2 none cX2_init 62 [.return_] 63 = true := qck_r (nn_ _) (by decide +kernel)
theorem bs_X2_init_62 {P : Zt → Option Zv → Prop} (K : Int → Zl → List Zv → Zt → Prop) : sx_ K P [.return_] 63 = x_return_ P := (xe_return_)
abbrev po_X2_init (T : Zt) (n : Int) (c : Int) (m u h a d : Int) : Zt → Option Zv → Prop := fun T' r => r = none ∧ fr_ [(152, []), (448, []), (449, [])] T T' ∧ (oi_ T T' n ∧ (T' 152 n 0 = c + 1 ∧ T' 152 n 1 = m ∧ T' 152 n 2 = u ∧ T' 152 n 3 = h ∧ T' 152 n 4 = a ∧ T' 152 n 5 = d) ∧ (T' 152 n 6 = -1 ∧ T' 152 n 7 = -1 ∧ T' 152 n 8 = n + 1 ∧ T' 152 n 9 = n + 1 ∧ T' 152 n 10 = T 152 n 10) ∧ (∀ j, 0 ≤ j → T' 448 n j = 0) ∧ ∀ j, 0 ≤ j → T' 449 n j = 0)
set_option maxHeartbeats 4000000 in
theorem ct_X2_init {T : Zt} {n : Int} {c : Int} {m u h a d : Int} (h1 : 0 ≤ n ∧ n ≤ 399 ∧ 0 ≤ c ∧ c ≤ 3 ∧ 0 ≤ m ∧ m ≤ 399 ∧ 0 ≤ h ∧ h ≤ 11 ∧ 0 ≤ a ∧ a ≤ 11 ∧ 0 ≤ d ∧ d ≤ 999) (hf8 : ¬ T 448 n (-1) = 1) (hf9 : ¬ T 449 n (-1) = 1) : Ct_ yX2_init zX2_init T [vR 152 n, vR 100 c, vI m, vI u, vI h, vI a, vI d] (po_X2_init T n c m u h a d) := by
  refine ct_of pn_2 rfl rfl (Nat.le_of_ble_eq_true rfl) (fun hT hav => ?_)
  have hr_m : -2147483648 ≤ m ∧ m ≤ 2147483647 := hav (vI m) (List.mem_cons_of_mem _ (List.mem_cons_of_mem _ List.mem_cons_self))
  have hr_u : -2147483648 ≤ u ∧ u ≤ 2147483647 := hav (vI u) (List.mem_cons_of_mem _ (List.mem_cons_of_mem _ (List.mem_cons_of_mem _ List.mem_cons_self)))
  have hr_h : -2147483648 ≤ h ∧ h ≤ 2147483647 := hav (vI h) (List.mem_cons_of_mem _ (List.mem_cons_of_mem _ (List.mem_cons_of_mem _ (List.mem_cons_of_mem _ List.mem_cons_self))))
  have hr_a : -2147483648 ≤ a ∧ a ≤ 2147483647 := hav (vI a) (List.mem_cons_of_mem _ (List.mem_cons_of_mem _ (List.mem_cons_of_mem _ (List.mem_cons_of_mem _ (List.mem_cons_of_mem _ List.mem_cons_self)))))
  have hr_d : -2147483648 ≤ d ∧ d ≤ 2147483647 := hav (vI d) (List.mem_cons_of_mem _ (List.mem_cons_of_mem _ (List.mem_cons_of_mem _ (List.mem_cons_of_mem _ (List.mem_cons_of_mem _ (List.mem_cons_of_mem _ List.mem_cons_self))))))
  have hz : zX2_init.2.2.2.1 = some .boolean → ∀ (T' : Zt) (x : Int), po_X2_init T n c m u h a d T' (some (vI x)) → 0 ≤ x ∧ x ≤ 1 := fun h => by cases h
  have hth : T 152 n (-1) = 1 := ok_al (v := none) (by decide) (hav (vR 152 n) (by simp))
  show J_ zX2_init T (po_X2_init T n c m u h a d) 2 23 0 [some (vR 152 n), some (vR 100 c), some (vI m), some (vI u), some (vI h), some (vI a), some (vI d)] [] T
  refine j_blx (F := fX2) tb_X2 (nn_ _) bk_X2_init_0 bs_X2_init_0 hz (fun K hK => ?_)
  refine hK 1 _ [vR 152 n] T ?_
  refine j_objI (pc := 1) (lwq_3 (dqc_m (dqc_m (dqc_m (dqc_m (dqc_m (dqc_m (dqc_m (List.mem_of_getElem? (i := 1) rfl)))))))) rfl : Cond.methodLink RX2 3 Lib.objectInit ∈ lw_g) (lwq_1 (dqa_m (dqa_m (dqa_m (List.mem_of_getElem? (i := 3) rfl)))) rfl : Cond.instanceMethod Lib.objectInit ∈ lw_g) (lwq_1 (dqa_m (dqa_m (dqa_m (List.mem_of_getElem? (i := 4) rfl)))) rfl : Cond.code Lib.objectInit ⟨#[0xb1]⟩ 1 none ∈ lw_g) (by decide +kernel) (by decide) (by decide) (by decide) (by decide) ?_
  show J_ zX2_init T (po_X2_init T n c m u h a d) 2 23 4 _ [] T
  refine j_blx (F := fX2) tb_X2 (nn_ _) bk_X2_init_4 bs_X2_init_4 hz (fun K hK => ?_)
  refine hK 6 _ [vI (-1), vR 152 n] T ?_
  refine j_putW (pc := 6) (ci := 2) (j := 6) (z := (-1)) (by decide) (by decide) fW_X2_9 (by decide +kernel : (tf_ 152)[6]? = some (0, 0, (-1), 1)) (by decide) (by decide +kernel) rfl rfl (by omega) (by omega) ?_
  refine j_nm (fun U1 hU1 => ?_)
  have e2 := up_f hU1
  show J_ zX2_init T (po_X2_init T n c m u h a d) 2 23 9 _ [] U1
  refine j_blx (F := fX2) tb_X2 (nn_ _) bk_X2_init_9 bs_X2_init_9 hz (fun K hK => ?_)
  refine hK 11 _ [vI (-1), vR 152 n] U1 ?_
  refine j_putW (pc := 11) (ci := 2) (j := 7) (z := (-1)) (by decide) (by decide) fW_X2_15 (by decide +kernel : (tf_ 152)[7]? = some (0, 0, (-1), 7)) (by decide) (by decide +kernel) rfl rfl (by omega) (by omega) ?_
  refine j_nm (fun U3 hU3 => ?_)
  have e4 := up_f hU3
  show J_ zX2_init T (po_X2_init T n c m u h a d) 2 23 14 _ [] U3
  refine j_blx (F := fX2) tb_X2 (nn_ _) bk_X2_init_14 bs_X2_init_14 hz (fun K hK => ?_)
  refine hK 17 _ [vI 20, vR 152 n] U3 ?_
  have e6 : U3 448 n (-1) = T 448 n (-1) := (up_k hU3 (by exact Nat.ne_of_beq_eq_false rfl) n (-1)).trans (up_k hU1 (by exact Nat.ne_of_beq_eq_false rfl) n (-1))
  have e7 : U3 152 n (-1) = T 152 n (-1) := (up_j hU3 (by decide) 152 n).trans (up_j hU1 (by decide) 152 n)
  refine j_newI (bc' := 1) (bs' := 3) (pc := 17) (k := 448) (i := n) (by decide) (by decide +kernel : ta_ 448 = some (1, some 20, 0, 199)) (by decide) (by decide) (by show ¬ U3 448 n (-1) = 1; rw [e6]; exact hf8) (by omega) (by first | decide | omega) (by decide +kernel) (lwq_1 (dqc_m (dqc_m (dqa_m (List.mem_of_getElem? (i := 0) rfl)))) rfl : Cond.arrayClass .int ∈ lw_g) (fun o ho => by rw [show ow_ 448 = some 102 by decide] at ho; cases ho; exact Or.inr (show U3 152 n (-1) = 1 from (e7).trans hth)) ?_
  refine j_nm (fun U5 hU5 => ?_)
  have fU5 := nu_fr hU5
  have zU5 := nu_tz hU5
  have oU5 := nu_to hU5
  have vU5 := nu_tv hU5
  show J_ zX2_init T (po_X2_init T n c m u h a d) 1 3 19 _ [vR 448 n, vR 152 n] U5
  refine j_putW (pc := 19) (ci := 2) (j := 8) (z := n + 1) (by decide) (by decide) fW_X2_18 (by decide +kernel : (tf_ 152)[8]? = some (5, 448, (-2147483648), 2147483647)) (by decide) (by decide +kernel) (fv5_ (by omega)) rfl (by omega) (by omega) ?_
  refine j_nm (fun U8 hU8 => ?_)
  have e9 := up_f hU8
  show J_ zX2_init T (po_X2_init T n c m u h a d) 1 3 22 _ [] U8
  refine j_blx (F := fX2) tb_X2 (nn_ _) bk_X2_init_22 bs_X2_init_22 hz (fun K hK => ?_)
  refine hK 24 _ [vI 2, vR 152 n] U8 ?_
  have e11 : U8 449 n (-1) = T 449 n (-1) := (up_k hU8 (by exact Nat.ne_of_beq_eq_false rfl) n (-1)).trans ((fU5 449 n (-1) rfl).trans ((up_k hU3 (by exact Nat.ne_of_beq_eq_false rfl) n (-1)).trans (up_k hU1 (by exact Nat.ne_of_beq_eq_false rfl) n (-1))))
  have e12 : U8 152 n (-1) = T 152 n (-1) := (up_j hU8 (by decide) 152 n).trans ((fU5 152 n (-1) rfl).trans ((up_j hU3 (by decide) 152 n).trans (up_j hU1 (by decide) 152 n)))
  refine j_newI (bc' := 0) (bs' := 1) (pc := 24) (k := 449) (i := n) (by decide) (by decide +kernel : ta_ 449 = some (1, some 2, 0, 10)) (by decide) (by decide) (by show ¬ U8 449 n (-1) = 1; rw [e11]; exact hf9) (by omega) (by first | decide | omega) (by decide +kernel) (lwq_1 (dqc_m (dqc_m (dqa_m (List.mem_of_getElem? (i := 0) rfl)))) rfl : Cond.arrayClass .int ∈ lw_g) (fun o ho => by rw [show ow_ 449 = some 102 by decide] at ho; cases ho; exact Or.inr (show U8 152 n (-1) = 1 from (e12).trans hth)) ?_
  refine j_nm (fun U10 hU10 => ?_)
  have fU10 := nu_fr hU10
  have zU10 := nu_tz hU10
  have oU10 := nu_to hU10
  have vU10 := nu_tv hU10
  show J_ zX2_init T (po_X2_init T n c m u h a d) 0 1 26 _ [vR 449 n, vR 152 n] U10
  refine j_putW (pc := 26) (ci := 2) (j := 9) (z := n + 1) (by decide) (by decide) fW_X2_22 (by decide +kernel : (tf_ 152)[9]? = some (5, 449, (-2147483648), 2147483647)) (by decide) (by decide +kernel) (fv5_ (by omega)) rfl (by omega) (by omega) ?_
  refine j_nm (fun U13 hU13 => ?_)
  have e14 := up_f hU13
  show J_ zX2_init T (po_X2_init T n c m u h a d) 0 1 29 _ [] U13
  refine j_blx (F := fX2) tb_X2 (nn_ _) bk_X2_init_29 bs_X2_init_29 hz (fun K hK => ?_)
  refine hK 31 _ [vR 100 c, vR 152 n] U13 ?_
  refine j_putW (pc := 31) (ci := 2) (j := 0) (z := c + 1) (by decide) (by decide) fW_X2_25 (by decide +kernel : (tf_ 152)[0]? = some (5, 100, (-2147483648), 2147483647)) (by decide) (by decide +kernel) (fv5_ (by omega)) rfl (by omega) (by omega) ?_
  refine j_nm (fun U15 hU15 => ?_)
  have e16 := up_f hU15
  show J_ zX2_init T (po_X2_init T n c m u h a d) 0 1 34 _ [] U15
  refine j_blx (F := fX2) tb_X2 (nn_ _) bk_X2_init_34 bs_X2_init_34 hz (fun K hK => ?_)
  refine hK 36 _ [vI m, vR 152 n] U15 ?_
  refine j_putW (pc := 36) (ci := 2) (j := 1) (z := m) (by decide) (by decide) fW_X2_29 (by decide +kernel : (tf_ 152)[1]? = some (0, 0, 0, 399)) (by decide) (by decide +kernel) rfl rfl (by omega) (by omega) ?_
  refine j_nm (fun U17 hU17 => ?_)
  have e18 := up_f hU17
  show J_ zX2_init T (po_X2_init T n c m u h a d) 0 1 39 _ [] U17
  refine j_blx (F := fX2) tb_X2 (nn_ _) bk_X2_init_39 bs_X2_init_39 hz (fun K hK => ?_)
  refine hK 41 _ [vI u, vR 152 n] U17 ?_
  refine j_putW (pc := 41) (ci := 2) (j := 2) (z := u) (by decide) (by decide) fW_X2_32 (by decide +kernel : (tf_ 152)[2]? = some (0, 0, (-2147483648), 2147483647)) (by decide) (by decide +kernel) rfl rfl (by omega) (by omega) ?_
  refine j_nm (fun U19 hU19 => ?_)
  have e20 := up_f hU19
  show J_ zX2_init T (po_X2_init T n c m u h a d) 0 1 44 _ [] U19
  refine j_blx (F := fX2) tb_X2 (nn_ _) bk_X2_init_44 bs_X2_init_44 hz (fun K hK => ?_)
  refine hK 47 _ [vI h, vR 152 n] U19 ?_
  refine j_putW (pc := 47) (ci := 2) (j := 3) (z := h) (by decide) (by decide) fW_X2_35 (by decide +kernel : (tf_ 152)[3]? = some (0, 0, 0, 11)) (by decide) (by decide +kernel) rfl rfl (by omega) (by omega) ?_
  refine j_nm (fun U21 hU21 => ?_)
  have e22 := up_f hU21
  show J_ zX2_init T (po_X2_init T n c m u h a d) 0 1 50 _ [] U21
  refine j_blx (F := fX2) tb_X2 (nn_ _) bk_X2_init_50 bs_X2_init_50 hz (fun K hK => ?_)
  refine hK 53 _ [vI a, vR 152 n] U21 ?_
  refine j_putW (pc := 53) (ci := 2) (j := 4) (z := a) (by decide) (by decide) fW_X2_38 (by decide +kernel : (tf_ 152)[4]? = some (0, 0, 0, 11)) (by decide) (by decide +kernel) rfl rfl (by omega) (by omega) ?_
  refine j_nm (fun U23 hU23 => ?_)
  have e24 := up_f hU23
  show J_ zX2_init T (po_X2_init T n c m u h a d) 0 1 56 _ [] U23
  refine j_blx (F := fX2) tb_X2 (nn_ _) bk_X2_init_56 bs_X2_init_56 hz (fun K hK => ?_)
  refine hK 59 _ [vI d, vR 152 n] U23 ?_
  refine j_putW (pc := 59) (ci := 2) (j := 5) (z := d) (by decide) (by decide) fW_X2_41 (by decide +kernel : (tf_ 152)[5]? = some (0, 0, 0, 999)) (by decide) (by decide +kernel) rfl rfl (by omega) (by omega) ?_
  refine j_nm (fun U25 hU25 => ?_)
  have e26 := up_f hU25
  show J_ zX2_init T (po_X2_init T n c m u h a d) 0 1 62 _ [] U25
  refine j_blx (F := fX2) tb_X2 (nn_ _) bk_X2_init_62 bs_X2_init_62 hz (fun K hK => ?_)
  refine (show po_X2_init T n c m u h a d U25 (none) from ?_)
  have e27 : U25 152 n 0 = c + 1 := (up_j hU25 (by decide) 152 n).trans ((up_j hU23 (by decide) 152 n).trans ((up_j hU21 (by decide) 152 n).trans ((up_j hU19 (by decide) 152 n).trans ((up_j hU17 (by decide) 152 n).trans (up_f hU15)))))
  have e28 : U25 152 n 1 = m := (up_j hU25 (by decide) 152 n).trans ((up_j hU23 (by decide) 152 n).trans ((up_j hU21 (by decide) 152 n).trans ((up_j hU19 (by decide) 152 n).trans (up_f hU17))))
  have e29 : U25 152 n 2 = u := (up_j hU25 (by decide) 152 n).trans ((up_j hU23 (by decide) 152 n).trans ((up_j hU21 (by decide) 152 n).trans (up_f hU19)))
  have e30 : U25 152 n 3 = h := (up_j hU25 (by decide) 152 n).trans ((up_j hU23 (by decide) 152 n).trans (up_f hU21))
  have e31 : U25 152 n 4 = a := (up_j hU25 (by decide) 152 n).trans (up_f hU23)
  have e32 : U25 152 n 5 = d := up_f hU25
  have e33 : U25 152 n 6 = (-1) := (up_j hU25 (by decide) 152 n).trans ((up_j hU23 (by decide) 152 n).trans ((up_j hU21 (by decide) 152 n).trans ((up_j hU19 (by decide) 152 n).trans ((up_j hU17 (by decide) 152 n).trans ((up_j hU15 (by decide) 152 n).trans ((up_j hU13 (by decide) 152 n).trans ((fU10 152 n 6 rfl).trans ((up_j hU8 (by decide) 152 n).trans ((fU5 152 n 6 rfl).trans ((up_j hU3 (by decide) 152 n).trans (up_f hU1)))))))))))
  have e34 : U25 152 n 7 = (-1) := (up_j hU25 (by decide) 152 n).trans ((up_j hU23 (by decide) 152 n).trans ((up_j hU21 (by decide) 152 n).trans ((up_j hU19 (by decide) 152 n).trans ((up_j hU17 (by decide) 152 n).trans ((up_j hU15 (by decide) 152 n).trans ((up_j hU13 (by decide) 152 n).trans ((fU10 152 n 7 rfl).trans ((up_j hU8 (by decide) 152 n).trans ((fU5 152 n 7 rfl).trans (up_f hU3))))))))))
  have e35 : U25 152 n 8 = n + 1 := (up_j hU25 (by decide) 152 n).trans ((up_j hU23 (by decide) 152 n).trans ((up_j hU21 (by decide) 152 n).trans ((up_j hU19 (by decide) 152 n).trans ((up_j hU17 (by decide) 152 n).trans ((up_j hU15 (by decide) 152 n).trans ((up_j hU13 (by decide) 152 n).trans ((fU10 152 n 8 rfl).trans (up_f hU8))))))))
  have e36 : U25 152 n 9 = n + 1 := (up_j hU25 (by decide) 152 n).trans ((up_j hU23 (by decide) 152 n).trans ((up_j hU21 (by decide) 152 n).trans ((up_j hU19 (by decide) 152 n).trans ((up_j hU17 (by decide) 152 n).trans ((up_j hU15 (by decide) 152 n).trans (up_f hU13))))))
  have e37 : U25 152 n 10 = T 152 n 10 := (up_j hU25 (by decide) 152 n).trans ((up_j hU23 (by decide) 152 n).trans ((up_j hU21 (by decide) 152 n).trans ((up_j hU19 (by decide) 152 n).trans ((up_j hU17 (by decide) 152 n).trans ((up_j hU15 (by decide) 152 n).trans ((up_j hU13 (by decide) 152 n).trans ((fU10 152 n 10 rfl).trans ((up_j hU8 (by decide) 152 n).trans ((fU5 152 n 10 rfl).trans ((up_j hU3 (by decide) 152 n).trans (up_j hU1 (by decide) 152 n)))))))))))
  exact ⟨rfl, fr_u (fr_u (fr_u (fr_u (fr_u (fr_u (fr_u (fr_t (fr_u (fr_t (fr_u (fr_u (fr_0 _ _) hU1 rfl) hU3 rfl) (fr_s fU5 rfl)) hU8 rfl) (fr_s fU10 rfl)) hU13 rfl) hU15 rfl) hU17 rfl) hU19 rfl) hU21 rfl) hU23 rfl) hU25 rfl, oi_u (oi_u (oi_u (oi_u (oi_u (oi_u (oi_u (oi_n (oi_u (oi_n (oi_u (oi_u (oi_r) hU1) hU3) oU5) hU8) oU10) hU13) hU15) hU17) hU19) hU21) hU23) hU25, by omega, by omega, fun j hj => ((up_k hU25 (by exact Nat.ne_of_beq_eq_false rfl) _ _).trans ((up_k hU23 (by exact Nat.ne_of_beq_eq_false rfl) _ _).trans ((up_k hU21 (by exact Nat.ne_of_beq_eq_false rfl) _ _).trans ((up_k hU19 (by exact Nat.ne_of_beq_eq_false rfl) _ _).trans ((up_k hU17 (by exact Nat.ne_of_beq_eq_false rfl) _ _).trans ((up_k hU15 (by exact Nat.ne_of_beq_eq_false rfl) _ _).trans ((up_k hU13 (by exact Nat.ne_of_beq_eq_false rfl) _ _).trans ((fU10 448 _ _ rfl).trans (up_k hU8 (by exact Nat.ne_of_beq_eq_false rfl) _ _))))))))).trans (zU5 _ (by omega)), fun j hj => ((up_k hU25 (by exact Nat.ne_of_beq_eq_false rfl) _ _).trans ((up_k hU23 (by exact Nat.ne_of_beq_eq_false rfl) _ _).trans ((up_k hU21 (by exact Nat.ne_of_beq_eq_false rfl) _ _).trans ((up_k hU19 (by exact Nat.ne_of_beq_eq_false rfl) _ _).trans ((up_k hU17 (by exact Nat.ne_of_beq_eq_false rfl) _ _).trans ((up_k hU15 (by exact Nat.ne_of_beq_eq_false rfl) _ _).trans (up_k hU13 (by exact Nat.ne_of_beq_eq_false rfl) _ _))))))).trans (zU10 _ (by omega))⟩
abbrev po_J7_fill_404 (T : Zt) (p : Int) (v : Int) : Zt → Option Zv → Prop := fun T' r => r = none ∧ fr_ [(404, [])] T T' ∧ oi_ T T' p ∧ ∀ j, 0 ≤ j → j < 12 → T' 404 p j = v
set_option maxHeartbeats 4000000 in
theorem ct_J7_fill_404 {T : Zt} {p : Int} {v : Int} (h1 : (-1) ≤ v ∧ v ≤ 11) : Ct_ yJ7_fill_53178 zJ7_fill_53178 T [vR 404 p, vI v] (po_J7_fill_404 T p v) := by
  refine ct_of (by decide) rfl rfl (Nat.le_of_ble_eq_true rfl) (fun hT hav => ?_)
  have hr_v : -2147483648 ≤ v ∧ v ≤ 2147483647 := hav (vI v) (List.mem_cons_of_mem _ List.mem_cons_self)
  have hz : zJ7_fill_53178.2.2.2.1 = some .boolean → ∀ (T' : Zt) (x : Int), po_J7_fill_404 T p v T' (some (vI x)) → 0 ≤ x ∧ x ≤ 1 := fun h => by cases h
  show J_ zJ7_fill_53178 T (po_J7_fill_404 T p v) 0 0 0 [some (vR 404 p), some (vI v), none, none] [] T
  have c_5 : ∀ (nn : Nat) (j : Int) (T1 : Zt), ((12 - j).toNat) ≤ nn → (fr_ [(404, [])] T T1) → (0 ≤ j ∧ j ≤ 12) → (oi_ T T1 p) → (∀ q, 0 ≤ q → q < j → T1 404 p q = v) → J_ zJ7_fill_53178 T (po_J7_fill_404 T p v) 0 0 5 [some (vR 404 p), some (vI v), some (vI j), some (vI 12)] [] T1 := by
    intro nn
    induction nn using Nat.strongRecOn with
    | _ nn ih_5 =>
      intro j T1 hm_5 hf_5 i1 o1 f1
      replace hm_5 := fun (_ : Unit) => hm_5
      refine j_blx (F := fJ7) tb_J7 (nn_ _) bk_J7_fill_53178_5 bs_J7_fill_53178_5 hz (fun K hK => ?_)
      refine And.intro (fun c1 => ?_) (fun c1 => ?_)
      · refine hK 20 _ [] T1 ?_
        refine j_blx (F := fJ7) tb_J7 (nn_ _) bk_J7_fill_53178_20 bs_J7_fill_53178_20 hz (fun K hK => ?_)
        refine (show po_J7_fill_404 T p v T1 (none) from ?_)
        exact ⟨rfl, fr_t (fr_0 _ _) (fr_s hf_5 rfl), o1, fun q a b => f1 q a (by omega)⟩
      · refine iy_i (by omega) (by omega) ?_
        refine x_nm (fun U2 hU2 => ?_)
        have e3 := up_f hU2
        refine rg_i (by omega) ?_
        refine hK 5 [some (vR 404 p), some (vI v), some (vI (j + 1)), some (vI 12)] [] U2 ?_
        refine ih_5 _ ?_ (j + 1) U2 (Nat.le_refl _) ?_ ?_ ?_ ?_
        · have hm_5 := hm_5 (); omega
        · exact fr_u (fr_t (fr_0 _ _) (fr_s hf_5 rfl)) hU2 rfl
        · omega
        · exact oi_u o1 hU2
        · intro q a b
          by_cases z : q = j
          · rw [z]; exact up_f hU2
          · rw [up_g hU2 (fun y => z y.2.2)]; exact f1 q a (by omega)
  refine j_blx (F := fJ7) tb_J7 (nn_ _) bk_J7_fill_53178_0 bs_J7_fill_53178_0 hz (fun K hK => ?_)
  refine hK 5 [some (vR 404 p), some (vI v), some (vI 0), some (vI 12)] [] T ?_
  refine c_5 _ 0 T (Nat.le_refl _) ?_ ?_ ?_ ?_
  · exact fr_0 _ _
  · omega
  · exact oi_r
  · intro q a b; omega
abbrev cX0_init : ByteArray := prog_2_method_1_code
def yX0_init : MethodName := ⟨RX0, "<init>", "(I[I[I)V"⟩
def zX0_init : Zm := (RX0, cX0_init, 4, none, { frames := 1, cells := 2, slots := 25, locals := 30 })
theorem bk_X0_init_0 : ck_ fX0 none cX0_init 0 [.aload 0] 1 = true := qck_r (nn_ _) (by decide +kernel)
theorem bs_X0_init_0 {P : Zt → Option Zv → Prop} (K : Int → Zl → List Zv → Zt → Prop) : sx_ K P [.aload 0] 1 = x_aload 0 (K 1) := ((xe_aload 0).trans (congrArg (x_aload 0) xe_nil))
theorem bk_X0_init_4 : ck_ fX0 none cX0_init 4 [.aload 0, .iconst 12] 7 = true := qck_r (nn_ _) (by decide +kernel)
theorem bs_X0_init_4 {P : Zt → Option Zv → Prop} (K : Int → Zl → List Zv → Zt → Prop) : sx_ K P [.aload 0, .iconst 12] 7 = x_aload 0 (x_iconst 12 (K 7)) := ((xe_aload 0).trans (congrArg (x_aload 0) ((xe_iconst 12).trans (congrArg (x_iconst 12) xe_nil))))
theorem fW_X0_9 : fW_ RX0 9 0 3 false := ⟨_, _, _, rfl, by decide, by decide, (lwq_3 (dqc_m (dqc_m (dqa_m (dqa_m (dqa_m (List.mem_of_getElem? (i := 3) rfl)))))) rfl : Cond.fieldLink RX0 9 _ _ _ ∈ lw_g), rfl, .array .int, by decide +kernel, fun _ _ => ⟨rfl, rfl⟩, (fun _ h => by cases h)⟩
theorem bk_X0_init_12 : ck_ fX0 none cX0_init 12 [.aload 0, .iconst 12] 15 = true := qck_r (nn_ _) (by decide +kernel)
theorem bs_X0_init_12 {P : Zt → Option Zv → Prop} (K : Int → Zl → List Zv → Zt → Prop) : sx_ K P [.aload 0, .iconst 12] 15 = x_aload 0 (x_iconst 12 (K 15)) := ((xe_aload 0).trans (congrArg (x_aload 0) ((xe_iconst 12).trans (congrArg (x_iconst 12) xe_nil))))
theorem fW_X0_15 : fW_ RX0 15 0 4 false := ⟨_, _, _, rfl, by decide, by decide, (lwq_3 (dqc_m (dqc_m (dqc_m (List.mem_of_getElem? (i := 0) rfl)))) rfl : Cond.fieldLink RX0 15 _ _ _ ∈ lw_g), rfl, .array .int, by decide +kernel, fun _ _ => ⟨rfl, rfl⟩, (fun _ h => by cases h)⟩
theorem bk_X0_init_20 : ck_ fX0 none cX0_init 20 [.aload 0, .iload 1] 22 = true := qck_r (nn_ _) (by decide +kernel)
theorem bs_X0_init_20 {P : Zt → Option Zv → Prop} (K : Int → Zl → List Zv → Zt → Prop) : sx_ K P [.aload 0, .iload 1] 22 = x_aload 0 (x_iload 1 (K 22)) := ((xe_aload 0).trans (congrArg (x_aload 0) ((xe_iload 1).trans (congrArg (x_iload 1) xe_nil))))
theorem fW_X0_18 : fW_ RX0 18 0 0 true := ⟨_, _, _, rfl, by decide, by decide, (lwq_3 (dqc_m (dqc_m (dqa_m (List.mem_of_getElem? (i := 7) rfl)))) rfl : Cond.fieldLink RX0 18 _ _ _ ∈ lw_g), rfl, .int, by decide +kernel, (fun _ h => by cases h), fun _ _ => ⟨rfl, rfl⟩⟩
theorem bk_X0_init_25 : ck_ fX0 none cX0_init 25 [.aload 0, .aload 2] 27 = true := qck_r (nn_ _) (by decide +kernel)
theorem bs_X0_init_25 {P : Zt → Option Zv → Prop} (K : Int → Zl → List Zv → Zt → Prop) : sx_ K P [.aload 0, .aload 2] 27 = x_aload 0 (x_aload 2 (K 27)) := ((xe_aload 0).trans (congrArg (x_aload 0) ((xe_aload 2).trans (congrArg (x_aload 2) xe_nil))))
theorem fW_X0_22 : fW_ RX0 22 0 1 false := ⟨_, _, _, rfl, by decide, by decide, (lwq_3 (dqc_m (dqc_m (dqa_m (dqa_m (List.mem_of_getElem? (i := 2) rfl))))) rfl : Cond.fieldLink RX0 22 _ _ _ ∈ lw_g), rfl, .array .int, by decide +kernel, fun _ _ => ⟨rfl, rfl⟩, (fun _ h => by cases h)⟩
theorem bk_X0_init_30 : ck_ fX0 none cX0_init 30 [.aload 0, .aload 3] 32 = true := qck_r (nn_ _) (by decide +kernel)
theorem bs_X0_init_30 {P : Zt → Option Zv → Prop} (K : Int → Zl → List Zv → Zt → Prop) : sx_ K P [.aload 0, .aload 3] 32 = x_aload 0 (x_aload 3 (K 32)) := ((xe_aload 0).trans (congrArg (x_aload 0) ((xe_aload 3).trans (congrArg (x_aload 3) xe_nil))))
theorem fW_X0_25 : fW_ RX0 25 0 2 false := ⟨_, _, _, rfl, by decide, by decide, (lwq_3 (dqc_m (dqc_m (dqa_m (dqa_m (dqa_m (List.mem_of_getElem? (i := 0) rfl)))))) rfl : Cond.fieldLink RX0 25 _ _ _ ∈ lw_g), rfl, .array .int, by decide +kernel, fun _ _ => ⟨rfl, rfl⟩, (fun _ h => by cases h)⟩
theorem bk_X0_init_35 : ck_ fX0 none cX0_init 35 [.aload 0] 36 = true := qck_r (nn_ _) (by decide +kernel)
theorem bs_X0_init_35 {P : Zt → Option Zv → Prop} (K : Int → Zl → List Zv → Zt → Prop) : sx_ K P [.aload 0] 36 = x_aload 0 (K 36) := ((xe_aload 0).trans (congrArg (x_aload 0) xe_nil))
theorem bk_X0_init_39 : ck_ fX0 none cX0_init 39 [.iconst (-1)] 40 = true := qck_r (nn_ _) (by decide +kernel)
theorem bs_X0_init_39 {P : Zt → Option Zv → Prop} (K : Int → Zl → List Zv → Zt → Prop) : sx_ K P [.iconst (-1)] 40 = x_iconst (-1) (K 40) := ((xe_iconst (-1)).trans (congrArg (x_iconst (-1)) xe_nil))
set_option maxRecDepth 100000 in
theorem cl_X0_28 : cs_ RX0 28 yJ7_fill_53178 zJ7_fill_53178 2 := ⟨gi_S (lwq_3 (dqc_m (dqc_m (dqa_m (List.mem_of_getElem? (i := 6) rfl)))) rfl : Cond.methodLink RX0 28 yJ7_fill_53178 ∈ lw_g) (lwq_2 (dqa_m (dqa_m (dqa_m (List.mem_of_getElem? (i := 2) rfl)))) rfl : Cond.static yJ7_fill_53178 ∈ lw_g) (lwq_1 (List.mem_of_getElem? (i := 7) rfl) rfl : Cond.initialized yJ7_fill_53178.cls ∈ lw_g) (lwq_2 (dqa_m (dqa_m (dqa_m (List.mem_of_getElem? (i := 3) rfl)))) rfl : Cond.code yJ7_fill_53178 cJ7_fill_53178 4 none ∈ lw_g), ⟨by decide, by decide, by decide +kernel⟩⟩
theorem bk_X0_init_43 : ck_ fX0 none cX0_init 43 [.return_] 44 = true := qck_r (nn_ _) (by decide +kernel)
theorem bs_X0_init_43 {P : Zt → Option Zv → Prop} (K : Int → Zl → List Zv → Zt → Prop) : sx_ K P [.return_] 44 = x_return_ P := (xe_return_)
abbrev po_X0_init (T : Zt) (n : Int) (m : Int) : Zt → Option Zv → Prop := fun T' r => r = none ∧ fr_ [(150, []), (403, []), (404, [])] T T' ∧ (oi_ T T' n ∧ (T' 150 n 0 = m ∧ T' 150 n 1 = n + 1 ∧ T' 150 n 2 = n + 1 ∧ T' 150 n 3 = n + 1 ∧ T' 150 n 4 = n + 1) ∧ (T' 150 n 5 = T 150 n 5 ∧ T' 150 n 6 = T 150 n 6 ∧ T' 150 n 7 = T 150 n 7 ∧ T' 150 n 8 = T 150 n 8) ∧ ∀ j, 0 ≤ j → j < 12 → T' 404 n j = -1)
set_option maxHeartbeats 4000000 in
theorem ct_X0_init {T : Zt} {n : Int} {m : Int} (h1 : 0 ≤ n ∧ n ≤ 3 ∧ 0 ≤ m ∧ m ≤ 3) (hf3 : ¬ T 403 n (-1) = 1) (hf4 : ¬ T 404 n (-1) = 1) : Ct_ yX0_init zX0_init T [vR 150 n, vI m, vR 401 n, vR 402 n] (po_X0_init T n m) := by
  refine ct_of pn_0 rfl rfl (Nat.le_of_ble_eq_true rfl) (fun hT hav => ?_)
  have hr_m : -2147483648 ≤ m ∧ m ≤ 2147483647 := hav (vI m) (List.mem_cons_of_mem _ List.mem_cons_self)
  have hz : zX0_init.2.2.2.1 = some .boolean → ∀ (T' : Zt) (x : Int), po_X0_init T n m T' (some (vI x)) → 0 ≤ x ∧ x ≤ 1 := fun h => by cases h
  have hth : T 150 n (-1) = 1 := ok_al (v := none) (by decide) (hav (vR 150 n) (by simp))
  show J_ zX0_init T (po_X0_init T n m) 2 25 0 [some (vR 150 n), some (vI m), some (vR 401 n), some (vR 402 n)] [] T
  refine j_blx (F := fX0) tb_X0 (nn_ _) bk_X0_init_0 bs_X0_init_0 hz (fun K hK => ?_)
  refine hK 1 _ [vR 150 n] T ?_
  refine j_objI (pc := 1) (lwq_3 (dqc_m (dqc_m (dqa_m (List.mem_of_getElem? (i := 5) rfl)))) rfl : Cond.methodLink RX0 3 Lib.objectInit ∈ lw_g) (lwq_1 (dqa_m (dqa_m (dqa_m (List.mem_of_getElem? (i := 3) rfl)))) rfl : Cond.instanceMethod Lib.objectInit ∈ lw_g) (lwq_1 (dqa_m (dqa_m (dqa_m (List.mem_of_getElem? (i := 4) rfl)))) rfl : Cond.code Lib.objectInit ⟨#[0xb1]⟩ 1 none ∈ lw_g) (by decide +kernel) (by decide) (by decide) (by decide) (by decide) ?_
  show J_ zX0_init T (po_X0_init T n m) 2 25 4 _ [] T
  refine j_blx (F := fX0) tb_X0 (nn_ _) bk_X0_init_4 bs_X0_init_4 hz (fun K hK => ?_)
  refine hK 7 _ [vI 12, vR 150 n] T ?_
  refine j_newI (bc' := 1) (bs' := 13) (pc := 7) (k := 403) (i := n) (by decide) (by decide +kernel : ta_ 403 = some (1, some 12, 0, 11)) (by decide) (by decide) (hf3) (by omega) (by first | decide | omega) (by decide +kernel) (lwq_1 (dqc_m (dqc_m (dqa_m (List.mem_of_getElem? (i := 0) rfl)))) rfl : Cond.arrayClass .int ∈ lw_g) (fun o ho => by rw [show ow_ 403 = some 100 by decide] at ho; cases ho; exact Or.inr (show T 150 n (-1) = 1 from hth)) ?_
  refine j_nm (fun U1 hU1 => ?_)
  have fU1 := nu_fr hU1
  have zU1 := nu_tz hU1
  have oU1 := nu_to hU1
  have vU1 := nu_tv hU1
  show J_ zX0_init T (po_X0_init T n m) 1 13 9 _ [vR 403 n, vR 150 n] U1
  refine j_putW (pc := 9) (ci := 0) (j := 3) (z := n + 1) (by decide) (by decide) fW_X0_9 (by decide +kernel : (tf_ 150)[3]? = some (5, 403, (-2147483648), 2147483647)) (by decide) (by decide +kernel) (fv5_ (by omega)) rfl (by omega) (by omega) ?_
  refine j_nm (fun U2 hU2 => ?_)
  have e3 := up_f hU2
  show J_ zX0_init T (po_X0_init T n m) 1 13 12 _ [] U2
  refine j_blx (F := fX0) tb_X0 (nn_ _) bk_X0_init_12 bs_X0_init_12 hz (fun K hK => ?_)
  refine hK 15 _ [vI 12, vR 150 n] U2 ?_
  have e5 : U2 404 n (-1) = T 404 n (-1) := (up_k hU2 (by exact Nat.ne_of_beq_eq_false rfl) n (-1)).trans (fU1 404 n (-1) rfl)
  have e6 : U2 150 n (-1) = T 150 n (-1) := (up_j hU2 (by decide) 150 n).trans (fU1 150 n (-1) rfl)
  refine j_newI (bc' := 0) (bs' := 1) (pc := 15) (k := 404) (i := n) (by decide) (by decide +kernel : ta_ 404 = some (1, some 12, (-1), 11)) (by decide) (by decide) (by show ¬ U2 404 n (-1) = 1; rw [e5]; exact hf4) (by omega) (by first | decide | omega) (by decide +kernel) (lwq_1 (dqc_m (dqc_m (dqa_m (List.mem_of_getElem? (i := 0) rfl)))) rfl : Cond.arrayClass .int ∈ lw_g) (fun o ho => by rw [show ow_ 404 = some 100 by decide] at ho; cases ho; exact Or.inr (show U2 150 n (-1) = 1 from (e6).trans hth)) ?_
  refine j_nm (fun U4 hU4 => ?_)
  have fU4 := nu_fr hU4
  have zU4 := nu_tz hU4
  have oU4 := nu_to hU4
  have vU4 := nu_tv hU4
  show J_ zX0_init T (po_X0_init T n m) 0 1 17 _ [vR 404 n, vR 150 n] U4
  refine j_putW (pc := 17) (ci := 0) (j := 4) (z := n + 1) (by decide) (by decide) fW_X0_15 (by decide +kernel : (tf_ 150)[4]? = some (5, 404, (-2147483648), 2147483647)) (by decide) (by decide +kernel) (fv5_ (by omega)) rfl (by omega) (by omega) ?_
  refine j_nm (fun U7 hU7 => ?_)
  have e8 := up_f hU7
  show J_ zX0_init T (po_X0_init T n m) 0 1 20 _ [] U7
  refine j_blx (F := fX0) tb_X0 (nn_ _) bk_X0_init_20 bs_X0_init_20 hz (fun K hK => ?_)
  refine hK 22 _ [vI m, vR 150 n] U7 ?_
  refine j_putW (pc := 22) (ci := 0) (j := 0) (z := m) (by decide) (by decide) fW_X0_18 (by decide +kernel : (tf_ 150)[0]? = some (0, 0, 0, 3)) (by decide) (by decide +kernel) rfl rfl (by omega) (by omega) ?_
  refine j_nm (fun U9 hU9 => ?_)
  have e10 := up_f hU9
  show J_ zX0_init T (po_X0_init T n m) 0 1 25 _ [] U9
  refine j_blx (F := fX0) tb_X0 (nn_ _) bk_X0_init_25 bs_X0_init_25 hz (fun K hK => ?_)
  refine hK 27 _ [vR 401 n, vR 150 n] U9 ?_
  refine j_putW (pc := 27) (ci := 0) (j := 1) (z := n + 1) (by decide) (by decide) fW_X0_22 (by decide +kernel : (tf_ 150)[1]? = some (5, 401, (-2147483648), 2147483647)) (by decide) (by decide +kernel) (fv5_ (by omega)) rfl (by omega) (by omega) ?_
  refine j_nm (fun U11 hU11 => ?_)
  have e12 := up_f hU11
  show J_ zX0_init T (po_X0_init T n m) 0 1 30 _ [] U11
  refine j_blx (F := fX0) tb_X0 (nn_ _) bk_X0_init_30 bs_X0_init_30 hz (fun K hK => ?_)
  refine hK 32 _ [vR 402 n, vR 150 n] U11 ?_
  refine j_putW (pc := 32) (ci := 0) (j := 2) (z := n + 1) (by decide) (by decide) fW_X0_25 (by decide +kernel : (tf_ 150)[2]? = some (5, 402, (-2147483648), 2147483647)) (by decide) (by decide +kernel) (fv5_ (by omega)) rfl (by omega) (by omega) ?_
  refine j_nm (fun U13 hU13 => ?_)
  have e14 := up_f hU13
  show J_ zX0_init T (po_X0_init T n m) 0 1 35 _ [] U13
  refine j_blx (F := fX0) tb_X0 (nn_ _) bk_X0_init_35 bs_X0_init_35 hz (fun K hK => ?_)
  refine hK 36 _ [vR 150 n] U13 ?_
  have e15 : U13 150 n 4 = n + 1 := (up_j hU13 (by decide) 150 n).trans ((up_j hU11 (by decide) 150 n).trans ((up_j hU9 (by decide) 150 n).trans (up_f hU7)))
  refine j_getW (pc := 36) (ci := 0) (j := 4) (v := vR 404 n) (by decide) (by decide) vi_0 (by decide) (lwq_3 (dqc_m (dqc_m (dqc_m (List.mem_of_getElem? (i := 0) rfl)))) rfl : Cond.fieldLink RX0 15 _ _ _ ∈ lw_g) (by decide +kernel : (tf_ 150)[4]? = some (5, 404, (-2147483648), 2147483647)) (by decide +kernel) (by rw [show (((4 : Nat) : Int)) = 4 from rfl, e15]; exact fv5_ (by omega)) ?_
  show J_ zX0_init T (po_X0_init T n m) 0 1 39 _ [vR 404 n] U13
  refine j_blx (F := fX0) tb_X0 (nn_ _) bk_X0_init_39 bs_X0_init_39 hz (fun K hK => ?_)
  refine hK 40 _ [vI (-1), vR 404 n] U13 ?_
  refine j_callS (y := yJ7_fill_53178) (Yc := zJ7_fill_53178) (rest := []) [vR 404 n, vI (-1)] (ct_J7_fill_404 (T := U13) (by omega)) cl_X0_28 (qd_c (by decide +kernel)) (nn_ _) rfl (rf_of rfl) (Nat.le_of_ble_eq_true rfl) (Nat.le_of_ble_eq_true rfl) (Nat.le_of_ble_eq_true rfl) rfl ?_
  rintro U16 _ ⟨rfl, fU16, qU16o, qU16⟩
  show J_ zX0_init T (po_X0_init T n m) 0 1 43 _ [] U16
  refine j_blx (F := fX0) tb_X0 (nn_ _) bk_X0_init_43 bs_X0_init_43 hz (fun K hK => ?_)
  refine (show po_X0_init T n m U16 (none) from ?_)
  have e17 : U16 150 n 0 = m := (fU16 150 n 0 rfl).trans ((up_j hU13 (by decide) 150 n).trans ((up_j hU11 (by decide) 150 n).trans (up_f hU9)))
  have e18 : U16 150 n 1 = n + 1 := (fU16 150 n 1 rfl).trans ((up_j hU13 (by decide) 150 n).trans (up_f hU11))
  have e19 : U16 150 n 2 = n + 1 := (fU16 150 n 2 rfl).trans (up_f hU13)
  have e20 : U16 150 n 3 = n + 1 := (fU16 150 n 3 rfl).trans ((up_j hU13 (by decide) 150 n).trans ((up_j hU11 (by decide) 150 n).trans ((up_j hU9 (by decide) 150 n).trans ((up_j hU7 (by decide) 150 n).trans ((fU4 150 n 3 rfl).trans (up_f hU2))))))
  have e21 : U16 150 n 4 = n + 1 := (fU16 150 n 4 rfl).trans ((up_j hU13 (by decide) 150 n).trans ((up_j hU11 (by decide) 150 n).trans ((up_j hU9 (by decide) 150 n).trans (up_f hU7))))
  have e22 : U16 150 n 5 = T 150 n 5 := (fU16 150 n 5 rfl).trans ((up_j hU13 (by decide) 150 n).trans ((up_j hU11 (by decide) 150 n).trans ((up_j hU9 (by decide) 150 n).trans ((up_j hU7 (by decide) 150 n).trans ((fU4 150 n 5 rfl).trans ((up_j hU2 (by decide) 150 n).trans (fU1 150 n 5 rfl)))))))
  have e23 : U16 150 n 6 = T 150 n 6 := (fU16 150 n 6 rfl).trans ((up_j hU13 (by decide) 150 n).trans ((up_j hU11 (by decide) 150 n).trans ((up_j hU9 (by decide) 150 n).trans ((up_j hU7 (by decide) 150 n).trans ((fU4 150 n 6 rfl).trans ((up_j hU2 (by decide) 150 n).trans (fU1 150 n 6 rfl)))))))
  have e24 : U16 150 n 7 = T 150 n 7 := (fU16 150 n 7 rfl).trans ((up_j hU13 (by decide) 150 n).trans ((up_j hU11 (by decide) 150 n).trans ((up_j hU9 (by decide) 150 n).trans ((up_j hU7 (by decide) 150 n).trans ((fU4 150 n 7 rfl).trans ((up_j hU2 (by decide) 150 n).trans (fU1 150 n 7 rfl)))))))
  have e25 : U16 150 n 8 = T 150 n 8 := (fU16 150 n 8 rfl).trans ((up_j hU13 (by decide) 150 n).trans ((up_j hU11 (by decide) 150 n).trans ((up_j hU9 (by decide) 150 n).trans ((up_j hU7 (by decide) 150 n).trans ((fU4 150 n 8 rfl).trans ((up_j hU2 (by decide) 150 n).trans (fU1 150 n 8 rfl)))))))
  exact ⟨rfl, fr_t (fr_u (fr_u (fr_u (fr_u (fr_t (fr_u (fr_t (fr_0 _ _) (fr_s fU1 rfl)) hU2 rfl) (fr_s fU4 rfl)) hU7 rfl) hU9 rfl) hU11 rfl) hU13 rfl) (fr_s fU16 rfl), oi_t (oi_u (oi_u (oi_u (oi_u (oi_n (oi_u (oi_n (oi_r) oU1) hU2) oU4) hU7) hU9) hU11) hU13) qU16o, by omega, by omega, fun j a b => qU16 j a b⟩
abbrev cX3_init : ByteArray := prog_5_method_1_code
def yX3_init : MethodName := ⟨RX3, "<init>", "([I[I[I)V"⟩
def zX3_init : Zm := (RX3, cX3_init, 4, none, { frames := 1, cells := 10, slots := 111, locals := 30 })
theorem fW_X3_9 : fW_ RX3 9 3 6 false := ⟨_, _, _, rfl, by decide, by decide, (lwq_4 (dqc_m (dqc_m (dqc_m (dqc_m (dqc_m (dqc_m (List.mem_of_getElem? (i := 2) rfl))))))) rfl : Cond.fieldLink RX3 9 _ _ _ ∈ lw_g), rfl, .array .int, by decide +kernel, fun _ _ => ⟨rfl, rfl⟩, (fun _ h => by cases h)⟩
theorem fW_X3_15 : fW_ RX3 15 3 7 false := ⟨_, _, _, rfl, by decide, by decide, (lwq_4 (dqc_m (dqc_m (dqc_m (dqc_m (dqc_m (dqc_m (List.mem_of_getElem? (i := 4) rfl))))))) rfl : Cond.fieldLink RX3 15 _ _ _ ∈ lw_g), rfl, .array .int, by decide +kernel, fun _ _ => ⟨rfl, rfl⟩, (fun _ h => by cases h)⟩
theorem fW_X3_18 : fW_ RX3 18 3 8 false := ⟨_, _, _, rfl, by decide, by decide, (lwq_4 (dqc_m (dqc_m (dqc_m (dqc_m (dqc_m (dqc_m (List.mem_of_getElem? (i := 6) rfl))))))) rfl : Cond.fieldLink RX3 18 _ _ _ ∈ lw_g), rfl, .array .int, by decide +kernel, fun _ _ => ⟨rfl, rfl⟩, (fun _ h => by cases h)⟩
theorem fW_X3_21 : fW_ RX3 21 3 9 false := ⟨_, _, _, rfl, by decide, by decide, (lwq_4 (dqc_m (dqc_m (dqc_m (dqc_m (dqc_m (dqc_m (dqa_m (List.mem_of_getElem? (i := 0) rfl)))))))) rfl : Cond.fieldLink RX3 21 _ _ _ ∈ lw_g), rfl, .array .int, by decide +kernel, fun _ _ => ⟨rfl, rfl⟩, (fun _ h => by cases h)⟩
theorem fW_X3_24 : fW_ RX3 24 3 10 false := ⟨_, _, _, rfl, by decide, by decide, (lwq_4 (dqc_m (dqc_m (dqc_m (dqc_m (dqc_m (dqc_m (dqa_m (List.mem_of_getElem? (i := 2) rfl)))))))) rfl : Cond.fieldLink RX3 24 _ _ _ ∈ lw_g), rfl, .array .int, by decide +kernel, fun _ _ => ⟨rfl, rfl⟩, (fun _ h => by cases h)⟩
theorem fW_X3_27 : fW_ RX3 27 3 11 false := ⟨_, _, _, rfl, by decide, by decide, (lwq_4 (dqc_m (dqc_m (dqc_m (dqc_m (dqc_m (dqc_m (dqa_m (List.mem_of_getElem? (i := 4) rfl)))))))) rfl : Cond.fieldLink RX3 27 _ _ _ ∈ lw_g), rfl, .array .int, by decide +kernel, fun _ _ => ⟨rfl, rfl⟩, (fun _ h => by cases h)⟩
theorem fW_X3_30 : fW_ RX3 30 3 12 false := ⟨_, _, _, rfl, by decide, by decide, (lwq_4 (dqc_m (dqc_m (dqc_m (dqc_m (dqc_m (dqc_m (dqa_m (List.mem_of_getElem? (i := 5) rfl)))))))) rfl : Cond.fieldLink RX3 30 _ _ _ ∈ lw_g), rfl, .array .int, by decide +kernel, fun _ _ => ⟨rfl, rfl⟩, (fun _ h => by cases h)⟩
theorem fW_X3_33 : fW_ RX3 33 3 13 false := ⟨_, _, _, rfl, by decide, by decide, (lwq_4 (dqc_m (dqc_m (dqc_m (dqc_m (dqc_m (dqc_m (dqa_m (List.mem_of_getElem? (i := 6) rfl)))))))) rfl : Cond.fieldLink RX3 33 _ _ _ ∈ lw_g), rfl, .array .int, by decide +kernel, fun _ _ => ⟨rfl, rfl⟩, (fun _ h => by cases h)⟩
theorem fW_X3_36 : fW_ RX3 36 3 14 false := ⟨_, _, _, rfl, by decide, by decide, (lwq_4 (dqc_m (dqc_m (dqc_m (dqc_m (dqc_m (dqc_m (dqa_m (dqa_m (List.mem_of_getElem? (i := 1) rfl))))))))) rfl : Cond.fieldLink RX3 36 _ _ _ ∈ lw_g), rfl, .array .int, by decide +kernel, fun _ _ => ⟨rfl, rfl⟩, (fun _ h => by cases h)⟩
theorem fW_X3_39 : fW_ RX3 39 3 16 false := ⟨_, _, _, rfl, by decide, by decide, (lwq_4 (dqc_m (dqc_m (dqc_m (dqc_m (dqc_m (dqc_m (dqa_m (dqa_m (List.mem_of_getElem? (i := 5) rfl))))))))) rfl : Cond.fieldLink RX3 39 _ _ _ ∈ lw_g), rfl, .array .int, by decide +kernel, fun _ _ => ⟨rfl, rfl⟩, (fun _ h => by cases h)⟩
theorem fW_X3_42 : fW_ RX3 42 3 0 false := ⟨_, _, _, rfl, by decide, by decide, (lwq_4 (dqc_m (dqc_m (dqc_m (dqc_m (dqc_m (dqa_m (dqa_m (dqa_m (List.mem_of_getElem? (i := 1) rfl))))))))) rfl : Cond.fieldLink RX3 42 _ _ _ ∈ lw_g), rfl, .array .int, by decide +kernel, fun _ _ => ⟨rfl, rfl⟩, (fun _ h => by cases h)⟩
theorem fW_X3_45 : fW_ RX3 45 3 1 false := ⟨_, _, _, rfl, by decide, by decide, (lwq_4 (dqc_m (dqc_m (dqc_m (dqc_m (dqc_m (dqa_m (dqa_m (dqa_m (List.mem_of_getElem? (i := 2) rfl))))))))) rfl : Cond.fieldLink RX3 45 _ _ _ ∈ lw_g), rfl, .array .int, by decide +kernel, fun _ _ => ⟨rfl, rfl⟩, (fun _ h => by cases h)⟩
theorem fW_X3_48 : fW_ RX3 48 3 2 false := ⟨_, _, _, rfl, by decide, by decide, (lwq_4 (dqc_m (dqc_m (dqc_m (dqc_m (dqc_m (dqa_m (dqa_m (dqa_m (List.mem_of_getElem? (i := 3) rfl))))))))) rfl : Cond.fieldLink RX3 48 _ _ _ ∈ lw_g), rfl, .array .int, by decide +kernel, fun _ _ => ⟨rfl, rfl⟩, (fun _ h => by cases h)⟩
theorem cv3_ {k : Nat} {x n : Int} (h : 1 ≤ x) : fv_ 3 k (x - 1) n = fv_ 5 k x n := by
  show vR k (x - 1) = (if x = 0 then vN else vR k (x - 1))
  rw [if_neg (by omega)]
def g0_ (T : Zt) (n j : Int) : Int := if False then T 150 n j - 1 else T 150 n j
theorem cg_0 {T : Zt} {n : Int} (hT : ok_T T) (hn : 0 ≤ n ∧ n ≤ 2000000000) (e1 : T 150 n 1 = n + 1) (e2 : T 150 n 2 = n + 1) (e3 : T 150 n 3 = n + 1) (e4 : T 150 n 4 = n + 1) : ∀ (j c k1 : Nat) (lo hi : Int), (tf_ 100)[j]? = some (c, k1, lo, hi) → ∃ c2 k2 lo2 hi2, (tf_ (100 + 50))[j]? = some (c2, k2, lo2, hi2) ∧ fv_ c k1 (g0_ T n j) n = fv_ c2 k2 (T (100 + 50) n j) n ∧ lo ≤ g0_ T n j ∧ g0_ T n j ≤ hi := by
  intro j c k1 lo hi h
  have hlt : j < 9 := by
    by_cases z : j < 9
    · exact z
    · rw [List.getElem?_eq_none (by rw [show (tf_ 100).length = 9 by decide +kernel]; omega)] at h; cases h
  match j, h, hlt with
  | 0, h, _ =>
    rw [show (tf_ 100)[0]? = some (0, 0, 0, 3) by decide +kernel] at h
    cases h
    have eg : g0_ T n (0 : Nat) = T 150 n 0 := by
      unfold g0_
      rw [if_neg (by decide)]
      rfl
    have hb : 0 ≤ T 150 n 0 ∧ T 150 n 0 ≤ 3 := bd_f hT 150 0 (by decide +kernel : (tf_ 150)[0]? = some (0, 0, 0, 3)) n
    rw [eg]
    exact ⟨0, 0, 0, 3, by decide +kernel, rfl, by omega, by omega⟩
  | 1, h, _ =>
    rw [show (tf_ 100)[1]? = some (2, 401, (-2147483648), 2147483647) by decide +kernel] at h
    cases h
    have eg : g0_ T n (1 : Nat) = T 150 n 1 := by
      unfold g0_
      rw [if_neg (by decide)]
      rfl
    have hb : (-2147483648) ≤ T 150 n 1 ∧ T 150 n 1 ≤ 2147483647 := bd_f hT 150 1 (by decide +kernel : (tf_ 150)[1]? = some (5, 401, (-2147483648), 2147483647)) n
    rw [eg]
    exact ⟨5, 401, (-2147483648), 2147483647, by decide +kernel, (by show vR 401 n = fv_ 5 401 (T 150 n 1) n; rw [e1]; exact (fv5_ hn.1).symm), by omega, by omega⟩
  | 2, h, _ =>
    rw [show (tf_ 100)[2]? = some (2, 402, (-2147483648), 2147483647) by decide +kernel] at h
    cases h
    have eg : g0_ T n (2 : Nat) = T 150 n 2 := by
      unfold g0_
      rw [if_neg (by decide)]
      rfl
    have hb : (-2147483648) ≤ T 150 n 2 ∧ T 150 n 2 ≤ 2147483647 := bd_f hT 150 2 (by decide +kernel : (tf_ 150)[2]? = some (5, 402, (-2147483648), 2147483647)) n
    rw [eg]
    exact ⟨5, 402, (-2147483648), 2147483647, by decide +kernel, (by show vR 402 n = fv_ 5 402 (T 150 n 2) n; rw [e2]; exact (fv5_ hn.1).symm), by omega, by omega⟩
  | 3, h, _ =>
    rw [show (tf_ 100)[3]? = some (2, 403, (-2147483648), 2147483647) by decide +kernel] at h
    cases h
    have eg : g0_ T n (3 : Nat) = T 150 n 3 := by
      unfold g0_
      rw [if_neg (by decide)]
      rfl
    have hb : (-2147483648) ≤ T 150 n 3 ∧ T 150 n 3 ≤ 2147483647 := bd_f hT 150 3 (by decide +kernel : (tf_ 150)[3]? = some (5, 403, (-2147483648), 2147483647)) n
    rw [eg]
    exact ⟨5, 403, (-2147483648), 2147483647, by decide +kernel, (by show vR 403 n = fv_ 5 403 (T 150 n 3) n; rw [e3]; exact (fv5_ hn.1).symm), by omega, by omega⟩
  | 4, h, _ =>
    rw [show (tf_ 100)[4]? = some (2, 404, (-2147483648), 2147483647) by decide +kernel] at h
    cases h
    have eg : g0_ T n (4 : Nat) = T 150 n 4 := by
      unfold g0_
      rw [if_neg (by decide)]
      rfl
    have hb : (-2147483648) ≤ T 150 n 4 ∧ T 150 n 4 ≤ 2147483647 := bd_f hT 150 4 (by decide +kernel : (tf_ 150)[4]? = some (5, 404, (-2147483648), 2147483647)) n
    rw [eg]
    exact ⟨5, 404, (-2147483648), 2147483647, by decide +kernel, (by show vR 404 n = fv_ 5 404 (T 150 n 4) n; rw [e4]; exact (fv5_ hn.1).symm), by omega, by omega⟩
  | 5, h, _ =>
    rw [show (tf_ 100)[5]? = some (0, 0, 0, 12) by decide +kernel] at h
    cases h
    have eg : g0_ T n (5 : Nat) = T 150 n 5 := by
      unfold g0_
      rw [if_neg (by decide)]
      rfl
    have hb : 0 ≤ T 150 n 5 ∧ T 150 n 5 ≤ 12 := bd_f hT 150 5 (by decide +kernel : (tf_ 150)[5]? = some (0, 0, 0, 12)) n
    rw [eg]
    exact ⟨0, 0, 0, 12, by decide +kernel, rfl, by omega, by omega⟩
  | 6, h, _ =>
    rw [show (tf_ 100)[6]? = some (0, 0, 0, 1) by decide +kernel] at h
    cases h
    have eg : g0_ T n (6 : Nat) = T 150 n 6 := by
      unfold g0_
      rw [if_neg (by decide)]
      rfl
    have hb : 0 ≤ T 150 n 6 ∧ T 150 n 6 ≤ 1 := bd_f hT 150 6 (by decide +kernel : (tf_ 150)[6]? = some (0, 0, 0, 1)) n
    rw [eg]
    exact ⟨0, 0, 0, 1, by decide +kernel, rfl, by omega, by omega⟩
  | 7, h, _ =>
    rw [show (tf_ 100)[7]? = some (0, 0, 0, 400) by decide +kernel] at h
    cases h
    have eg : g0_ T n (7 : Nat) = T 150 n 7 := by
      unfold g0_
      rw [if_neg (by decide)]
      rfl
    have hb : 0 ≤ T 150 n 7 ∧ T 150 n 7 ≤ 400 := bd_f hT 150 7 (by decide +kernel : (tf_ 150)[7]? = some (0, 0, 0, 400)) n
    rw [eg]
    exact ⟨0, 0, 0, 400, by decide +kernel, rfl, by omega, by omega⟩
  | 8, h, _ =>
    rw [show (tf_ 100)[8]? = some (0, 0, 0, 400) by decide +kernel] at h
    cases h
    have eg : g0_ T n (8 : Nat) = T 150 n 8 := by
      unfold g0_
      rw [if_neg (by decide)]
      rfl
    have hb : 0 ≤ T 150 n 8 ∧ T 150 n 8 ≤ 400 := bd_f hT 150 8 (by decide +kernel : (tf_ 150)[8]? = some (0, 0, 0, 400)) n
    rw [eg]
    exact ⟨0, 0, 0, 400, by decide +kernel, rfl, by omega, by omega⟩
def g2_ (T : Zt) (n j : Int) : Int := if j = 0 then T 152 n j - 1 else T 152 n j
theorem cg_2 {T : Zt} {n : Int} (hT : ok_T T) (hn : 0 ≤ n ∧ n ≤ 2000000000) (e0 : 1 ≤ T 152 n 0) (e8 : T 152 n 8 = n + 1) (e9 : T 152 n 9 = n + 1) (e10 : T 152 n 10 = 0) : ∀ (j c k1 : Nat) (lo hi : Int), (tf_ 102)[j]? = some (c, k1, lo, hi) → ∃ c2 k2 lo2 hi2, (tf_ (102 + 50))[j]? = some (c2, k2, lo2, hi2) ∧ fv_ c k1 (g2_ T n j) n = fv_ c2 k2 (T (102 + 50) n j) n ∧ lo ≤ g2_ T n j ∧ g2_ T n j ≤ hi := by
  intro j c k1 lo hi h
  have hlt : j < 11 := by
    by_cases z : j < 11
    · exact z
    · rw [List.getElem?_eq_none (by rw [show (tf_ 102).length = 11 by decide +kernel]; omega)] at h; cases h
  match j, h, hlt with
  | 0, h, _ =>
    rw [show (tf_ 102)[0]? = some (3, 100, (-2147483648), 2147483647) by decide +kernel] at h
    cases h
    have eg : g2_ T n (0 : Nat) = T 152 n 0 - 1 := by
      unfold g2_
      rw [if_pos (by decide)]
      rfl
    have hb : (-2147483648) ≤ T 152 n 0 ∧ T 152 n 0 ≤ 2147483647 := bd_f hT 152 0 (by decide +kernel : (tf_ 152)[0]? = some (5, 100, (-2147483648), 2147483647)) n
    rw [eg]
    exact ⟨5, 100, (-2147483648), 2147483647, by decide +kernel, (cv3_ e0), by omega, by omega⟩
  | 1, h, _ =>
    rw [show (tf_ 102)[1]? = some (0, 0, 0, 399) by decide +kernel] at h
    cases h
    have eg : g2_ T n (1 : Nat) = T 152 n 1 := by
      unfold g2_
      rw [if_neg (by decide)]
      rfl
    have hb : 0 ≤ T 152 n 1 ∧ T 152 n 1 ≤ 399 := bd_f hT 152 1 (by decide +kernel : (tf_ 152)[1]? = some (0, 0, 0, 399)) n
    rw [eg]
    exact ⟨0, 0, 0, 399, by decide +kernel, rfl, by omega, by omega⟩
  | 2, h, _ =>
    rw [show (tf_ 102)[2]? = some (0, 0, (-2147483648), 2147483647) by decide +kernel] at h
    cases h
    have eg : g2_ T n (2 : Nat) = T 152 n 2 := by
      unfold g2_
      rw [if_neg (by decide)]
      rfl
    have hb : (-2147483648) ≤ T 152 n 2 ∧ T 152 n 2 ≤ 2147483647 := bd_f hT 152 2 (by decide +kernel : (tf_ 152)[2]? = some (0, 0, (-2147483648), 2147483647)) n
    rw [eg]
    exact ⟨0, 0, (-2147483648), 2147483647, by decide +kernel, rfl, by omega, by omega⟩
  | 3, h, _ =>
    rw [show (tf_ 102)[3]? = some (0, 0, 0, 11) by decide +kernel] at h
    cases h
    have eg : g2_ T n (3 : Nat) = T 152 n 3 := by
      unfold g2_
      rw [if_neg (by decide)]
      rfl
    have hb : 0 ≤ T 152 n 3 ∧ T 152 n 3 ≤ 11 := bd_f hT 152 3 (by decide +kernel : (tf_ 152)[3]? = some (0, 0, 0, 11)) n
    rw [eg]
    exact ⟨0, 0, 0, 11, by decide +kernel, rfl, by omega, by omega⟩
  | 4, h, _ =>
    rw [show (tf_ 102)[4]? = some (0, 0, 0, 11) by decide +kernel] at h
    cases h
    have eg : g2_ T n (4 : Nat) = T 152 n 4 := by
      unfold g2_
      rw [if_neg (by decide)]
      rfl
    have hb : 0 ≤ T 152 n 4 ∧ T 152 n 4 ≤ 11 := bd_f hT 152 4 (by decide +kernel : (tf_ 152)[4]? = some (0, 0, 0, 11)) n
    rw [eg]
    exact ⟨0, 0, 0, 11, by decide +kernel, rfl, by omega, by omega⟩
  | 5, h, _ =>
    rw [show (tf_ 102)[5]? = some (0, 0, 0, 999) by decide +kernel] at h
    cases h
    have eg : g2_ T n (5 : Nat) = T 152 n 5 := by
      unfold g2_
      rw [if_neg (by decide)]
      rfl
    have hb : 0 ≤ T 152 n 5 ∧ T 152 n 5 ≤ 999 := bd_f hT 152 5 (by decide +kernel : (tf_ 152)[5]? = some (0, 0, 0, 999)) n
    rw [eg]
    exact ⟨0, 0, 0, 999, by decide +kernel, rfl, by omega, by omega⟩
  | 6, h, _ =>
    rw [show (tf_ 102)[6]? = some (0, 0, (-1), 1) by decide +kernel] at h
    cases h
    have eg : g2_ T n (6 : Nat) = T 152 n 6 := by
      unfold g2_
      rw [if_neg (by decide)]
      rfl
    have hb : (-1) ≤ T 152 n 6 ∧ T 152 n 6 ≤ 1 := bd_f hT 152 6 (by decide +kernel : (tf_ 152)[6]? = some (0, 0, (-1), 1)) n
    rw [eg]
    exact ⟨0, 0, (-1), 1, by decide +kernel, rfl, by omega, by omega⟩
  | 7, h, _ =>
    rw [show (tf_ 102)[7]? = some (0, 0, (-1), 7) by decide +kernel] at h
    cases h
    have eg : g2_ T n (7 : Nat) = T 152 n 7 := by
      unfold g2_
      rw [if_neg (by decide)]
      rfl
    have hb : (-1) ≤ T 152 n 7 ∧ T 152 n 7 ≤ 7 := bd_f hT 152 7 (by decide +kernel : (tf_ 152)[7]? = some (0, 0, (-1), 7)) n
    rw [eg]
    exact ⟨0, 0, (-1), 7, by decide +kernel, rfl, by omega, by omega⟩
  | 8, h, _ =>
    rw [show (tf_ 102)[8]? = some (2, 448, (-2147483648), 2147483647) by decide +kernel] at h
    cases h
    have eg : g2_ T n (8 : Nat) = T 152 n 8 := by
      unfold g2_
      rw [if_neg (by decide)]
      rfl
    have hb : (-2147483648) ≤ T 152 n 8 ∧ T 152 n 8 ≤ 2147483647 := bd_f hT 152 8 (by decide +kernel : (tf_ 152)[8]? = some (5, 448, (-2147483648), 2147483647)) n
    rw [eg]
    exact ⟨5, 448, (-2147483648), 2147483647, by decide +kernel, (by show vR 448 n = fv_ 5 448 (T 152 n 8) n; rw [e8]; exact (fv5_ hn.1).symm), by omega, by omega⟩
  | 9, h, _ =>
    rw [show (tf_ 102)[9]? = some (2, 449, (-2147483648), 2147483647) by decide +kernel] at h
    cases h
    have eg : g2_ T n (9 : Nat) = T 152 n 9 := by
      unfold g2_
      rw [if_neg (by decide)]
      rfl
    have hb : (-2147483648) ≤ T 152 n 9 ∧ T 152 n 9 ≤ 2147483647 := bd_f hT 152 9 (by decide +kernel : (tf_ 152)[9]? = some (5, 449, (-2147483648), 2147483647)) n
    rw [eg]
    exact ⟨5, 449, (-2147483648), 2147483647, by decide +kernel, (by show vR 449 n = fv_ 5 449 (T 152 n 9) n; rw [e9]; exact (fv5_ hn.1).symm), by omega, by omega⟩
  | 10, h, _ =>
    rw [show (tf_ 102)[10]? = some (4, 103, (-2147483648), 2147483647) by decide +kernel] at h
    cases h
    have eg : g2_ T n (10 : Nat) = T 152 n 10 := by
      unfold g2_
      rw [if_neg (by decide)]
      rfl
    have hb : (-2147483648) ≤ T 152 n 10 ∧ T 152 n 10 ≤ 2147483647 := bd_f hT 152 10 (by decide +kernel : (tf_ 152)[10]? = some (5, 103, (-2147483648), 2147483647)) n
    rw [eg]
    exact ⟨5, 103, (-2147483648), 2147483647, by decide +kernel, (by show fv_ 4 103 (T 152 n 10) n = fv_ 5 103 (T 152 n 10) n; rw [e10]; rfl), by omega, by omega⟩
def g3_ (T : Zt) (n j : Int) : Int := if j = 0 ∨ j = 14 ∨ j = 16 then T 153 n j - 1 else T 153 n j
theorem cg_3 {T : Zt} {n : Int} (hT : ok_T T) (hn : 0 ≤ n ∧ n ≤ 2000000000) (e0 : 1 ≤ T 153 n 0) (e1 : T 153 n 1 = n + 1) (e2 : T 153 n 2 = n + 1) (e6 : T 153 n 6 = n + 1) (e7 : T 153 n 7 = n + 1) (e8 : T 153 n 8 = n + 1) (e9 : T 153 n 9 = n + 1) (e10 : T 153 n 10 = n + 1) (e11 : T 153 n 11 = n + 1) (e12 : T 153 n 12 = n + 1) (e13 : T 153 n 13 = n + 1) (e14 : 1 ≤ T 153 n 14) (e16 : 1 ≤ T 153 n 16) : ∀ (j c k1 : Nat) (lo hi : Int), (tf_ 103)[j]? = some (c, k1, lo, hi) → ∃ c2 k2 lo2 hi2, (tf_ (103 + 50))[j]? = some (c2, k2, lo2, hi2) ∧ fv_ c k1 (g3_ T n j) n = fv_ c2 k2 (T (103 + 50) n j) n ∧ lo ≤ g3_ T n j ∧ g3_ T n j ≤ hi := by
  intro j c k1 lo hi h
  have hlt : j < 18 := by
    by_cases z : j < 18
    · exact z
    · rw [List.getElem?_eq_none (by rw [show (tf_ 103).length = 18 by decide +kernel]; omega)] at h; cases h
  match j, h, hlt with
  | 0, h, _ =>
    rw [show (tf_ 103)[0]? = some (3, 401, (-2147483648), 2147483647) by decide +kernel] at h
    cases h
    have eg : g3_ T n (0 : Nat) = T 153 n 0 - 1 := by
      unfold g3_
      rw [if_pos (by decide)]
      rfl
    have hb : (-2147483648) ≤ T 153 n 0 ∧ T 153 n 0 ≤ 2147483647 := bd_f hT 153 0 (by decide +kernel : (tf_ 153)[0]? = some (5, 401, (-2147483648), 2147483647)) n
    rw [eg]
    exact ⟨5, 401, (-2147483648), 2147483647, by decide +kernel, (cv3_ e0), by omega, by omega⟩
  | 1, h, _ =>
    rw [show (tf_ 103)[1]? = some (2, 448, (-2147483648), 2147483647) by decide +kernel] at h
    cases h
    have eg : g3_ T n (1 : Nat) = T 153 n 1 := by
      unfold g3_
      rw [if_neg (by decide)]
      rfl
    have hb : (-2147483648) ≤ T 153 n 1 ∧ T 153 n 1 ≤ 2147483647 := bd_f hT 153 1 (by decide +kernel : (tf_ 153)[1]? = some (5, 448, (-2147483648), 2147483647)) n
    rw [eg]
    exact ⟨5, 448, (-2147483648), 2147483647, by decide +kernel, (by show vR 448 n = fv_ 5 448 (T 153 n 1) n; rw [e1]; exact (fv5_ hn.1).symm), by omega, by omega⟩
  | 2, h, _ =>
    rw [show (tf_ 103)[2]? = some (2, 449, (-2147483648), 2147483647) by decide +kernel] at h
    cases h
    have eg : g3_ T n (2 : Nat) = T 153 n 2 := by
      unfold g3_
      rw [if_neg (by decide)]
      rfl
    have hb : (-2147483648) ≤ T 153 n 2 ∧ T 153 n 2 ≤ 2147483647 := bd_f hT 153 2 (by decide +kernel : (tf_ 153)[2]? = some (5, 449, (-2147483648), 2147483647)) n
    rw [eg]
    exact ⟨5, 449, (-2147483648), 2147483647, by decide +kernel, (by show vR 449 n = fv_ 5 449 (T 153 n 2) n; rw [e2]; exact (fv5_ hn.1).symm), by omega, by omega⟩
  | 3, h, _ =>
    rw [show (tf_ 103)[3]? = some (0, 0, 0, 1) by decide +kernel] at h
    cases h
    have eg : g3_ T n (3 : Nat) = T 153 n 3 := by
      unfold g3_
      rw [if_neg (by decide)]
      rfl
    have hb : 0 ≤ T 153 n 3 ∧ T 153 n 3 ≤ 1 := bd_f hT 153 3 (by decide +kernel : (tf_ 153)[3]? = some (0, 0, 0, 1)) n
    rw [eg]
    exact ⟨0, 0, 0, 1, by decide +kernel, rfl, by omega, by omega⟩
  | 4, h, _ =>
    rw [show (tf_ 103)[4]? = some (0, 0, (-2147483648), 2147483647) by decide +kernel] at h
    cases h
    have eg : g3_ T n (4 : Nat) = T 153 n 4 := by
      unfold g3_
      rw [if_neg (by decide)]
      rfl
    have hb : (-2147483648) ≤ T 153 n 4 ∧ T 153 n 4 ≤ 2147483647 := bd_f hT 153 4 (by decide +kernel : (tf_ 153)[4]? = some (0, 0, (-2147483648), 2147483647)) n
    rw [eg]
    exact ⟨0, 0, (-2147483648), 2147483647, by decide +kernel, rfl, by omega, by omega⟩
  | 5, h, _ =>
    rw [show (tf_ 103)[5]? = some (0, 0, 0, 1) by decide +kernel] at h
    cases h
    have eg : g3_ T n (5 : Nat) = T 153 n 5 := by
      unfold g3_
      rw [if_neg (by decide)]
      rfl
    have hb : 0 ≤ T 153 n 5 ∧ T 153 n 5 ≤ 1 := bd_f hT 153 5 (by decide +kernel : (tf_ 153)[5]? = some (0, 0, 0, 1)) n
    rw [eg]
    exact ⟨0, 0, 0, 1, by decide +kernel, rfl, by omega, by omega⟩
  | 6, h, _ =>
    rw [show (tf_ 103)[6]? = some (2, 466, (-2147483648), 2147483647) by decide +kernel] at h
    cases h
    have eg : g3_ T n (6 : Nat) = T 153 n 6 := by
      unfold g3_
      rw [if_neg (by decide)]
      rfl
    have hb : (-2147483648) ≤ T 153 n 6 ∧ T 153 n 6 ≤ 2147483647 := bd_f hT 153 6 (by decide +kernel : (tf_ 153)[6]? = some (5, 466, (-2147483648), 2147483647)) n
    rw [eg]
    exact ⟨5, 466, (-2147483648), 2147483647, by decide +kernel, (by show vR 466 n = fv_ 5 466 (T 153 n 6) n; rw [e6]; exact (fv5_ hn.1).symm), by omega, by omega⟩
  | 7, h, _ =>
    rw [show (tf_ 103)[7]? = some (2, 467, (-2147483648), 2147483647) by decide +kernel] at h
    cases h
    have eg : g3_ T n (7 : Nat) = T 153 n 7 := by
      unfold g3_
      rw [if_neg (by decide)]
      rfl
    have hb : (-2147483648) ≤ T 153 n 7 ∧ T 153 n 7 ≤ 2147483647 := bd_f hT 153 7 (by decide +kernel : (tf_ 153)[7]? = some (5, 467, (-2147483648), 2147483647)) n
    rw [eg]
    exact ⟨5, 467, (-2147483648), 2147483647, by decide +kernel, (by show vR 467 n = fv_ 5 467 (T 153 n 7) n; rw [e7]; exact (fv5_ hn.1).symm), by omega, by omega⟩
  | 8, h, _ =>
    rw [show (tf_ 103)[8]? = some (2, 468, (-2147483648), 2147483647) by decide +kernel] at h
    cases h
    have eg : g3_ T n (8 : Nat) = T 153 n 8 := by
      unfold g3_
      rw [if_neg (by decide)]
      rfl
    have hb : (-2147483648) ≤ T 153 n 8 ∧ T 153 n 8 ≤ 2147483647 := bd_f hT 153 8 (by decide +kernel : (tf_ 153)[8]? = some (5, 468, (-2147483648), 2147483647)) n
    rw [eg]
    exact ⟨5, 468, (-2147483648), 2147483647, by decide +kernel, (by show vR 468 n = fv_ 5 468 (T 153 n 8) n; rw [e8]; exact (fv5_ hn.1).symm), by omega, by omega⟩
  | 9, h, _ =>
    rw [show (tf_ 103)[9]? = some (2, 469, (-2147483648), 2147483647) by decide +kernel] at h
    cases h
    have eg : g3_ T n (9 : Nat) = T 153 n 9 := by
      unfold g3_
      rw [if_neg (by decide)]
      rfl
    have hb : (-2147483648) ≤ T 153 n 9 ∧ T 153 n 9 ≤ 2147483647 := bd_f hT 153 9 (by decide +kernel : (tf_ 153)[9]? = some (5, 469, (-2147483648), 2147483647)) n
    rw [eg]
    exact ⟨5, 469, (-2147483648), 2147483647, by decide +kernel, (by show vR 469 n = fv_ 5 469 (T 153 n 9) n; rw [e9]; exact (fv5_ hn.1).symm), by omega, by omega⟩
  | 10, h, _ =>
    rw [show (tf_ 103)[10]? = some (2, 470, (-2147483648), 2147483647) by decide +kernel] at h
    cases h
    have eg : g3_ T n (10 : Nat) = T 153 n 10 := by
      unfold g3_
      rw [if_neg (by decide)]
      rfl
    have hb : (-2147483648) ≤ T 153 n 10 ∧ T 153 n 10 ≤ 2147483647 := bd_f hT 153 10 (by decide +kernel : (tf_ 153)[10]? = some (5, 470, (-2147483648), 2147483647)) n
    rw [eg]
    exact ⟨5, 470, (-2147483648), 2147483647, by decide +kernel, (by show vR 470 n = fv_ 5 470 (T 153 n 10) n; rw [e10]; exact (fv5_ hn.1).symm), by omega, by omega⟩
  | 11, h, _ =>
    rw [show (tf_ 103)[11]? = some (2, 471, (-2147483648), 2147483647) by decide +kernel] at h
    cases h
    have eg : g3_ T n (11 : Nat) = T 153 n 11 := by
      unfold g3_
      rw [if_neg (by decide)]
      rfl
    have hb : (-2147483648) ≤ T 153 n 11 ∧ T 153 n 11 ≤ 2147483647 := bd_f hT 153 11 (by decide +kernel : (tf_ 153)[11]? = some (5, 471, (-2147483648), 2147483647)) n
    rw [eg]
    exact ⟨5, 471, (-2147483648), 2147483647, by decide +kernel, (by show vR 471 n = fv_ 5 471 (T 153 n 11) n; rw [e11]; exact (fv5_ hn.1).symm), by omega, by omega⟩
  | 12, h, _ =>
    rw [show (tf_ 103)[12]? = some (2, 472, (-2147483648), 2147483647) by decide +kernel] at h
    cases h
    have eg : g3_ T n (12 : Nat) = T 153 n 12 := by
      unfold g3_
      rw [if_neg (by decide)]
      rfl
    have hb : (-2147483648) ≤ T 153 n 12 ∧ T 153 n 12 ≤ 2147483647 := bd_f hT 153 12 (by decide +kernel : (tf_ 153)[12]? = some (5, 472, (-2147483648), 2147483647)) n
    rw [eg]
    exact ⟨5, 472, (-2147483648), 2147483647, by decide +kernel, (by show vR 472 n = fv_ 5 472 (T 153 n 12) n; rw [e12]; exact (fv5_ hn.1).symm), by omega, by omega⟩
  | 13, h, _ =>
    rw [show (tf_ 103)[13]? = some (2, 473, (-2147483648), 2147483647) by decide +kernel] at h
    cases h
    have eg : g3_ T n (13 : Nat) = T 153 n 13 := by
      unfold g3_
      rw [if_neg (by decide)]
      rfl
    have hb : (-2147483648) ≤ T 153 n 13 ∧ T 153 n 13 ≤ 2147483647 := bd_f hT 153 13 (by decide +kernel : (tf_ 153)[13]? = some (5, 473, (-2147483648), 2147483647)) n
    rw [eg]
    exact ⟨5, 473, (-2147483648), 2147483647, by decide +kernel, (by show vR 473 n = fv_ 5 473 (T 153 n 13) n; rw [e13]; exact (fv5_ hn.1).symm), by omega, by omega⟩
  | 14, h, _ =>
    rw [show (tf_ 103)[14]? = some (3, 190, (-2147483648), 2147483647) by decide +kernel] at h
    cases h
    have eg : g3_ T n (14 : Nat) = T 153 n 14 - 1 := by
      unfold g3_
      rw [if_pos (by decide)]
      rfl
    have hb : (-2147483648) ≤ T 153 n 14 ∧ T 153 n 14 ≤ 2147483647 := bd_f hT 153 14 (by decide +kernel : (tf_ 153)[14]? = some (5, 190, (-2147483648), 2147483647)) n
    rw [eg]
    exact ⟨5, 190, (-2147483648), 2147483647, by decide +kernel, (cv3_ e14), by omega, by omega⟩
  | 15, h, _ =>
    rw [show (tf_ 103)[15]? = some (0, 0, 0, 3000) by decide +kernel] at h
    cases h
    have eg : g3_ T n (15 : Nat) = T 153 n 15 := by
      unfold g3_
      rw [if_neg (by decide)]
      rfl
    have hb : 0 ≤ T 153 n 15 ∧ T 153 n 15 ≤ 3000 := bd_f hT 153 15 (by decide +kernel : (tf_ 153)[15]? = some (0, 0, 0, 3000)) n
    rw [eg]
    exact ⟨0, 0, 0, 3000, by decide +kernel, rfl, by omega, by omega⟩
  | 16, h, _ =>
    rw [show (tf_ 103)[16]? = some (3, 190, (-2147483648), 2147483647) by decide +kernel] at h
    cases h
    have eg : g3_ T n (16 : Nat) = T 153 n 16 - 1 := by
      unfold g3_
      rw [if_pos (by decide)]
      rfl
    have hb : (-2147483648) ≤ T 153 n 16 ∧ T 153 n 16 ≤ 2147483647 := bd_f hT 153 16 (by decide +kernel : (tf_ 153)[16]? = some (5, 190, (-2147483648), 2147483647)) n
    rw [eg]
    exact ⟨5, 190, (-2147483648), 2147483647, by decide +kernel, (cv3_ e16), by omega, by omega⟩
  | 17, h, _ =>
    rw [show (tf_ 103)[17]? = some (0, 0, 0, 3000) by decide +kernel] at h
    cases h
    have eg : g3_ T n (17 : Nat) = T 153 n 17 := by
      unfold g3_
      rw [if_neg (by decide)]
      rfl
    have hb : 0 ≤ T 153 n 17 ∧ T 153 n 17 ≤ 3000 := bd_f hT 153 17 (by decide +kernel : (tf_ 153)[17]? = some (0, 0, 0, 3000)) n
    rw [eg]
    exact ⟨0, 0, 0, 3000, by decide +kernel, rfl, by omega, by omega⟩
theorem cw_fr {T U : Zt} {k : Nat} {i : Int} {g : Int → Int} (h : U = cw_ T k i g) : fr_ [(k, []), (k + 50, [-1])] T U := fun k' i' j w => by
  subst h
  by_cases z : k' = k
  · rw [z] at w
    simp [fw_] at w
  · by_cases y : k' = k + 50 ∧ j = -1
    · rw [y.1, y.2] at w
      simp [fw_] at w
    · unfold cw_
      rw [if_neg (fun q => z q.1), if_neg (fun q => y ⟨q.1, q.2.2⟩)]
theorem cw_ts {T U : Zt} {k : Nat} {i : Int} {g : Int → Int} (h : U = cw_ T k i g) (j : Int) (hj : 0 ≤ j) : U k i j = g j := by rw [h, cw_s hj]
theorem cw_to {T U : Zt} {k : Nat} {i : Int} {g : Int → Int} (h : U = cw_ T k i g) (k' : Nat) (i' j : Int) (hi : i' ≠ i) : U k' i' j = T k' i' j := by rw [h, cw_o (fun q => hi q.2) (fun q => hi q.2)]
theorem cw_r {T U : Zt} {k : Nat} {i : Int} {g : Int → Int} (h : U = cw_ T k i g) : ¬ U (k + 50) i (-1) = 1 := by
  rw [h]
  unfold cw_
  rw [if_neg (fun q => by omega), if_pos ⟨rfl, rfl, rfl⟩]
  decide
theorem ow_3 {k : Nat} (a : 460 ≤ k) (b : k < 480) : ow_ k = some 103 := by
  unfold ow_
  rw [if_neg (by omega), if_neg (by omega), if_pos ⟨a, b⟩]
/-- what is sure of a play p, where at most N rows were ever told -/
def Lp_ (N : Int) (T : Zt) (p : Int) : Prop := (0 ≤ T 103 p 15 ∧ 0 ≤ T 103 p 17 ∧ T 103 p 15 + T 103 p 17 ≤ N ∧ 4 * T 103 p 15 ≤ T 190 (T 103 p 14) (-2) ∧ 4 * T 103 p 17 ≤ T 190 (T 103 p 16) (-2) ∧ T 103 p 14 < T 191 0 0 ∧ T 103 p 16 < T 191 0 0 ∧ 0 ≤ T 103 p 0 ∧ T 103 p 0 < T 106 0 2) ∧ lz_ (T 190 (T 103 p 14) (-2)) ∧ lz_ (T 190 (T 103 p 16) (-2)) ∧ (T 103 p 3 = 0 → 1 ≤ T 470 p 0 ∧ 1 ≤ T 470 p 1)
def LP_ (N : Int) (T : Zt) : Prop := ∀ p : Int, 0 ≤ p → p < T 106 0 4 → T 102 p 10 ≠ 0 → Lp_ N T p
/-- rows of any length: what was there keeps its length -/
def lh_ (T T' : Zt) : Prop := (∀ x, x < T 191 0 0 → T' 190 x (-2) = T 190 x (-2)) ∧ T 191 0 0 ≤ T' 191 0 0
theorem lh_r {T : Zt} : lh_ T T := ⟨fun _ _ => rfl, by omega⟩
theorem lh_t {T T1 T2 : Zt} (h : lh_ T T1) (g : lh_ T1 T2) : lh_ T T2 := ⟨fun x hx => (g.1 x (by have := h.2; omega)).trans (h.1 x hx), by have := h.2; have := g.2; omega⟩
theorem lh_f {ws : List (Nat × List Int)} {T T1 T2 : Zt} (h : lh_ T T1) (g : fr_ ws T1 T2) (a : fw_ ws 190 (-2) = false) (b : fw_ ws 191 0 = false) : lh_ T T2 := lh_t h ⟨fun x _ => g 190 x (-2) a, by rw [g 191 0 0 b]; omega⟩
theorem lh_u {T T1 T2 : Zt} {k : Nat} {i j v : Int} (h : lh_ T T1) (e : T2 = up_ T1 k i j v) (hk : k < 190) : lh_ T T2 := lh_t h ⟨fun x _ => up_k e (by omega) _ _, by rw [up_k e (by omega)]; omega⟩
theorem Lp_o {N N' : Int} {T T' : Zt} {q : Int} (h : Lp_ N T q) (hN : N ≤ N') (l : lh_ T T') (hc : T 106 0 2 ≤ T' 106 0 2) (o : T' 103 q 0 = T 103 q 0 ∧ T' 103 q 3 = T 103 q 3 ∧ T' 103 q 14 = T 103 q 14 ∧ T' 103 q 15 = T 103 q 15 ∧ T' 103 q 16 = T 103 q 16 ∧ T' 103 q 17 = T 103 q 17 ∧ T' 470 q 0 = T 470 q 0 ∧ T' 470 q 1 = T 470 q 1) : Lp_ N' T' q := by
  obtain ⟨⟨a1, a2, a3, a4, a5, a6, a7, a8, a9⟩, b1, b2, b3⟩ := h
  obtain ⟨o0, o3, o14, o15, o16, o17, g0, g1⟩ := o
  have l14 : T' 190 (T' 103 q 14) (-2) = T 190 (T 103 q 14) (-2) := by rw [o14]; exact l.1 _ a6
  have l16 : T' 190 (T' 103 q 16) (-2) = T 190 (T 103 q 16) (-2) := by rw [o16]; exact l.1 _ a7
  have l9 := l.2
  refine ⟨⟨by omega, by omega, by omega, by omega, by omega, by omega, by omega, by omega, by omega⟩, by rw [l14]; exact b1, by rw [l16]; exact b2, fun z => ?_⟩
  have := b3 (by omega)
  omega
theorem LP_f {ws : List (Nat × List Int)} {N N' : Int} {T T' : Zt} (h : LP_ N T) (hN : N ≤ N') (l : lh_ T T') (f : fr_ ws T T') (w : fw_ ws 106 4 = false ∧ fw_ ws 106 2 = false ∧ fw_ ws 102 10 = false ∧ fw_ ws 103 0 = false ∧ fw_ ws 103 3 = false ∧ fw_ ws 103 14 = false ∧ fw_ ws 103 15 = false ∧ fw_ ws 103 16 = false ∧ fw_ ws 103 17 = false ∧ fw_ ws 470 0 = false ∧ fw_ ws 470 1 = false) : LP_ N' T' := by
  obtain ⟨w1, w2, w3, w4, w5, w6, w7, w8, w9, w10, w11⟩ := w
  intro p h0 h1 h2
  rw [f 106 0 _ w1] at h1
  rw [f 102 p _ w3] at h2
  exact Lp_o (h p h0 h1 h2) hN l (by rw [f 106 0 _ w2]; omega) ⟨f _ _ _ w4, f _ _ _ w5, f _ _ _ w6, f _ _ _ w7, f _ _ _ w8, f _ _ _ w9, f _ _ _ w10, f _ _ _ w11⟩
/-- one play is told of anew, the others stay -/
theorem LP_q {N N' : Int} {T T' : Zt} {m : Int} (h : LP_ N T) (hN : N ≤ N') (l : lh_ T T') (o : ∀ k i j, i ≠ m → k ≠ 190 → k ≠ 191 → k ≠ 106 → T' k i j = T k i j) (hm : T' 106 0 4 = T 106 0 4) (hc : T' 106 0 2 = T 106 0 2) (n : T' 102 m 10 ≠ 0 → Lp_ N' T' m) : LP_ N' T' := by
  intro p h0 h1 h2
  by_cases z : p = m
  · rw [z] at h2 ⊢
    exact n h2
  · rw [hm] at h1
    have e : ∀ k j, k ≠ 190 → k ≠ 191 → k ≠ 106 → T' k p j = T k p j := fun k j a b c => o k p j z a b c
    rw [e 102 10 (by decide) (by decide) (by decide)] at h2
    exact Lp_o (h p h0 h1 h2) hN l (by omega) ⟨e _ _ (by decide) (by decide) (by decide), e _ _ (by decide) (by decide) (by decide), e _ _ (by decide) (by decide) (by decide), e _ _ (by decide) (by decide) (by decide), e _ _ (by decide) (by decide) (by decide), e _ _ (by decide) (by decide) (by decide), e _ _ (by decide) (by decide) (by decide), e _ _ (by decide) (by decide) (by decide)⟩
/-- what is not there yet -/
def NR_ (T : Zt) : Prop := (∀ i, ¬ T 150 i (-1) = 1) ∧ (∀ i, ¬ T 152 i (-1) = 1) ∧ (∀ i, ¬ T 153 i (-1) = 1)
def NA_ (T : Zt) : Prop := NR_ T ∧ (∀ i, T 106 0 2 ≤ i → ¬ T 100 i (-1) = 1) ∧ (∀ i, T 106 0 4 ≤ i → ¬ T 102 i (-1) = 1) ∧ ∀ i, (T 106 0 4 ≤ i ∨ T 102 i 10 = 0) → ¬ T 103 i (-1) = 1
theorem NA_f {ws : List (Nat × List Int)} {T T' : Zt} (h : NA_ T) (f : fr_ ws T T') (w : fw_ ws 150 (-1) = false ∧ fw_ ws 152 (-1) = false ∧ fw_ ws 153 (-1) = false ∧ fw_ ws 100 (-1) = false ∧ fw_ ws 102 (-1) = false ∧ fw_ ws 103 (-1) = false ∧ fw_ ws 102 10 = false ∧ fw_ ws 106 4 = false ∧ fw_ ws 106 2 = false) : NA_ T' := by
  obtain ⟨w1, w2, w3, w4, w5, w6, w7, w8, w9⟩ := w
  obtain ⟨⟨a, b, c⟩, d, e, g⟩ := h
  refine ⟨⟨fun i => by rw [f 150 i _ w1]; exact a i, fun i => by rw [f 152 i _ w2]; exact b i, fun i => by rw [f 153 i _ w3]; exact c i⟩, fun i hi => ?_, fun i hi => ?_, fun i hi => ?_⟩
  · rw [f 100 i _ w4]; rw [f 106 0 _ w9] at hi; exact d i hi
  · rw [f 102 i _ w5]; rw [f 106 0 _ w8] at hi; exact e i hi
  · rw [f 103 i _ w6]; rw [f 106 0 _ w8, f 102 i _ w7] at hi; exact g i hi
abbrev cX10_event : ByteArray := prog_1_method_23_code
def yX10_event : MethodName := ⟨RX10, "event", "(IIIII)I"⟩
def zX10_event : Zm := (RX10, cX10_event, 8, (some .int), { frames := 5, cells := 1, slots := 2048, locals := 116 })
set_option maxRecDepth 100000 in
theorem cl_X10_282 : cv_ RX10 282 yX3_brokenLaw zX3_brokenLaw 3 4 := ⟨gi_V (lwq_5 (dqa_m (dqa_m (dqa_m (List.mem_of_getElem? (i := 3) rfl)))) rfl : Cond.methodLink RX10 282 yX3_brokenLaw ∈ lw_g) (lwq_5 (dqa_m (dqa_m (dqa_m (List.mem_of_getElem? (i := 4) rfl)))) rfl : Cond.instanceMethod yX3_brokenLaw ∈ lw_g) (lwq_5 (dqa_m (dqa_m (dqa_m (List.mem_of_getElem? (i := 5) rfl)))) rfl : Cond.selects yX3_brokenLaw.cls yX3_brokenLaw yX3_brokenLaw ∈ lw_g) (lwq_1 (dqa_m (dqa_m (List.mem_of_getElem? (i := 2) rfl))) rfl : Cond.initialized yX3_brokenLaw.cls ∈ lw_g) (lwq_5 (dqa_m (dqa_m (dqa_m (List.mem_of_getElem? (i := 6) rfl)))) rfl : Cond.code yX3_brokenLaw cX3_brokenLaw 5 (some .int) ∈ lw_g), ⟨nmh_3.1, nmh_3.2, pdq_32⟩, ⟨_, _, rfl⟩⟩
set_option maxRecDepth 100000 in
theorem cl_X10_289 : cv_ RX10 289 yX3_carryOut zX3_carryOut 3 4 := ⟨gi_V (lwq_5 (dqc_m (dqa_m (dqa_m (dqa_m (List.mem_of_getElem? (i := 4) rfl))))) rfl : Cond.methodLink RX10 289 yX3_carryOut ∈ lw_g) (lwq_5 (dqc_m (dqa_m (dqa_m (dqa_m (List.mem_of_getElem? (i := 5) rfl))))) rfl : Cond.instanceMethod yX3_carryOut ∈ lw_g) (lwq_5 (dqc_m (dqa_m (dqa_m (dqa_m (List.mem_of_getElem? (i := 6) rfl))))) rfl : Cond.selects yX3_carryOut.cls yX3_carryOut yX3_carryOut ∈ lw_g) (lwq_1 (dqa_m (dqa_m (List.mem_of_getElem? (i := 2) rfl))) rfl : Cond.initialized yX3_carryOut.cls ∈ lw_g) (lwq_5 (dqc_m (dqa_m (dqa_m (dqa_m (List.mem_of_getElem? (i := 7) rfl))))) rfl : Cond.code yX3_carryOut cX3_carryOut 5 none ∈ lw_g), ⟨nmh_3.1, nmh_3.2, pdq_12⟩, ⟨_, _, rfl⟩⟩
set_option maxRecDepth 100000 in
theorem cl_X10_292 : cv_ RX10 292 yX3_keepRow zX3_keepRow 3 4 := ⟨gi_V (lwq_5 (dqc_m (dqc_m (dqc_m (dqc_m (List.mem_of_getElem? (i := 5) rfl))))) rfl : Cond.methodLink RX10 292 yX3_keepRow ∈ lw_g) (lwq_5 (dqc_m (dqc_m (dqc_m (dqc_m (List.mem_of_getElem? (i := 6) rfl))))) rfl : Cond.instanceMethod yX3_keepRow ∈ lw_g) (lwq_5 (dqc_m (dqc_m (dqc_m (dqc_m (List.mem_of_getElem? (i := 7) rfl))))) rfl : Cond.selects yX3_keepRow.cls yX3_keepRow yX3_keepRow ∈ lw_g) (lwq_1 (dqa_m (dqa_m (List.mem_of_getElem? (i := 2) rfl))) rfl : Cond.initialized yX3_keepRow.cls ∈ lw_g) (lwq_5 (dqc_m (dqc_m (dqc_m (dqc_m (dqa_m (List.mem_of_getElem? (i := 0) rfl)))))) rfl : Cond.code yX3_keepRow cX3_keepRow 5 none ∈ lw_g), ⟨nmh_3.1, nmh_3.2, pdq_12⟩, ⟨_, _, rfl⟩⟩
abbrev po_X10_event (T : Zt) (N : Int) (m k s a b : Int) : Zt → Option Zv → Prop := fun T' r => ∃ x : Int, r = some (vI x) ∧ fr_ [(106, [5]), (103, [3, 4, 5, 14, 15]), (466, []), (467, []), (468, []), (472, []), (471, []), (469, []), (470, []), (473, []), (190, []), (191, [0])] T T' ∧ LP_ (N + 1) T' ∧ lh_ T T' ∧ T' 191 0 0 ≤ T 191 0 0 + 600
abbrev cX10_review : ByteArray := prog_1_method_24_code
def yX10_review : MethodName := ⟨RX10, "review", "(IIIIII)I"⟩
def zX10_review : Zm := (RX10, cX10_review, 8, (some .int), { frames := 6, cells := 127, slots := 4064, locals := 143 })
set_option maxRecDepth 100000 in
theorem cl_X10_305 : cv_ RX10 305 yX3_isFormed zX3_isFormed 3 2 := ⟨gi_V (lwq_5 (dqc_m (dqc_m (dqc_m (dqc_m (dqc_m (dqa_m (List.mem_of_getElem? (i := 1) rfl))))))) rfl : Cond.methodLink RX10 305 yX3_isFormed ∈ lw_g) (lwq_5 (dqc_m (List.mem_of_getElem? (i := 0) rfl)) rfl : Cond.instanceMethod yX3_isFormed ∈ lw_g) (lwq_5 (dqc_m (List.mem_of_getElem? (i := 1) rfl)) rfl : Cond.selects yX3_isFormed.cls yX3_isFormed yX3_isFormed ∈ lw_g) (lwq_1 (dqa_m (dqa_m (List.mem_of_getElem? (i := 2) rfl))) rfl : Cond.initialized yX3_isFormed.cls ∈ lw_g) (lwq_5 (dqc_m (List.mem_of_getElem? (i := 2) rfl)) rfl : Cond.code yX3_isFormed cX3_isFormed 4 (some .boolean) ∈ lw_g), ⟨nmh_3.1, nmh_3.2, pdq_5⟩, ⟨_, _, rfl⟩⟩
set_option maxRecDepth 100000 in
theorem cl_X10_308 : cv_ RX10 308 yX3_isBounded zX3_isBounded 3 2 := ⟨gi_V (lwq_5 (dqc_m (dqc_m (dqc_m (dqc_m (dqc_m (dqa_m (List.mem_of_getElem? (i := 2) rfl))))))) rfl : Cond.methodLink RX10 308 yX3_isBounded ∈ lw_g) (lwq_5 (dqc_m (dqa_m (dqa_m (dqa_m (List.mem_of_getElem? (i := 1) rfl))))) rfl : Cond.instanceMethod yX3_isBounded ∈ lw_g) (lwq_5 (dqc_m (dqa_m (dqa_m (dqa_m (List.mem_of_getElem? (i := 2) rfl))))) rfl : Cond.selects yX3_isBounded.cls yX3_isBounded yX3_isBounded ∈ lw_g) (lwq_1 (dqa_m (dqa_m (List.mem_of_getElem? (i := 2) rfl))) rfl : Cond.initialized yX3_isBounded.cls ∈ lw_g) (lwq_5 (dqc_m (dqa_m (dqa_m (dqa_m (List.mem_of_getElem? (i := 3) rfl))))) rfl : Cond.code yX3_isBounded cX3_isBounded 3 (some .boolean) ∈ lw_g), ⟨nmh_3.1, nmh_3.2, pdq_5⟩, ⟨_, _, rfl⟩⟩
set_option maxRecDepth 100000 in
theorem cl_X10_311 : cv_ RX10 311 yX3_isSameRow zX3_isSameRow 3 5 := ⟨gi_V (lwq_5 (dqc_m (dqc_m (dqc_m (dqc_m (dqc_m (dqa_m (List.mem_of_getElem? (i := 3) rfl))))))) rfl : Cond.methodLink RX10 311 yX3_isSameRow ∈ lw_g) (lwq_5 (dqc_m (dqc_m (dqc_m (dqc_m (dqc_m (dqa_m (List.mem_of_getElem? (i := 4) rfl))))))) rfl : Cond.instanceMethod yX3_isSameRow ∈ lw_g) (lwq_5 (dqc_m (dqc_m (dqc_m (dqc_m (dqc_m (dqa_m (List.mem_of_getElem? (i := 5) rfl))))))) rfl : Cond.selects yX3_isSameRow.cls yX3_isSameRow yX3_isSameRow ∈ lw_g) (lwq_1 (dqa_m (dqa_m (List.mem_of_getElem? (i := 2) rfl))) rfl : Cond.initialized yX3_isSameRow.cls ∈ lw_g) (lwq_5 (dqc_m (dqc_m (dqc_m (dqc_m (dqc_m (dqa_m (List.mem_of_getElem? (i := 6) rfl))))))) rfl : Cond.code yX3_isSameRow cX3_isSameRow 6 (some .boolean) ∈ lw_g), ⟨nmh_3.1, nmh_3.2, pdq_33⟩, ⟨_, _, rfl⟩⟩
set_option maxRecDepth 100000 in
theorem cl_X10_315 : cv_ RX10 315 yX3_putInPlace zX3_putInPlace 3 5 := ⟨gi_V (lwq_5 (dqc_m (dqc_m (dqc_m (dqc_m (dqc_m (dqa_m (List.mem_of_getElem? (i := 7) rfl))))))) rfl : Cond.methodLink RX10 315 yX3_putInPlace ∈ lw_g) (lwq_5 (dqc_m (dqc_m (dqc_m (dqc_m (dqc_m (dqa_m (dqa_m (List.mem_of_getElem? (i := 0) rfl)))))))) rfl : Cond.instanceMethod yX3_putInPlace ∈ lw_g) (lwq_5 (dqc_m (dqc_m (dqc_m (dqc_m (dqc_m (dqa_m (dqa_m (List.mem_of_getElem? (i := 1) rfl)))))))) rfl : Cond.selects yX3_putInPlace.cls yX3_putInPlace yX3_putInPlace ∈ lw_g) (lwq_1 (dqa_m (dqa_m (List.mem_of_getElem? (i := 2) rfl))) rfl : Cond.initialized yX3_putInPlace.cls ∈ lw_g) (lwq_5 (dqc_m (dqc_m (dqc_m (dqc_m (dqc_m (dqa_m (dqa_m (List.mem_of_getElem? (i := 2) rfl)))))))) rfl : Cond.code yX3_putInPlace cX3_putInPlace 6 none ∈ lw_g), ⟨nmh_3.1, nmh_3.2, pdq_6⟩, ⟨_, _, rfl⟩⟩
set_option maxRecDepth 100000 in
theorem cl_X10_302 : cv_ RX10 302 yX3_runAnew zX3_runAnew 3 0 := ⟨gi_V (lwq_5 (dqc_m (dqc_m (dqc_m (dqc_m (dqa_m (dqa_m (dqa_m (List.mem_of_getElem? (i := 5) rfl)))))))) rfl : Cond.methodLink RX10 302 yX3_runAnew ∈ lw_g) (lwq_5 (dqc_m (dqc_m (dqc_m (dqc_m (dqa_m (dqa_m (dqa_m (List.mem_of_getElem? (i := 6) rfl)))))))) rfl : Cond.instanceMethod yX3_runAnew ∈ lw_g) (lwq_5 (dqc_m (dqc_m (dqc_m (dqc_m (dqa_m (dqa_m (dqa_m (List.mem_of_getElem? (i := 7) rfl)))))))) rfl : Cond.selects yX3_runAnew.cls yX3_runAnew yX3_runAnew ∈ lw_g) (lwq_1 (dqa_m (dqa_m (List.mem_of_getElem? (i := 2) rfl))) rfl : Cond.initialized yX3_runAnew.cls ∈ lw_g) (lwq_5 (dqc_m (dqc_m (dqc_m (dqc_m (dqc_m (List.mem_of_getElem? (i := 0) rfl)))))) rfl : Cond.code yX3_runAnew cX3_runAnew 8 (some .int) ∈ lw_g), ⟨nmh_3.1, nmh_3.2, pdq_17⟩, ⟨_, _, rfl⟩⟩
set_option maxRecDepth 100000 in
theorem cl_X10_298 : cv_ RX10 298 yX3_takeOut zX3_takeOut 3 1 := ⟨gi_V (lwq_5 (dqc_m (dqc_m (dqc_m (dqc_m (dqa_m (dqa_m (dqa_m (List.mem_of_getElem? (i := 1) rfl)))))))) rfl : Cond.methodLink RX10 298 yX3_takeOut ∈ lw_g) (lwq_5 (dqc_m (dqc_m (dqc_m (dqc_m (dqa_m (dqa_m (dqa_m (List.mem_of_getElem? (i := 2) rfl)))))))) rfl : Cond.instanceMethod yX3_takeOut ∈ lw_g) (lwq_5 (dqc_m (dqc_m (dqc_m (dqc_m (dqa_m (dqa_m (dqa_m (List.mem_of_getElem? (i := 3) rfl)))))))) rfl : Cond.selects yX3_takeOut.cls yX3_takeOut yX3_takeOut ∈ lw_g) (lwq_1 (dqa_m (dqa_m (List.mem_of_getElem? (i := 2) rfl))) rfl : Cond.initialized yX3_takeOut.cls ∈ lw_g) (lwq_5 (dqc_m (dqc_m (dqc_m (dqc_m (dqa_m (dqa_m (dqa_m (List.mem_of_getElem? (i := 4) rfl)))))))) rfl : Cond.code yX3_takeOut cX3_takeOut 3 none ∈ lw_g), ⟨nmh_3.1, nmh_3.2, pdq_9⟩, ⟨_, _, rfl⟩⟩
abbrev po_X10_review (T : Zt) (N : Int) (m i k s a b : Int) : Zt → Option Zv → Prop := fun T' r => ∃ x : Int, r = some (vI x) ∧ fr_ [(103, [3, 4, 5, 15, 16, 17]), (466, []), (467, []), (468, []), (469, []), (472, []), (473, []), (470, []), (471, []), (190, []), (191, [0])] T T' ∧ LP_ (N + 1) T' ∧ lh_ T T' ∧ T' 191 0 0 ≤ T 191 0 0 + 600
abbrev cX10_row : ByteArray := prog_1_method_26_code
def yX10_row : MethodName := ⟨RX10, "row", "(III)I"⟩
def zX10_row : Zm := (RX10, cX10_row, 7, (some .int), { frames := 2, cells := 0, slots := 0, locals := 42 })
theorem bk_X10_row_0 : ck_ fX10 (some .int) cX10_row 0 [.aload 0, .iload 1] 2 = true := qck_r (nn_ _) (by decide +kernel)
theorem bs_X10_row_0 {P : Zt → Option Zv → Prop} (K : Int → Zl → List Zv → Zt → Prop) : sx_ K P [.aload 0, .iload 1] 2 = x_aload 0 (x_iload 1 (K 2)) := ((xe_aload 0).trans (congrArg (x_aload 0) ((xe_iload 1).trans (congrArg (x_iload 1) xe_nil))))
theorem bk_X10_row_5 : ck_ fX10 (some .int) cX10_row 5 [.ifCond .ne 11, .iconst (-2), .ireturn] 11 = true := qck_r (nn_ _) (by decide +kernel)
theorem bs_X10_row_5 {P : Zt → Option Zv → Prop} (K : Int → Zl → List Zv → Zt → Prop) : sx_ K P [.ifCond .ne 11, .iconst (-2), .ireturn] 11 = x_ifCond .ne 11 K (x_iconst (-2) (x_ireturn P)) := ((xe_ifCond .ne 11).trans (congrArg (x_ifCond .ne 11 K) ((xe_iconst (-2)).trans (congrArg (x_iconst (-2)) (xe_ireturn)))))
theorem bk_X10_row_11 : ck_ fX10 (some .int) cX10_row 11 [.aload 0, .tableswitch 0 10 2 #[], .tableswitch 0 6 3 #[], .iload 1, .aaload, .tableswitch 0 2 10 #[], .astore 4, .aload 4, .ifnonnull 33, .iconst (-2), .ireturn] 33 = true := qck_r (nn_ _) (by decide +kernel)
theorem bs_X10_row_11 {P : Zt → Option Zv → Prop} (K : Int → Zl → List Zv → Zt → Prop) : sx_ K P [.aload 0, .tableswitch 0 10 2 #[], .tableswitch 0 6 3 #[], .iload 1, .aaload, .tableswitch 0 2 10 #[], .astore 4, .aload 4, .ifnonnull 33, .iconst (-2), .ireturn] 33 = x_aload 0 (x_g1 110 106 (x_g1 106 523 (x_iload 1 (x_aaload (x_g4 102 103 10 (x_astore 4 (x_aload 4 (x_ifnonnull 33 K (x_iconst (-2) (x_ireturn P)))))))))) := ((xe_aload 0).trans (congrArg (x_aload 0) ((xe_g1 (kk := 110) rfl tl_10_2).trans (congrArg (x_g1 110 106) ((xe_g1 (kk := 106) rfl tl_6_3).trans (congrArg (x_g1 106 523) ((xe_iload 1).trans (congrArg (x_iload 1) ((xe_aaload).trans (congrArg (x_aaload) ((xe_g4 (kk := 102) rfl tl_2_10).trans (congrArg (x_g4 102 103 10) ((xe_astore 4).trans (congrArg (x_astore 4) ((xe_aload 4).trans (congrArg (x_aload 4) ((xe_ifnonnull 33).trans (congrArg (x_ifnonnull 33 K) ((xe_iconst (-2)).trans (congrArg (x_iconst (-2)) (xe_ireturn)))))))))))))))))))))
theorem bk_X10_row_33 : ck_ fX10 (some .int) cX10_row 33 [.iload 2, .aload 4, .tableswitch 0 3 15 #[]] 39 = true := qck_r (nn_ _) (by decide +kernel)
theorem bs_X10_row_33 {P : Zt → Option Zv → Prop} (K : Int → Zl → List Zv → Zt → Prop) : sx_ K P [.iload 2, .aload 4, .tableswitch 0 3 15 #[]] 39 = x_iload 2 (x_aload 4 (x_g0 103 15 0 3000 (K 39))) := ((xe_iload 2).trans (congrArg (x_iload 2) ((xe_aload 4).trans (congrArg (x_aload 4) ((xe_g0 (kk := 103) rfl tl_3_15).trans (congrArg (x_g0 103 15 0 3000) xe_nil))))))
theorem bk_X10_row_42 : ck_ fX10 (some .int) cX10_row 42 [.istore 5, .iload 2, .aload 4, .tableswitch 0 3 17 #[]] 50 = true := qck_r (nn_ _) (by decide +kernel)
theorem bs_X10_row_42 {P : Zt → Option Zv → Prop} (K : Int → Zl → List Zv → Zt → Prop) : sx_ K P [.istore 5, .iload 2, .aload 4, .tableswitch 0 3 17 #[]] 50 = x_istore 5 (x_iload 2 (x_aload 4 (x_g0 103 17 0 3000 (K 50)))) := ((xe_istore 5).trans (congrArg (x_istore 5) ((xe_iload 2).trans (congrArg (x_iload 2) ((xe_aload 4).trans (congrArg (x_aload 4) ((xe_g0 (kk := 103) rfl tl_3_17).trans (congrArg (x_g0 103 17 0 3000) xe_nil))))))))
theorem bk_X10_row_53 : ck_ fX10 (some .int) cX10_row 53 [.istore 6, .iload 3, .ifCond .lt 65, .iload 3, .iconst 7, .if_icmp .le 83, .iload 5, .ifCond .ne 75, .iload 6, .ifCond .eq 80, .iconst (-3), .goto 82] 80 = true := qck_r (nn_ _) (by decide +kernel)
theorem bs_X10_row_53 {P : Zt → Option Zv → Prop} (K : Int → Zl → List Zv → Zt → Prop) : sx_ K P [.istore 6, .iload 3, .ifCond .lt 65, .iload 3, .iconst 7, .if_icmp .le 83, .iload 5, .ifCond .ne 75, .iload 6, .ifCond .eq 80, .iconst (-3), .goto 82] 80 = x_istore 6 (x_iload 3 (x_ifCond .lt 65 K (x_iload 3 (x_iconst 7 (x_if_icmp .le 83 K (x_iload 5 (x_ifCond .ne 75 K (x_iload 6 (x_ifCond .eq 80 K (x_iconst (-3) (x_goto 82 K))))))))))) := ((xe_istore 6).trans (congrArg (x_istore 6) ((xe_iload 3).trans (congrArg (x_iload 3) ((xe_ifCond .lt 65).trans (congrArg (x_ifCond .lt 65 K) ((xe_iload 3).trans (congrArg (x_iload 3) ((xe_iconst 7).trans (congrArg (x_iconst 7) ((xe_if_icmp .le 83).trans (congrArg (x_if_icmp .le 83 K) ((xe_iload 5).trans (congrArg (x_iload 5) ((xe_ifCond .ne 75).trans (congrArg (x_ifCond .ne 75 K) ((xe_iload 6).trans (congrArg (x_iload 6) ((xe_ifCond .eq 80).trans (congrArg (x_ifCond .eq 80 K) ((xe_iconst (-3)).trans (congrArg (x_iconst (-3)) (xe_goto 82)))))))))))))))))))))))
theorem bk_X10_row_65 : ck_ fX10 (some .int) cX10_row 65 [.iload 5, .ifCond .ne 75, .iload 6, .ifCond .eq 80, .iconst (-3), .goto 82] 80 = true := qck_r (nn_ _) (by decide +kernel)
theorem bs_X10_row_65 {P : Zt → Option Zv → Prop} (K : Int → Zl → List Zv → Zt → Prop) : sx_ K P [.iload 5, .ifCond .ne 75, .iload 6, .ifCond .eq 80, .iconst (-3), .goto 82] 80 = x_iload 5 (x_ifCond .ne 75 K (x_iload 6 (x_ifCond .eq 80 K (x_iconst (-3) (x_goto 82 K))))) := ((xe_iload 5).trans (congrArg (x_iload 5) ((xe_ifCond .ne 75).trans (congrArg (x_ifCond .ne 75 K) ((xe_iload 6).trans (congrArg (x_iload 6) ((xe_ifCond .eq 80).trans (congrArg (x_ifCond .eq 80 K) ((xe_iconst (-3)).trans (congrArg (x_iconst (-3)) (xe_goto 82)))))))))))
theorem bk_X10_row_75 : ck_ fX10 (some .int) cX10_row 75 [.iconst (-3), .goto 82] 80 = true := qck_r (nn_ _) (by decide +kernel)
theorem bs_X10_row_75 {P : Zt → Option Zv → Prop} (K : Int → Zl → List Zv → Zt → Prop) : sx_ K P [.iconst (-3), .goto 82] 80 = x_iconst (-3) (x_goto 82 K) := ((xe_iconst (-3)).trans (congrArg (x_iconst (-3)) (xe_goto 82)))
theorem bk_X10_row_82 : ck_ fX10 (some .int) cX10_row 82 [.ireturn] 83 = true := qck_r (nn_ _) (by decide +kernel)
theorem bs_X10_row_82 {P : Zt → Option Zv → Prop} (K : Int → Zl → List Zv → Zt → Prop) : sx_ K P [.ireturn] 83 = x_ireturn P := (xe_ireturn)
theorem bk_X10_row_80 : ck_ fX10 (some .int) cX10_row 80 [.iconst (-2), .ireturn] 83 = true := qck_r (nn_ _) (by decide +kernel)
theorem bs_X10_row_80 {P : Zt → Option Zv → Prop} (K : Int → Zl → List Zv → Zt → Prop) : sx_ K P [.iconst (-2), .ireturn] 83 = x_iconst (-2) (x_ireturn P) := ((xe_iconst (-2)).trans (congrArg (x_iconst (-2)) (xe_ireturn)))
theorem bk_X10_row_83 : ck_ fX10 (some .int) cX10_row 83 [.iload 3, .iconst 4, .if_icmp .ge 110, .iload 5, .ifCond .eq 107, .aload 4, .tableswitch 0 3 14 #[], .iload 2, .iconst 4, .imul, .iload 3, .iadd, .iaload, .goto 109] 107 = true := qck_r (nn_ _) (by decide +kernel)
theorem bs_X10_row_83 {P : Zt → Option Zv → Prop} (K : Int → Zl → List Zv → Zt → Prop) : sx_ K P [.iload 3, .iconst 4, .if_icmp .ge 110, .iload 5, .ifCond .eq 107, .aload 4, .tableswitch 0 3 14 #[], .iload 2, .iconst 4, .imul, .iload 3, .iadd, .iaload, .goto 109] 107 = x_iload 3 (x_iconst 4 (x_if_icmp .ge 110 K (x_iload 5 (x_ifCond .eq 107 K (x_aload 4 (x_g3 103 190 14 (x_iload 2 (x_iconst 4 (x_imul (x_iload 3 (x_iadd (x_iaload (x_goto 109 K))))))))))))) := ((xe_iload 3).trans (congrArg (x_iload 3) ((xe_iconst 4).trans (congrArg (x_iconst 4) ((xe_if_icmp .ge 110).trans (congrArg (x_if_icmp .ge 110 K) ((xe_iload 5).trans (congrArg (x_iload 5) ((xe_ifCond .eq 107).trans (congrArg (x_ifCond .eq 107 K) ((xe_aload 4).trans (congrArg (x_aload 4) ((xe_g3 (kk := 103) rfl tl_3_14).trans (congrArg (x_g3 103 190 14) ((xe_iload 2).trans (congrArg (x_iload 2) ((xe_iconst 4).trans (congrArg (x_iconst 4) ((xe_imul).trans (congrArg (x_imul) ((xe_iload 3).trans (congrArg (x_iload 3) ((xe_iadd).trans (congrArg (x_iadd) ((xe_iaload).trans (congrArg (x_iaload) (xe_goto 109)))))))))))))))))))))))))))
theorem bk_X10_row_110 : ck_ fX10 (some .int) cX10_row 110 [.iload 6, .ifCond .eq 131, .aload 4, .tableswitch 0 3 16 #[], .iload 2, .iconst 4, .imul, .iload 3, .iadd, .iconst 4, .isub, .iaload, .goto 133] 131 = true := qck_r (nn_ _) (by decide +kernel)
theorem bs_X10_row_110 {P : Zt → Option Zv → Prop} (K : Int → Zl → List Zv → Zt → Prop) : sx_ K P [.iload 6, .ifCond .eq 131, .aload 4, .tableswitch 0 3 16 #[], .iload 2, .iconst 4, .imul, .iload 3, .iadd, .iconst 4, .isub, .iaload, .goto 133] 131 = x_iload 6 (x_ifCond .eq 131 K (x_aload 4 (x_g3 103 190 16 (x_iload 2 (x_iconst 4 (x_imul (x_iload 3 (x_iadd (x_iconst 4 (x_isub (x_iaload (x_goto 133 K)))))))))))) := ((xe_iload 6).trans (congrArg (x_iload 6) ((xe_ifCond .eq 131).trans (congrArg (x_ifCond .eq 131 K) ((xe_aload 4).trans (congrArg (x_aload 4) ((xe_g3 (kk := 103) rfl tl_3_16).trans (congrArg (x_g3 103 190 16) ((xe_iload 2).trans (congrArg (x_iload 2) ((xe_iconst 4).trans (congrArg (x_iconst 4) ((xe_imul).trans (congrArg (x_imul) ((xe_iload 3).trans (congrArg (x_iload 3) ((xe_iadd).trans (congrArg (x_iadd) ((xe_iconst 4).trans (congrArg (x_iconst 4) ((xe_isub).trans (congrArg (x_isub) ((xe_iaload).trans (congrArg (x_iaload) (xe_goto 133)))))))))))))))))))))))))
theorem bk_X10_row_131 : ck_ fX10 (some .int) cX10_row 131 [.iconst (-2), .ireturn] 134 = true := qck_r (nn_ _) (by decide +kernel)
theorem bs_X10_row_131 {P : Zt → Option Zv → Prop} (K : Int → Zl → List Zv → Zt → Prop) : sx_ K P [.iconst (-2), .ireturn] 134 = x_iconst (-2) (x_ireturn P) := ((xe_iconst (-2)).trans (congrArg (x_iconst (-2)) (xe_ireturn)))
theorem bk_X10_row_133 : ck_ fX10 (some .int) cX10_row 133 [.ireturn] 134 = true := qck_r (nn_ _) (by decide +kernel)
theorem bs_X10_row_133 {P : Zt → Option Zv → Prop} (K : Int → Zl → List Zv → Zt → Prop) : sx_ K P [.ireturn] 134 = x_ireturn P := (xe_ireturn)
theorem bk_X10_row_107 : ck_ fX10 (some .int) cX10_row 107 [.iconst (-2), .ireturn] 110 = true := qck_r (nn_ _) (by decide +kernel)
theorem bs_X10_row_107 {P : Zt → Option Zv → Prop} (K : Int → Zl → List Zv → Zt → Prop) : sx_ K P [.iconst (-2), .ireturn] 110 = x_iconst (-2) (x_ireturn P) := ((xe_iconst (-2)).trans (congrArg (x_iconst (-2)) (xe_ireturn)))
theorem bk_X10_row_109 : ck_ fX10 (some .int) cX10_row 109 [.ireturn] 110 = true := qck_r (nn_ _) (by decide +kernel)
theorem bs_X10_row_109 {P : Zt → Option Zv → Prop} (K : Int → Zl → List Zv → Zt → Prop) : sx_ K P [.ireturn] 110 = x_ireturn P := (xe_ireturn)
abbrev po_X10_row (T : Zt) (N : Int) (m i w : Int) : Zt → Option Zv → Prop := fun T' r => T = T' ∧ ∃ x : Int, r = some (vI x) ∧ (True)
set_option maxHeartbeats 4000000 in
theorem ct_X10_row {T : Zt} {N : Int} {m i w : Int} (hka : KA_ T) (hkm : KM_ T) (hkr : KR_ T) (hlp : LP_ N T) (hN : 0 ≤ N ∧ N ≤ 511) (h9 : 0 ≤ T 191 0 0 ∧ T 191 0 0 ≤ 900000000) : Ct_ yX10_row zX10_row T [vR 110 0, vI m, vI i, vI w] (po_X10_row T N m i w) := by
  refine ct_of pn_10 rfl rfl (Nat.le_of_ble_eq_true rfl) (fun hT hav => ?_)
  have hr_m : -2147483648 ≤ m ∧ m ≤ 2147483647 := hav (vI m) (List.mem_cons_of_mem _ List.mem_cons_self)
  have hr_i : -2147483648 ≤ i ∧ i ≤ 2147483647 := hav (vI i) (List.mem_cons_of_mem _ (List.mem_cons_of_mem _ List.mem_cons_self))
  have hr_w : -2147483648 ≤ w ∧ w ≤ 2147483647 := hav (vI w) (List.mem_cons_of_mem _ (List.mem_cons_of_mem _ (List.mem_cons_of_mem _ List.mem_cons_self)))
  have hz : zX10_row.2.2.2.1 = some .boolean → ∀ (T' : Zt) (x : Int), po_X10_row T N m i w T' (some (vI x)) → 0 ≤ x ∧ x ≤ 1 := fun h => by cases h
  have hb_matchCount : 0 ≤ T 106 0 4 ∧ T 106 0 4 ≤ 400 := bd_f hT 106 4 tl_6_4 0
  show J_ zX10_row T (po_X10_row T N m i w) 0 0 0 [some (vR 110 0), some (vI m), some (vI i), some (vI w), none, none, none] [] T
  refine j_blx (F := fX10) tb_X10 (nn_ _) bk_X10_row_0 bs_X10_row_0 hz (fun K hK => ?_)
  refine hK 2 _ [vI m, vR 110 0] T ?_
  refine j_callV (y := yX10_isMatch) (Yc := zX10_isMatch) (rest := []) [vI m] (ct_X10_isMatch (T := T)) cl_X10_195 (qd_c (by decide +kernel)) (nn_ _) rfl (rf_of rfl) (Nat.le_of_ble_eq_true rfl) (Nat.le_of_ble_eq_true rfl) (Nat.le_of_ble_eq_true rfl) rfl ?_
  rintro _ _ ⟨rfl, x1, rfl, hx1⟩
  show J_ zX10_row T (po_X10_row T N m i w) 0 0 5 _ [vI x1] T
  refine j_blx (F := fX10) tb_X10 (nn_ _) bk_X10_row_5 bs_X10_row_5 hz (fun K hK => ?_)
  refine And.intro (fun c2 => ?_) (fun c2 => ?_)
  · replace hx1 := hx1.resolve_right (fun z => c2 z.1)
    clear c2
    refine hK 11 _ [] T ?_
    refine j_blx (F := fX10) tb_X10 (nn_ _) bk_X10_row_11 bs_X10_row_11 hz (fun K hK => ?_)
    refine ix_i (by omega) ?_
    refine And.intro (fun c3 => ?_) (fun c3 => ?_)
    · exact absurd (show T 523 0 (m) = 0 by omega) (hka.2 _ (by omega) (by omega))
    · refine And.intro (fun c4 => ?_) (fun c4 => ?_)
      · refine (show po_X10_row T N m i w T (some (vI (-2))) from ?_)
        exact ⟨rfl, _, rfl, by trivial⟩
      · have hl := hlp m (by omega) (by omega) (by omega)
        obtain ⟨⟨a1, a2, a3, a4, a5, a6, a7, a8, a9⟩, b1, b2, b3⟩ := hl
        have hr := hkr _ a8 a9
        have z1 := lz_b b1
        have z2 := lz_b b2
        have g14 : (-2147483648) ≤ T 103 m 14 ∧ T 103 m 14 ≤ 2147483647 := bd_f hT 103 14 tl_3_14 m
        have g16 : (-2147483648) ≤ T 103 m 16 ∧ T 103 m 16 ≤ 2147483647 := bd_f hT 103 16 tl_3_16 m
        refine hK 33 [some (vR 110 0), some (vI m), some (vI i), some (vI w), some (vR 103 m), none, none] [] T ?_
        refine j_blx (F := fX10) tb_X10 (nn_ _) bk_X10_row_33 bs_X10_row_33 hz (fun K hK => ?_)
        intro b5 b5b
        refine hK 39 _ [vI (T 103 m 15), vI i] T ?_
        refine j_callS (y := yX10_isBelow) (Yc := zX10_isBelow) (rest := []) [vI i, vI (T 103 m 15)] (ct_X10_isBelow (T := T)) cl_X10_115 (qd_c (by decide +kernel)) (nn_ _) rfl (rf_of rfl) (Nat.le_of_ble_eq_true rfl) (Nat.le_of_ble_eq_true rfl) (Nat.le_of_ble_eq_true rfl) rfl ?_
        rintro _ _ ⟨rfl, x6, rfl, hx6⟩
        show J_ zX10_row T (po_X10_row T N m i w) 0 0 42 _ [vI x6] T
        refine j_blx (F := fX10) tb_X10 (nn_ _) bk_X10_row_42 bs_X10_row_42 hz (fun K hK => ?_)
        intro b7 b7b
        refine hK 50 [some (vR 110 0), some (vI m), some (vI i), some (vI w), some (vR 103 m), some (vI x6), none] [vI (T 103 m 17), vI i] T ?_
        refine j_callS (y := yX10_isBelow) (Yc := zX10_isBelow) (rest := []) [vI i, vI (T 103 m 17)] (ct_X10_isBelow (T := T)) cl_X10_115 (qd_c (by decide +kernel)) (nn_ _) rfl (rf_of rfl) (Nat.le_of_ble_eq_true rfl) (Nat.le_of_ble_eq_true rfl) (Nat.le_of_ble_eq_true rfl) rfl ?_
        rintro _ _ ⟨rfl, x8, rfl, hx8⟩
        show J_ zX10_row T (po_X10_row T N m i w) 0 0 53 _ [vI x8] T
        refine j_blx (F := fX10) tb_X10 (nn_ _) bk_X10_row_53 bs_X10_row_53 hz (fun K hK => ?_)
        refine And.intro (fun c9 => ?_) (fun c9 => ?_)
        · refine hK 65 [some (vR 110 0), some (vI m), some (vI i), some (vI w), some (vR 103 m), some (vI x6), some (vI x8)] [] T ?_
          refine j_blx (F := fX10) tb_X10 (nn_ _) bk_X10_row_65 bs_X10_row_65 hz (fun K hK => ?_)
          refine And.intro (fun c10 => ?_) (fun c10 => ?_)
          · refine hK 75 _ [] T ?_
            refine j_blx (F := fX10) tb_X10 (nn_ _) bk_X10_row_75 bs_X10_row_75 hz (fun K hK => ?_)
            refine hK 82 _ [vI (-3)] T ?_
            refine j_blx (F := fX10) tb_X10 (nn_ _) bk_X10_row_82 bs_X10_row_82 hz (fun K hK => ?_)
            refine (show po_X10_row T N m i w T (some (vI (-3))) from ?_)
            exact ⟨rfl, _, rfl, by trivial⟩
          · refine And.intro (fun c11 => ?_) (fun c11 => ?_)
            · refine hK 80 _ [] T ?_
              refine j_blx (F := fX10) tb_X10 (nn_ _) bk_X10_row_80 bs_X10_row_80 hz (fun K hK => ?_)
              refine (show po_X10_row T N m i w T (some (vI (-2))) from ?_)
              exact ⟨rfl, _, rfl, by trivial⟩
            · refine hK 82 _ [vI (-3)] T ?_
              refine j_blx (F := fX10) tb_X10 (nn_ _) bk_X10_row_82 bs_X10_row_82 hz (fun K hK => ?_)
              refine (show po_X10_row T N m i w T (some (vI (-3))) from ?_)
              exact ⟨rfl, _, rfl, by trivial⟩
        · refine And.intro (fun c12 => ?_) (fun c12 => ?_)
          · refine hK 83 _ [] T ?_
            refine j_blx (F := fX10) tb_X10 (nn_ _) bk_X10_row_83 bs_X10_row_83 hz (fun K hK => ?_)
            refine And.intro (fun c13 => ?_) (fun c13 => ?_)
            · refine hK 110 _ [] T ?_
              refine j_blx (F := fX10) tb_X10 (nn_ _) bk_X10_row_110 bs_X10_row_110 hz (fun K hK => ?_)
              refine And.intro (fun c14 => ?_) (fun c14 => ?_)
              · refine hK 131 _ [] T ?_
                refine j_blx (F := fX10) tb_X10 (nn_ _) bk_X10_row_131 bs_X10_row_131 hz (fun K hK => ?_)
                refine (show po_X10_row T N m i w T (some (vI (-2))) from ?_)
                exact ⟨rfl, _, rfl, by trivial⟩
              · refine rg_i (by omega) ?_
                refine rg_i (by omega) ?_
                refine rg_i (by omega) ?_
                refine ix_i (by omega) ?_
                intro b16 b16b
                refine hK 133 _ [vI (T 190 (T 103 m 16) (((i * 4) + w) - 4))] T ?_
                refine j_blx (F := fX10) tb_X10 (nn_ _) bk_X10_row_133 bs_X10_row_133 hz (fun K hK => ?_)
                refine (show po_X10_row T N m i w T (some (vI (T 190 (T 103 m 16) (((i * 4) + w) - 4)))) from ?_)
                exact ⟨rfl, _, rfl, by trivial⟩
            · refine And.intro (fun c17 => ?_) (fun c17 => ?_)
              · refine hK 107 _ [] T ?_
                refine j_blx (F := fX10) tb_X10 (nn_ _) bk_X10_row_107 bs_X10_row_107 hz (fun K hK => ?_)
                refine (show po_X10_row T N m i w T (some (vI (-2))) from ?_)
                exact ⟨rfl, _, rfl, by trivial⟩
              · refine rg_i (by omega) ?_
                refine rg_i (by omega) ?_
                refine ix_i (by omega) ?_
                intro b19 b19b
                refine hK 109 _ [vI (T 190 (T 103 m 14) ((i * 4) + w))] T ?_
                refine j_blx (F := fX10) tb_X10 (nn_ _) bk_X10_row_109 bs_X10_row_109 hz (fun K hK => ?_)
                refine (show po_X10_row T N m i w T (some (vI (T 190 (T 103 m 14) ((i * 4) + w)))) from ?_)
                exact ⟨rfl, _, rfl, by trivial⟩
          · refine And.intro (fun c20 => ?_) (fun c20 => ?_)
            · refine hK 75 _ [] T ?_
              refine j_blx (F := fX10) tb_X10 (nn_ _) bk_X10_row_75 bs_X10_row_75 hz (fun K hK => ?_)
              refine hK 82 _ [vI (-3)] T ?_
              refine j_blx (F := fX10) tb_X10 (nn_ _) bk_X10_row_82 bs_X10_row_82 hz (fun K hK => ?_)
              refine (show po_X10_row T N m i w T (some (vI (-3))) from ?_)
              exact ⟨rfl, _, rfl, by trivial⟩
            · refine And.intro (fun c21 => ?_) (fun c21 => ?_)
              · refine hK 80 _ [] T ?_
                refine j_blx (F := fX10) tb_X10 (nn_ _) bk_X10_row_80 bs_X10_row_80 hz (fun K hK => ?_)
                refine (show po_X10_row T N m i w T (some (vI (-2))) from ?_)
                exact ⟨rfl, _, rfl, by trivial⟩
              · refine hK 82 _ [vI (-3)] T ?_
                refine j_blx (F := fX10) tb_X10 (nn_ _) bk_X10_row_82 bs_X10_row_82 hz (fun K hK => ?_)
                refine (show po_X10_row T N m i w T (some (vI (-3))) from ?_)
                exact ⟨rfl, _, rfl, by trivial⟩
  · replace hx1 := hx1.resolve_left (fun z => absurd (c2.symm.trans z.1) (by decide))
    clear c2
    refine (show po_X10_row T N m i w T (some (vI (-2))) from ?_)
    exact ⟨rfl, _, rfl, by trivial⟩
abbrev cX10_start : ByteArray := prog_1_method_21_code
def yX10_start : MethodName := ⟨RX10, "start", "(I)I"⟩
def zX10_start : Zm := (RX10, cX10_start, 3, (some .int), { frames := 2, cells := 11, slots := 130, locals := 53 })
set_option maxRecDepth 100000 in
theorem cl_X10_264 : cv_ RX10 264 yX2_hasEnoughListed zX2_hasEnoughListed 2 0 := ⟨gi_V (lwq_4 (dqc_m (dqc_m (dqc_m (dqc_m (dqc_m (dqa_m (List.mem_of_getElem? (i := 7) rfl))))))) rfl : Cond.methodLink RX10 264 yX2_hasEnoughListed ∈ lw_g) (lwq_4 (dqc_m (dqc_m (dqc_m (dqc_m (dqc_m (dqa_m (dqa_m (List.mem_of_getElem? (i := 0) rfl)))))))) rfl : Cond.instanceMethod yX2_hasEnoughListed ∈ lw_g) (lwq_4 (dqc_m (dqc_m (dqc_m (dqc_m (dqc_m (dqa_m (dqa_m (List.mem_of_getElem? (i := 1) rfl)))))))) rfl : Cond.selects yX2_hasEnoughListed.cls yX2_hasEnoughListed yX2_hasEnoughListed ∈ lw_g) (lwq_1 (dqa_m (dqa_m (List.mem_of_getElem? (i := 0) rfl))) rfl : Cond.initialized yX2_hasEnoughListed.cls ∈ lw_g) (lwq_4 (dqc_m (dqc_m (dqc_m (dqc_m (dqc_m (dqa_m (dqa_m (List.mem_of_getElem? (i := 2) rfl)))))))) rfl : Cond.code yX2_hasEnoughListed cX2_hasEnoughListed 1 (some .boolean) ∈ lw_g), ⟨nmh_10.1, nmh_10.2, pdq_18⟩, ⟨_, _, rfl⟩⟩
set_option maxRecDepth 100000 in
theorem ci_X10_269 : ci_ RX10 269 yX3_init zX3_init 3 := ⟨gi_c (lwq_4 (dqc_m (dqc_m (dqc_m (dqc_m (dqc_m (dqa_m (dqa_m (List.mem_of_getElem? (i := 7) rfl)))))))) rfl : Cond.code yX3_init cX3_init 4 none ∈ lw_g), (lwq_1 (dqa_m (dqa_m (List.mem_of_getElem? (i := 2) rfl))) rfl : Cond.initialized yX3_init.cls ∈ lw_g), (lwq_4 (dqc_m (dqc_m (dqc_m (dqc_m (dqc_m (dqa_m (dqa_m (List.mem_of_getElem? (i := 5) rfl)))))))) rfl : Cond.methodLink RX10 269 yX3_init ∈ lw_g), (lwq_4 (dqc_m (dqc_m (dqc_m (dqc_m (dqc_m (dqa_m (dqa_m (List.mem_of_getElem? (i := 6) rfl)))))))) rfl : Cond.instanceMethod yX3_init ∈ lw_g), rfl, rfl, ⟨by decide, by decide, by decide +kernel⟩⟩
theorem fr5_X10_272 : fr5_ RX10 272 2 10 := ⟨_, _, _, rfl, by decide, by decide, (lwq_4 (dqa_m (dqa_m (dqa_m (List.mem_of_getElem? (i := 1) rfl)))) rfl : Cond.fieldLink RX10 272 _ _ _ ∈ lw_g), rfl, fun a => ⟨.object "SportsHouse$Play", by decide +kernel, rfl, rfl⟩⟩
set_option maxRecDepth 100000 in
theorem cl_X10_276 : cv_ RX10 276 yX3_backToBeginning zX3_backToBeginning 3 0 := ⟨gi_V (lwq_5 (dqa_m (List.mem_of_getElem? (i := 6) rfl)) rfl : Cond.methodLink RX10 276 yX3_backToBeginning ∈ lw_g) (lwq_5 (dqa_m (List.mem_of_getElem? (i := 7) rfl)) rfl : Cond.instanceMethod yX3_backToBeginning ∈ lw_g) (lwq_5 (dqa_m (dqa_m (List.mem_of_getElem? (i := 0) rfl))) rfl : Cond.selects yX3_backToBeginning.cls yX3_backToBeginning yX3_backToBeginning ∈ lw_g) (lwq_1 (dqa_m (dqa_m (List.mem_of_getElem? (i := 2) rfl))) rfl : Cond.initialized yX3_backToBeginning.cls ∈ lw_g) (lwq_5 (dqa_m (dqa_m (List.mem_of_getElem? (i := 1) rfl))) rfl : Cond.code yX3_backToBeginning cX3_backToBeginning 3 none ∈ lw_g), ⟨nmh_3.1, nmh_3.2, pdq_1⟩, ⟨_, _, rfl⟩⟩
abbrev po_X10_start (T : Zt) (N : Int) (m : Int) : Zt → Option Zv → Prop := fun T' r => ∃ x : Int, r = some (vI x) ∧ fr_ [(153, []), (103, []), (102, [10]), (466, []), (467, []), (468, []), (469, []), (470, []), (471, []), (472, []), (473, []), (190, []), (191, [0])] T T' ∧ LP_ N T' ∧ lh_ T T' ∧ T' 191 0 0 ≤ T 191 0 0 + 600 ∧ NA_ T' ∧ ∀ k i j, i ≠ m → k ≠ 190 → k ≠ 191 → T' k i j = T k i j
def nm_ (T T' : Zt) (c h a d : Int) : Prop := (T' 106 0 4 = T 106 0 4 + 1 ∧ T 106 0 4 < 400 ∧ h < T 100 c 5 ∧ a < T 100 c 5) ∧ (∀ k i j, k = 102 ∨ k = 152 → i ≠ T 106 0 4 → T' k i j = T k i j) ∧ (∀ j, j ≠ T 106 0 4 → T' 523 0 j = T 523 0 j) ∧ T' 523 0 (T 106 0 4) = 1 ∧ (T' 102 (T 106 0 4) 0 = c ∧ T' 102 (T 106 0 4) 1 = T 106 0 4 ∧ T' 102 (T 106 0 4) 3 = T 403 c h ∧ T' 102 (T 106 0 4) 4 = T 403 c a ∧ T' 102 (T 106 0 4) 5 = d ∧ T' 102 (T 106 0 4) 10 = 0) ∧ NA_ T'
abbrev cX6_addFixture : ByteArray := prog_8_method_4_code
def yX6_addFixture : MethodName := ⟨RX6, "addFixture", "(LSportsHouse$Competition;IIII)V"⟩
def zX6_addFixture : Zm := (RX6, cX6_addFixture, 6, none, { frames := 2, cells := 3, slots := 34, locals := 56 })
set_option maxRecDepth 100000 in
theorem ci_X6_85 : ci_ RX6 85 yX2_init zX2_init 6 := ⟨gi_c (lwq_3 (dqc_m (dqc_m (dqc_m (dqc_m (dqc_m (dqc_m (dqc_m (List.mem_of_getElem? (i := 0) rfl)))))))) rfl : Cond.code yX2_init cX2_init 7 none ∈ lw_g), (lwq_1 (dqa_m (dqa_m (List.mem_of_getElem? (i := 0) rfl))) rfl : Cond.initialized yX2_init.cls ∈ lw_g), (lwq_3 (dqc_m (dqc_m (dqc_m (dqc_m (dqc_m (dqc_m (dqa_m (dqa_m (dqa_m (List.mem_of_getElem? (i := 6) rfl)))))))))) rfl : Cond.methodLink RX6 85 yX2_init ∈ lw_g), (lwq_3 (dqc_m (dqc_m (dqc_m (dqc_m (dqc_m (dqc_m (dqa_m (dqa_m (dqa_m (List.mem_of_getElem? (i := 7) rfl)))))))))) rfl : Cond.instanceMethod yX2_init ∈ lw_g), rfl, rfl, ⟨by decide, by decide, by decide +kernel⟩⟩
/-- how far a place is from the round's own, in the circle -/
def lv_ (R r q : Int) : Int := if q = R then 0 else min (max (q - r) (r - q)) (R - max (q - r) (r - q))
theorem lv_R (R r : Int) : lv_ R r R = 0 := by unfold lv_; rw [if_pos rfl]
theorem lv_r {R r : Int} (h : 0 ≤ r ∧ r < R) : lv_ R r r = 0 := by unfold lv_; rw [if_neg (by omega)]; omega
theorem em_2 {x R : Int} (h : 0 ≤ x) (g : x < 2 * R) : (x < R ∧ x % R = x) ∨ (R ≤ x ∧ x % R = x - R) := by
  by_cases z : x < R
  · exact Or.inl ⟨z, Int.emod_eq_of_lt h z⟩
  · refine Or.inr ⟨by omega, ?_⟩
    rw [← Int.sub_emod_right, Int.emod_eq_of_lt (by omega) (by omega)]
theorem lv_a {R r k : Int} (hr : 0 ≤ r ∧ r < R) (hk : 1 ≤ k ∧ 2 * k ≤ R) : lv_ R r ((r + k) % R) = k := by
  have h := em_2 (x := r + k) (R := R) (by omega) (by omega)
  unfold lv_
  rw [if_neg (by omega)]
  omega
theorem lv_b {R r k : Int} (hr : 0 ≤ r ∧ r < R) (hk : 1 ≤ k ∧ 2 * k ≤ R) : lv_ R r ((r - k + R) % R) = k := by
  have h := em_2 (x := r - k + R) (R := R) (by omega) (by omega)
  unfold lv_
  rw [if_neg (by omega)]
  omega
def KEc_ (T : Zt) (c : Int) : Prop := ∀ j : Int, 0 ≤ j → j < T 100 c 5 → T 404 c (T 403 c j) = j
theorem KEc_f {ws : List (Nat × List Int)} {T T' : Zt} {c : Int} (h : KEc_ T c) (f : fr_ ws T T') (w : fw_ ws 100 5 = false ∧ (∀ j, fw_ ws 404 j = false) ∧ (∀ j, fw_ ws 403 j = false)) : KEc_ T' c := fun j a b => by
  rw [f 100 c 5 w.1] at b
  rw [f 403 c j (w.2.2 j), f 404 c _ (w.2.1 _)]
  exact h j a b
/-- the matches that a plan has laid so far, from number f on -/
def RK_ (T : Zt) (c f R r k d : Int) : Prop := (0 ≤ f ∧ f ≤ T 106 0 4 ∧ T 106 0 4 ≤ 400) ∧ (∀ i, f ≤ i → i < T 106 0 4 → T 102 i 0 = c ∧ T 102 i 1 = i ∧ T 102 i 10 = 0 ∧ 0 ≤ T 404 c (T 102 i 3) ∧ 0 ≤ T 404 c (T 102 i 4) ∧ (T 102 i 5 < d ∨ (T 102 i 5 = d ∧ lv_ R r (T 404 c (T 102 i 3)) < k))) ∧ (∀ i j, f ≤ i → i < j → j < T 106 0 4 → T 102 i 3 = T 102 j 3 → T 102 i 5 ≠ T 102 j 5) ∧ (∀ i, 0 ≤ i → i < T 106 0 4 → T 523 0 i ≠ 0) ∧ NA_ T
theorem rb_next {T : Zt} {c f R r k d r' d' : Int} (h : RK_ T c f R r k d) (hd : d < d') : RK_ T c f R r' 0 d' := by
  obtain ⟨h1, h2, h3, h4, h5⟩ := h
  refine ⟨h1, fun i a b => ?_, h3, h4, h5⟩
  obtain ⟨a1, a2, a3, a4, a5, a6⟩ := h2 i a b
  exact ⟨a1, a2, a3, a4, a5, Or.inl (by omega)⟩
theorem rb_add {T T' : Zt} {c f R r k d h a : Int} (hrb : RK_ T c f R r k d) (hke : KEc_ T c) (hh : 0 ≤ h ∧ 0 ≤ a) (hl : lv_ R r h = k) (fr : fr_ [(106, [4]), (523, []), (152, []), (102, []), (448, []), (449, [])] T T') (hx : (T' = T ∧ (T 100 c 5 ≤ h ∨ T 100 c 5 ≤ a ∨ 400 ≤ T 106 0 4)) ∨ nm_ T T' c h a d) : RK_ T' c f R r (k + 1) d ∧ (∀ i j, i < f → T' 102 i j = T 102 i j) ∧ T 106 0 4 ≤ T' 106 0 4 := by
  obtain ⟨h1, h2, h3, h4, h5⟩ := hrb
  rcases hx with ⟨rfl, -⟩ | ⟨⟨n1, n2, n3, n4⟩, n5, n6, n7, ⟨m0, m1, m3, m4, m5, m10⟩, n8⟩
  · refine ⟨⟨h1, fun i a b => ?_, h3, h4, h5⟩, fun _ _ _ => rfl, by omega⟩
    obtain ⟨a1, a2, a3, a4, a5, a6⟩ := h2 i a b
    exact ⟨a1, a2, a3, a4, a5, a6.imp id (fun z => ⟨z.1, by omega⟩)⟩
  · have e4 : ∀ x, T' 404 c x = T 404 c x := fun x => fr 404 c x rfl
    have eo : ∀ i j, i ≠ T 106 0 4 → T' 102 i j = T 102 i j := fun i j hi => n5 102 i j (Or.inl rfl) hi
    have hs : T' 404 c (T' 102 (T 106 0 4) 3) = h := by rw [e4, m3]; exact hke h hh.1 n3
    have hs2 : T' 404 c (T' 102 (T 106 0 4) 4) = a := by rw [e4, m4]; exact hke a hh.2 n4
    refine ⟨⟨⟨by omega, by omega, by omega⟩, fun i p q => ?_, fun i j p q w => ?_, fun i p q => ?_, n8⟩, fun i j hi => eo i j (by omega), by omega⟩
    · by_cases z : i = T 106 0 4
      · rw [z]
        exact ⟨m0, m1, m10, by rw [hs]; omega, by rw [hs2]; omega, Or.inr ⟨m5, by rw [hs]; omega⟩⟩
      · obtain ⟨a1, a2, a3, a4, a5, a6⟩ := h2 i p (by omega)
        rw [eo i 0 z, eo i 1 z, eo i 10 z, eo i 3 z, eo i 4 z, eo i 5 z, e4, e4]
        exact ⟨a1, a2, a3, a4, a5, a6.imp id (fun z => ⟨z.1, by omega⟩)⟩
    · by_cases z : j = T 106 0 4
      · rw [z, m5, eo i 3 (by omega), eo i 5 (by omega)]
        intro e5 e6
        obtain ⟨a1, a2, a3, a4, a5, a6⟩ := h2 i p (by omega)
        rcases a6 with a6 | ⟨-, a6⟩
        · omega
        · rw [e5, ← e4, hs] at a6
          omega
      · rw [eo i 3 (by omega), eo i 5 (by omega), eo j 3 z, eo j 5 z]
        exact h3 i j p q (by omega)
    · by_cases z : i = T 106 0 4
      · rw [z, n7]; decide
      · rw [n6 i z]
        exact h4 i p (by omega)
abbrev cX0_placeCount : ByteArray := prog_2_method_2_code
def yX0_placeCount : MethodName := ⟨RX0, "placeCount", "()I"⟩
def zX0_placeCount : Zm := (RX0, cX0_placeCount, 1, (some .int), { frames := 0, cells := 0, slots := 0, locals := 0 })
theorem bk_X0_placeCount_0 : ck_ fX0 (some .int) cX0_placeCount 0 [.aload 0, .tableswitch 0 0 5 #[], .aload 0, .tableswitch 0 0 5 #[], .iconst 1, .iand, .iadd, .ireturn] 12 = true := qck_r (nn_ _) (by decide +kernel)
theorem bs_X0_placeCount_0 {P : Zt → Option Zv → Prop} (K : Int → Zl → List Zv → Zt → Prop) : sx_ K P [.aload 0, .tableswitch 0 0 5 #[], .aload 0, .tableswitch 0 0 5 #[], .iconst 1, .iand, .iadd, .ireturn] 12 = x_aload 0 (x_g0 100 5 0 12 (x_aload 0 (x_g0 100 5 0 12 (x_iconst 1 (x_iand (x_iadd (x_ireturn P))))))) := ((xe_aload 0).trans (congrArg (x_aload 0) ((xe_g0 (kk := 100) rfl tl_0_5).trans (congrArg (x_g0 100 5 0 12) ((xe_aload 0).trans (congrArg (x_aload 0) ((xe_g0 (kk := 100) rfl tl_0_5).trans (congrArg (x_g0 100 5 0 12) ((xe_iconst 1).trans (congrArg (x_iconst 1) ((xe_iand).trans (congrArg (x_iand) ((xe_iadd).trans (congrArg (x_iadd) (xe_ireturn)))))))))))))))
abbrev po_X0_placeCount (T : Zt) (c : Int) : Zt → Option Zv → Prop := fun T' r => T = T' ∧ r = some (vI (T 100 c 5 + an_ (T 100 c 5) 1))
set_option maxHeartbeats 4000000 in
theorem ct_X0_placeCount {T : Zt} {c : Int} : Ct_ yX0_placeCount zX0_placeCount T [vR 100 c] (po_X0_placeCount T c) := by
  refine ct_of pn_0 rfl rfl (Nat.le_of_ble_eq_true rfl) (fun hT hav => ?_)
  have hz : zX0_placeCount.2.2.2.1 = some .boolean → ∀ (T' : Zt) (x : Int), po_X0_placeCount T c T' (some (vI x)) → 0 ≤ x ∧ x ≤ 1 := fun h => by cases h
  have hb5 : 0 ≤ T 100 c 5 ∧ T 100 c 5 ≤ 12 := bd_f hT 100 5 tl_0_5 c
  have hp1 := an_1b (T 100 c 5)
  show J_ zX0_placeCount T (po_X0_placeCount T c) 0 0 0 [some (vR 100 c)] [] T
  refine j_blx (F := fX0) tb_X0 (nn_ _) bk_X0_placeCount_0 bs_X0_placeCount_0 hz (fun K hK => ?_)
  intro b1 b1b
  intro b2 b2b
  intro w3 w3b
  refine rg_i (by omega) ?_
  refine (show po_X0_placeCount T c T (some (vI ((T 100 c 5) + (an_ (T 100 c 5) 1)))) from ?_)
  exact ⟨rfl, rfl⟩
theorem rb_mono {T : Zt} {c f R r k k2 d : Int} (h : RK_ T c f R r k d) (g : k ≤ k2) : RK_ T c f R r k2 d := by
  obtain ⟨h1, h2, h3, h4, h5⟩ := h
  refine ⟨h1, fun i a b => ?_, h3, h4, h5⟩
  obtain ⟨a1, a2, a3, a4, a5, a6⟩ := h2 i a b
  exact ⟨a1, a2, a3, a4, a5, a6.imp id (fun z => ⟨z.1, by omega⟩)⟩
abbrev cX6_addRound : ByteArray := prog_8_method_3_code
def yX6_addRound : MethodName := ⟨RX6, "addRound", "(LSportsHouse$Competition;IIZI)V"⟩
def zX6_addRound : Zm := (RX6, cX6_addRound, 12, none, { frames := 3, cells := 18, slots := 204, locals := 81 })
set_option maxRecDepth 100000 in
theorem cl_X6_75 : cv_ RX6 75 yX6_addFixture zX6_addFixture 6 5 := ⟨gi_V (lwq_3 (dqc_m (dqc_m (dqc_m (dqc_m (dqc_m (dqc_m (dqa_m (dqa_m (dqa_m (List.mem_of_getElem? (i := 1) rfl)))))))))) rfl : Cond.methodLink RX6 75 yX6_addFixture ∈ lw_g) (lwq_3 (dqc_m (dqc_m (dqc_m (dqc_m (dqc_m (dqc_m (dqa_m (dqa_m (dqa_m (List.mem_of_getElem? (i := 3) rfl)))))))))) rfl : Cond.instanceMethod yX6_addFixture ∈ lw_g) (lw_sel 119 rfl : Cond.selects yX6_addFixture.cls yX6_addFixture yX6_addFixture ∈ lw_g) (lwq_1 (List.mem_of_getElem? (i := 4) rfl) rfl : Cond.initialized yX6_addFixture.cls ∈ lw_g) (lwq_3 (dqc_m (dqc_m (dqc_m (dqc_m (dqc_m (dqc_m (dqa_m (dqa_m (dqa_m (List.mem_of_getElem? (i := 4) rfl)))))))))) rfl : Cond.code yX6_addFixture cX6_addFixture 6 none ∈ lw_g), ⟨nmh_6.1, nmh_6.2, pdq_34⟩, ⟨_, _, rfl⟩⟩
set_option maxRecDepth 100000 in
theorem cl_X6_63 : cv_ RX6 63 yX0_placeCount zX0_placeCount 0 0 := ⟨gi_V (lwq_3 (dqc_m (dqc_m (dqc_m (dqc_m (dqc_m (dqc_m (dqa_m (dqa_m (List.mem_of_getElem? (i := 4) rfl))))))))) rfl : Cond.methodLink RX6 63 yX0_placeCount ∈ lw_g) (lwq_3 (dqc_m (dqc_m (dqc_m (dqc_m (dqc_m (dqc_m (dqa_m (List.mem_of_getElem? (i := 1) rfl)))))))) rfl : Cond.instanceMethod yX0_placeCount ∈ lw_g) (lwq_3 (dqc_m (dqc_m (dqc_m (dqc_m (dqc_m (dqc_m (dqa_m (List.mem_of_getElem? (i := 2) rfl)))))))) rfl : Cond.selects yX0_placeCount.cls yX0_placeCount yX0_placeCount ∈ lw_g) (lwq_1 (dqa_m (List.mem_of_getElem? (i := 7) rfl)) rfl : Cond.initialized yX0_placeCount.cls ∈ lw_g) (lwq_3 (dqc_m (dqc_m (dqc_m (dqc_m (dqc_m (dqc_m (dqa_m (List.mem_of_getElem? (i := 3) rfl)))))))) rfl : Cond.code yX0_placeCount cX0_placeCount 1 (some .int) ∈ lw_g), ⟨nmh_11.1, nmh_11.2, pdq_17⟩, ⟨_, _, rfl⟩⟩
theorem mlb {a b A B : Int} (h : 0 ≤ a ∧ a ≤ A) (g : 0 ≤ b ∧ b ≤ B) : 0 ≤ a * b ∧ a * b ≤ A * B := ⟨Int.mul_nonneg h.1 g.1, Int.mul_le_mul h.2 g.2 g.1 (by omega)⟩
theorem sc_b {l q R L E b : Int} (hl : 0 ≤ l ∧ l < L) (hq : 0 ≤ q ∧ q < R) (hE : 1 ≤ E) (hb : 0 ≤ b) (h : b + (R * L - 1) * E ≤ 999) : 0 ≤ b + (l * R + q) * E ∧ b + (l * R + q) * E ≤ 999 := by
  have h1 : l * R + R ≤ R * L := by
    have : (l + 1) * R ≤ L * R := Int.mul_le_mul_of_nonneg_right (by omega) (by omega)
    rw [Int.add_mul, Int.one_mul] at this
    rw [Int.mul_comm R L]
    exact this
  have h2 : (l * R + q) * E ≤ (R * L - 1) * E := Int.mul_le_mul_of_nonneg_right (by omega) (by omega)
  have h3 : 0 ≤ (l * R + q) * E := Int.mul_nonneg (by have := Int.mul_nonneg hl.1 (show 0 ≤ R by omega); omega) (by omega)
  omega
theorem sc_n (l q R E b : Int) : b + (l * R + (q + 1)) * E = b + (l * R + q) * E + E := by
  rw [← Int.add_assoc, Int.add_mul, Int.one_mul, ← Int.add_assoc]
theorem sc_l (l q R E b : Int) (h : q = R) : b + ((l + 1) * R + 0) * E = b + (l * R + q) * E := by
  rw [h, Int.add_mul l 1 R, Int.one_mul, Int.add_zero]
abbrev cX0_daysFromFirstToLast : ByteArray := prog_2_method_3_code
def yX0_daysFromFirstToLast : MethodName := ⟨RX0, "daysFromFirstToLast", "()I"⟩
def zX0_daysFromFirstToLast : Zm := (RX0, cX0_daysFromFirstToLast, 2, (some .int), { frames := 1, cells := 0, slots := 0, locals := 20 })
theorem bk_X0_daysFromFirstToLast_0 : ck_ fX0 (some .int) cX0_daysFromFirstToLast 0 [.aload 0] 1 = true := qck_r (nn_ _) (by decide +kernel)
theorem bs_X0_daysFromFirstToLast_0 {P : Zt → Option Zv → Prop} (K : Int → Zl → List Zv → Zt → Prop) : sx_ K P [.aload 0] 1 = x_aload 0 (K 1) := ((xe_aload 0).trans (congrArg (x_aload 0) xe_nil))
set_option maxRecDepth 100000 in
theorem cl_X0_37 : cv_ RX0 37 yX0_placeCount zX0_placeCount 0 0 := ⟨gi_V (lwq_3 (dqc_m (dqc_m (dqc_m (dqc_m (dqc_m (dqc_m (dqa_m (List.mem_of_getElem? (i := 0) rfl)))))))) rfl : Cond.methodLink RX0 37 yX0_placeCount ∈ lw_g) (lwq_3 (dqc_m (dqc_m (dqc_m (dqc_m (dqc_m (dqc_m (dqa_m (List.mem_of_getElem? (i := 1) rfl)))))))) rfl : Cond.instanceMethod yX0_placeCount ∈ lw_g) (lwq_3 (dqc_m (dqc_m (dqc_m (dqc_m (dqc_m (dqc_m (dqa_m (List.mem_of_getElem? (i := 2) rfl)))))))) rfl : Cond.selects yX0_placeCount.cls yX0_placeCount yX0_placeCount ∈ lw_g) (lwq_1 (dqa_m (List.mem_of_getElem? (i := 7) rfl)) rfl : Cond.initialized yX0_placeCount.cls ∈ lw_g) (lwq_3 (dqc_m (dqc_m (dqc_m (dqc_m (dqc_m (dqc_m (dqa_m (List.mem_of_getElem? (i := 3) rfl)))))))) rfl : Cond.code yX0_placeCount cX0_placeCount 1 (some .int) ∈ lw_g), ⟨nmh_11.1, nmh_11.2, pdq_17⟩, ⟨_, _, rfl⟩⟩
theorem bk_X0_daysFromFirstToLast_4 : ck_ fX0 (some .int) cX0_daysFromFirstToLast 4 [.iconst 1, .isub, .aload 0, .tableswitch 0 0 1 #[], .iconst 6, .iaload, .imul, .istore 1, .iload 1, .iconst 1, .isub, .aload 0, .tableswitch 0 0 1 #[], .iconst 7, .iaload, .imul, .ireturn] 27 = true := qck_r (nn_ _) (by decide +kernel)
theorem bs_X0_daysFromFirstToLast_4 {P : Zt → Option Zv → Prop} (K : Int → Zl → List Zv → Zt → Prop) : sx_ K P [.iconst 1, .isub, .aload 0, .tableswitch 0 0 1 #[], .iconst 6, .iaload, .imul, .istore 1, .iload 1, .iconst 1, .isub, .aload 0, .tableswitch 0 0 1 #[], .iconst 7, .iaload, .imul, .ireturn] 27 = x_iconst 1 (x_isub (x_aload 0 (x_g2 100 401 (x_iconst 6 (x_iaload (x_imul (x_istore 1 (x_iload 1 (x_iconst 1 (x_isub (x_aload 0 (x_g2 100 401 (x_iconst 7 (x_iaload (x_imul (x_ireturn P)))))))))))))))) := ((xe_iconst 1).trans (congrArg (x_iconst 1) ((xe_isub).trans (congrArg (x_isub) ((xe_aload 0).trans (congrArg (x_aload 0) ((xe_g2 (kk := 100) rfl tl_0_1).trans (congrArg (x_g2 100 401) ((xe_iconst 6).trans (congrArg (x_iconst 6) ((xe_iaload).trans (congrArg (x_iaload) ((xe_imul).trans (congrArg (x_imul) ((xe_istore 1).trans (congrArg (x_istore 1) ((xe_iload 1).trans (congrArg (x_iload 1) ((xe_iconst 1).trans (congrArg (x_iconst 1) ((xe_isub).trans (congrArg (x_isub) ((xe_aload 0).trans (congrArg (x_aload 0) ((xe_g2 (kk := 100) rfl tl_0_1).trans (congrArg (x_g2 100 401) ((xe_iconst 7).trans (congrArg (x_iconst 7) ((xe_iaload).trans (congrArg (x_iaload) ((xe_imul).trans (congrArg (x_imul) (xe_ireturn)))))))))))))))))))))))))))))))))
abbrev po_X0_daysFromFirstToLast (T : Zt) (c : Int) : Zt → Option Zv → Prop := fun T' r => T = T' ∧ ∃ x : Int, r = some (vI x) ∧ (x = ((T 100 c 5 + an_ (T 100 c 5) 1 - 1) * T 401 c 6 - 1) * T 401 c 7)
set_option maxHeartbeats 4000000 in
theorem ct_X0_daysFromFirstToLast {T : Zt} {c : Int} (hl : 0 ≤ T 401 c 6 ∧ T 401 c 6 ≤ 4) (hE : 1 ≤ T 401 c 7 ∧ T 401 c 7 ≤ 30) (he : 2 ≤ T 100 c 5) : Ct_ yX0_daysFromFirstToLast zX0_daysFromFirstToLast T [vR 100 c] (po_X0_daysFromFirstToLast T c) := by
  refine ct_of pn_0 rfl rfl (Nat.le_of_ble_eq_true rfl) (fun hT hav => ?_)
  have hz : zX0_daysFromFirstToLast.2.2.2.1 = some .boolean → ∀ (T' : Zt) (x : Int), po_X0_daysFromFirstToLast T c T' (some (vI x)) → 0 ≤ x ∧ x ≤ 1 := fun h => by cases h
  have hb5 : 0 ≤ T 100 c 5 ∧ T 100 c 5 ≤ 12 := bd_f hT 100 5 tl_0_5 c
  have hp1 := an_1b (T 100 c 5)
  have hp2 : T 100 c 5 = 12 → an_ (T 100 c 5) 1 = 0 := fun h => by rw [h]; decide
  have hm1 := mlb (a := T 100 c 5 + an_ (T 100 c 5) 1 - 1) (b := T 401 c 6) (A := 12) (B := 4) (by omega) (by omega)
  show J_ zX0_daysFromFirstToLast T (po_X0_daysFromFirstToLast T c) 0 0 0 [some (vR 100 c), none] [] T
  refine j_blx (F := fX0) tb_X0 (nn_ _) bk_X0_daysFromFirstToLast_0 bs_X0_daysFromFirstToLast_0 hz (fun K hK => ?_)
  refine hK 1 _ [vR 100 c] T ?_
  refine j_callV (y := yX0_placeCount) (Yc := zX0_placeCount) (rest := []) [] (ct_X0_placeCount (T := T)) cl_X0_37 (qd_c (by decide +kernel)) (nn_ _) rfl (rf_of rfl) (Nat.le_of_ble_eq_true rfl) (Nat.le_of_ble_eq_true rfl) (Nat.le_of_ble_eq_true rfl) rfl ?_
  rintro _ _ ⟨rfl, rfl⟩
  show J_ zX0_daysFromFirstToLast T (po_X0_daysFromFirstToLast T c) 0 0 4 _ [vI (T 100 c 5 + an_ (T 100 c 5) 1)] T
  refine j_blx (F := fX0) tb_X0 (nn_ _) bk_X0_daysFromFirstToLast_4 bs_X0_daysFromFirstToLast_4 hz (fun K hK => ?_)
  refine rg_i (by omega) ?_
  refine ix_i (by omega) ?_
  intro b1 b1b
  refine rg_i (by first | omega | (have y9 := mlb (a := (T 100 c 5 + an_ (T 100 c 5) 1 - 1) * T 401 c 6 - 1 + 1) (b := T 401 c 7) (A := 49) (B := 30) (by omega) (by omega); rw [Int.add_mul, Int.one_mul] at y9; omega)) ?_
  refine rg_i (by omega) ?_
  refine ix_i (by omega) ?_
  intro b2 b2b
  refine rg_i (by first | omega | (have y9 := mlb (a := (T 100 c 5 + an_ (T 100 c 5) 1 - 1) * T 401 c 6 - 1 + 1) (b := T 401 c 7) (A := 49) (B := 30) (by omega) (by omega); rw [Int.add_mul, Int.one_mul] at y9; omega)) ?_
  refine (show po_X0_daysFromFirstToLast T c T (some (vI (((((T 100 c 5 + an_ (T 100 c 5) 1) - 1) * (T 401 c 6)) - 1) * (T 401 c 7)))) from ?_)
  exact ⟨rfl, _, rfl, by rfl⟩
abbrev cX0_fixtureCount : ByteArray := prog_2_method_4_code
def yX0_fixtureCount : MethodName := ⟨RX0, "fixtureCount", "()I"⟩
def zX0_fixtureCount : Zm := (RX0, cX0_fixtureCount, 1, (some .int), { frames := 0, cells := 0, slots := 0, locals := 0 })
abbrev cX6_schedule : ByteArray := prog_8_method_2_code
def yX6_schedule : MethodName := ⟨RX6, "schedule", "(LSportsHouse$Competition;I)V"⟩
def zX6_schedule : Zm := (RX6, cX6_schedule, 7, none, { frames := 4, cells := 792, slots := 8976, locals := 112 })
set_option maxRecDepth 100000 in
theorem cl_X6_70 : cv_ RX6 70 yX6_addRound zX6_addRound 6 5 := ⟨gi_V (lwq_3 (dqc_m (dqc_m (dqc_m (dqc_m (dqc_m (dqc_m (dqa_m (dqa_m (List.mem_of_getElem? (i := 5) rfl))))))))) rfl : Cond.methodLink RX6 70 yX6_addRound ∈ lw_g) (lwq_3 (dqc_m (dqc_m (dqc_m (dqc_m (dqc_m (dqc_m (dqa_m (dqa_m (List.mem_of_getElem? (i := 7) rfl))))))))) rfl : Cond.instanceMethod yX6_addRound ∈ lw_g) (lw_sel 120 rfl : Cond.selects yX6_addRound.cls yX6_addRound yX6_addRound ∈ lw_g) (lwq_1 (List.mem_of_getElem? (i := 4) rfl) rfl : Cond.initialized yX6_addRound.cls ∈ lw_g) (lwq_3 (dqc_m (dqc_m (dqc_m (dqc_m (dqc_m (dqc_m (dqa_m (dqa_m (dqa_m (List.mem_of_getElem? (i := 0) rfl)))))))))) rfl : Cond.code yX6_addRound cX6_addRound 12 none ∈ lw_g), ⟨nmh_6.1, nmh_6.2, pdq_35⟩, ⟨_, _, rfl⟩⟩
def DD_ (T : Zt) : Prop := ∀ i j : Int, 0 ≤ i → i < j → j < T 106 0 4 → T 102 i 6 = -1 → T 102 j 6 = -1 → T 102 i 0 = T 102 j 0 → T 102 i 3 = T 102 j 3 → T 102 i 5 ≠ T 102 j 5
theorem DD__f {ws : List (Nat × List Int)} {T T' : Zt} (h : DD_ T) (f : fr_ ws T T') (w : fw_ ws 102 0 = false ∧ fw_ ws 102 3 = false ∧ fw_ ws 102 5 = false ∧ fw_ ws 102 6 = false ∧ fw_ ws 106 4 = false ∧ True) : DD_ T' := by
  have e0 : ∀ i, T' 102 i 0 = T 102 i 0 := fun i => f 102 i 0 w.1
  have e1 : ∀ i, T' 102 i 3 = T 102 i 3 := fun i => f 102 i 3 w.2.1
  have e2 : ∀ i, T' 102 i 5 = T 102 i 5 := fun i => f 102 i 5 w.2.2.1
  have e3 : ∀ i, T' 102 i 6 = T 102 i 6 := fun i => f 102 i 6 w.2.2.2.1
  have e4 : ∀ i, T' 106 i 4 = T 106 i 4 := fun i => f 106 i 4 w.2.2.2.2.1
  simp only [DD_, e0, e1, e2, e3, e4] at h ⊢
  exact h
def KP_ (T : Zt) : Prop := ∀ m : Int, 0 ≤ m → m < T 106 0 4 → T 100 (T 102 m 0) 6 = 1
theorem KP__f {ws : List (Nat × List Int)} {T T' : Zt} (h : KP_ T) (f : fr_ ws T T') (w : fw_ ws 102 0 = false ∧ fw_ ws 100 6 = false ∧ fw_ ws 106 4 = false ∧ True) : KP_ T' := by
  have e0 : ∀ i, T' 102 i 0 = T 102 i 0 := fun i => f 102 i 0 w.1
  have e1 : ∀ i, T' 100 i 6 = T 100 i 6 := fun i => f 100 i 6 w.2.1
  have e2 : ∀ i, T' 106 i 4 = T 106 i 4 := fun i => f 106 i 4 w.2.2.1
  simp only [KP_, e0, e1, e2] at h ⊢
  exact h
def KB_ (T : Zt) : Prop := ∀ c : Int, 0 ≤ c → c < T 106 0 2 → (0 ≤ T 401 c 6 ∧ T 401 c 6 ≤ 4) ∧ 1 ≤ T 401 c 7 ∧ T 401 c 7 ≤ 30
theorem KB__f {ws : List (Nat × List Int)} {T T' : Zt} (h : KB_ T) (f : fr_ ws T T') (w : (∀ j, fw_ ws 401 j = false) ∧ fw_ ws 106 2 = false ∧ True) : KB_ T' := by
  have e0 : ∀ i j, T' 401 i j = T 401 i j := fun i j => f 401 i j (w.1 j)
  have e1 : ∀ i, T' 106 i 2 = T 106 i 2 := fun i => f 106 i 2 w.2.1
  simp only [KB_, e0, e1] at h ⊢
  exact h
/-- what a plan leaves -/
def SJ_ (T T' : Zt) (c : Int) : Prop := (0 ≤ c ∧ c < T 106 0 2 ∧ T 100 c 6 = 0) ∧ fr_ [(106, [4]), (523, []), (152, []), (102, []), (448, []), (449, []), (100, [6, 7, 8])] T T' ∧ (∀ i j, i < T 106 0 4 → T' 102 i j = T 102 i j) ∧ RK_ T' c (T 106 0 4) (T 100 c 5 + an_ (T 100 c 5) 1 - 1) 0 0 2000000 ∧ (T' 100 c 6 = 1 ∧ T' 100 c 7 = T 106 0 4 ∧ T' 100 c 8 = T' 106 0 4 - T 106 0 4) ∧ ∀ i j, i ≠ c → T' 100 i j = T 100 i j
theorem sc_ic {N : Int} {T T' : Zt} {c : Int} (h : SJ_ T T' c) (hka : KA_ T) (hkm : KM_ T) (hkc : KC_ T) (hks : KS_ T) (hkp : KP_ T) (hdd : DD_ T) (hlp : LP_ N T) (hb7 : ∀ i, 0 ≤ T 100 i 7) (hm0 : 0 ≤ T 106 0 4) : KA_ T' ∧ KM_ T' ∧ KC_ T' ∧ KS_ T' ∧ KP_ T' ∧ DD_ T' ∧ NA_ T' ∧ LP_ N T' := by
  obtain ⟨⟨c0, c1, c6⟩, f, od, ⟨⟨r1, r2, r3⟩, r4, r5, r6, r7⟩, ⟨s6, s7, s8⟩, oc⟩ := h
  have e2 : T' 106 0 2 = T 106 0 2 := f 106 0 2 rfl
  have e404 : ∀ a b, T' 404 a b = T 404 a b := fun a b => f 404 a b rfl
  refine ⟨⟨fun i a b => ?_, fun i a b => r6 i a b⟩, fun m a b => ?_, fun i a b => ?_, fun i a b m p q => ?_, fun m a b => ?_, fun i j a b d g1 g2 e1 e3 => ?_, r7, fun p a b d => ?_⟩
  · rw [e2] at b
    rw [f 521 0 i rfl]
    exact hka.1 i a b
  · rw [e2]
    by_cases z : m < T 106 0 4
    · rw [od m 1 z, od m 0 z]
      exact hkm m a z
    · obtain ⟨q1, q2, -⟩ := r4 m (by omega) b
      omega
  · rw [e2] at b
    by_cases z : i = c
    · rw [z, s7, s8]; omega
    · rw [oc i 7 z, oc i 8 z]
      have := hkc i a b
      omega
  · rw [e2] at b
    by_cases z : i = c
    · rw [z, s7] at p
      rw [z, s7, s8] at q
      rw [z]
      obtain ⟨q1, q2, q3, q4, q5, -⟩ := r4 m p (by omega)
      exact ⟨q1, q4, q5⟩
    · rw [oc i 7 z] at p
      rw [oc i 7 z, oc i 8 z] at q
      have k1 := hkc i a b
      have k2 := hb7 i
      rw [od m 0 (by omega), od m 3 (by omega), od m 4 (by omega), e404, e404]
      exact hks i a b m p q
  · by_cases z : m < T 106 0 4
    · rw [od m 0 z]
      by_cases y : T 102 m 0 = c
      · rw [y]; exact s6
      · rw [oc _ 6 y]; exact hkp m a z
    · obtain ⟨q1, -⟩ := r4 m (by omega) b
      rw [q1]; exact s6
  · by_cases z : j < T 106 0 4
    · rw [od i 0 (by omega), od j 0 z] at e1
      rw [od i 3 (by omega), od j 3 z] at e3
      rw [od i 6 (by omega)] at g1
      rw [od j 6 z] at g2
      rw [od i 5 (by omega), od j 5 z]
      exact hdd i j a b z g1 g2 e1 e3
    · by_cases y : i < T 106 0 4
      · obtain ⟨q1, -⟩ := r4 j (by omega) d
        rw [od i 0 y, q1] at e1
        have := hkp i a y
        rw [e1] at this
        omega
      · exact r5 i j (by omega) b d e3
  · by_cases z : p < T 106 0 4
    · rw [od p 10 z] at d
      refine Lp_o (hlp p a z d) (by omega) ⟨fun x _ => f 190 x _ rfl, by rw [f 191 0 0 rfl]; omega⟩ (by omega) ⟨f _ _ _ rfl, f _ _ _ rfl, f _ _ _ rfl, f _ _ _ rfl, f _ _ _ rfl, f _ _ _ rfl, f _ _ _ rfl, f _ _ _ rfl⟩
    · obtain ⟨-, -, q3, -⟩ := r4 p (by omega) b
      exact absurd q3 d
theorem dy_b {R L E x : Int} (h : (0 ≤ L ∧ L ≤ 4) ∧ 1 ≤ E ∧ E ≤ 30) (g : 0 ≤ R ∧ R ≤ 12 ∧ x = (R * L - 1) * E) : -30 ≤ x ∧ x ≤ 1500 := by
  have y1 := mlb (a := R) (b := L) (A := 12) (B := 4) (by omega) (by omega)
  have y2 := mlb (a := R * L) (b := E) (A := 48) (B := 30) (by omega) (by omega)
  have y3 := g.2.2
  rw [Int.sub_mul, Int.one_mul] at y3
  omega
abbrev cX10_plan : ByteArray := prog_1_method_13_code
def yX10_plan : MethodName := ⟨RX10, "plan", "(II)I"⟩
def zX10_plan : Zm := (RX10, cX10_plan, 4, (some .int), { frames := 5, cells := 792, slots := 8976, locals := 138 })
set_option maxRecDepth 100000 in
theorem cl_X10_178 : cv_ RX10 178 yX0_daysFromFirstToLast zX0_daysFromFirstToLast 0 0 := ⟨gi_V (lwq_3 (dqc_m (dqc_m (dqc_m (dqc_m (dqc_m (dqc_m (List.mem_of_getElem? (i := 4) rfl))))))) rfl : Cond.methodLink RX10 178 yX0_daysFromFirstToLast ∈ lw_g) (lwq_3 (dqc_m (dqc_m (dqc_m (dqc_m (dqc_m (dqc_m (List.mem_of_getElem? (i := 5) rfl))))))) rfl : Cond.instanceMethod yX0_daysFromFirstToLast ∈ lw_g) (lwq_3 (dqc_m (dqc_m (dqc_m (dqc_m (dqc_m (dqc_m (List.mem_of_getElem? (i := 6) rfl))))))) rfl : Cond.selects yX0_daysFromFirstToLast.cls yX0_daysFromFirstToLast yX0_daysFromFirstToLast ∈ lw_g) (lwq_1 (dqa_m (List.mem_of_getElem? (i := 7) rfl)) rfl : Cond.initialized yX0_daysFromFirstToLast.cls ∈ lw_g) (lwq_3 (dqc_m (dqc_m (dqc_m (dqc_m (dqc_m (dqc_m (List.mem_of_getElem? (i := 7) rfl))))))) rfl : Cond.code yX0_daysFromFirstToLast cX0_daysFromFirstToLast 2 (some .int) ∈ lw_g), ⟨nmh_11.1, nmh_11.2, pdq_17⟩, ⟨_, _, rfl⟩⟩
set_option maxRecDepth 100000 in
theorem cl_X10_185 : cv_ RX10 185 yX0_fixtureCount zX0_fixtureCount 0 0 := ⟨gi_V (lwq_3 (dqc_m (dqc_m (dqc_m (dqc_m (dqc_m (dqc_m (dqa_m (List.mem_of_getElem? (i := 4) rfl)))))))) rfl : Cond.methodLink RX10 185 yX0_fixtureCount ∈ lw_g) (lwq_3 (dqc_m (dqc_m (dqc_m (dqc_m (dqc_m (dqc_m (dqa_m (List.mem_of_getElem? (i := 5) rfl)))))))) rfl : Cond.instanceMethod yX0_fixtureCount ∈ lw_g) (lwq_3 (dqc_m (dqc_m (dqc_m (dqc_m (dqc_m (dqc_m (dqa_m (List.mem_of_getElem? (i := 6) rfl)))))))) rfl : Cond.selects yX0_fixtureCount.cls yX0_fixtureCount yX0_fixtureCount ∈ lw_g) (lwq_1 (dqa_m (List.mem_of_getElem? (i := 7) rfl)) rfl : Cond.initialized yX0_fixtureCount.cls ∈ lw_g) (lwq_3 (dqc_m (dqc_m (dqc_m (dqc_m (dqc_m (dqc_m (dqa_m (List.mem_of_getElem? (i := 7) rfl)))))))) rfl : Cond.code yX0_fixtureCount cX0_fixtureCount 1 (some .int) ∈ lw_g), ⟨nmh_11.1, nmh_11.2, pdq_17⟩, ⟨_, _, rfl⟩⟩
set_option maxRecDepth 100000 in
theorem cl_X10_188 : cv_ RX10 188 yX6_schedule zX6_schedule 6 2 := ⟨gi_V (lwq_3 (dqc_m (dqc_m (dqc_m (dqc_m (dqc_m (dqc_m (dqa_m (dqa_m (List.mem_of_getElem? (i := 0) rfl))))))))) rfl : Cond.methodLink RX10 188 yX6_schedule ∈ lw_g) (lwq_3 (dqc_m (dqc_m (dqc_m (dqc_m (dqc_m (dqc_m (dqa_m (dqa_m (List.mem_of_getElem? (i := 1) rfl))))))))) rfl : Cond.instanceMethod yX6_schedule ∈ lw_g) (lwq_3 (dqc_m (dqc_m (dqc_m (dqc_m (dqc_m (dqc_m (dqa_m (dqa_m (List.mem_of_getElem? (i := 2) rfl))))))))) rfl : Cond.selects yX6_schedule.cls yX6_schedule yX6_schedule ∈ lw_g) (lwq_1 (List.mem_of_getElem? (i := 4) rfl) rfl : Cond.initialized yX6_schedule.cls ∈ lw_g) (lwq_3 (dqc_m (dqc_m (dqc_m (dqc_m (dqc_m (dqc_m (dqa_m (dqa_m (List.mem_of_getElem? (i := 3) rfl))))))))) rfl : Cond.code yX6_schedule cX6_schedule 7 none ∈ lw_g), ⟨nmh_6.1, nmh_6.2, pdq_31⟩, ⟨_, _, rfl⟩⟩
abbrev po_X10_plan (T : Zt) (c b : Int) : Zt → Option Zv → Prop := fun T' r => ∃ x : Int, r = some (vI x) ∧ (T' = T ∨ SJ_ T T' c)
abbrev po_X10_postpone_k (T : Zt) (m d : Int) : Zt → Option Zv → Prop := fun T' r => ∃ x : Int, r = some (vI x) ∧ fr_ [(535, []), (534, []), (102, [5]), (533, []), (531, []), (106, [12])] T T' ∧ (DD_ T')
theorem php : ∀ (m n : Nat) (f : Nat → Nat), (∀ i, i < n → f i < m) → (∀ i j, i < j → j < n → f i ≠ f j) → n ≤ m
  | 0, n, f, h, _ => by
    by_cases z : n = 0
    · omega
    · exact absurd (h 0 (by omega)) (by omega)
  | m + 1, 0, f, _, _ => by omega
  | m + 1, k + 1, f, h, g => by
    have ih := php m k (fun i => if f i = m then f k else f i) (fun i hi => ?_) (fun i j hij hj => ?_)
    · omega
    · show (if f i = m then f k else f i) < m
      have h1 := h i (by omega)
      have h2 := h k (by omega)
      have h3 := g i k hi (by omega)
      split <;> omega
    · show (if f i = m then f k else f i) ≠ (if f j = m then f k else f j)
      have h1 := g i j hij (by omega)
      have h2 := g i k (by omega) (by omega)
      have h3 := g j k (by omega) (by omega)
      split <;> split <;> omega
/-- matches of one day that are not walked over: at most one for each competition and home -/
def LS_ (T : Zt) (L : Int → Int) (d n k : Int) : Prop := (∀ j, 0 ≤ j → j < n → 0 ≤ L j ∧ L j < k ∧ T 102 (L j) 5 = d ∧ T 102 (L j) 6 = -1) ∧ ∀ a b, 0 ≤ a → a < b → b < n → L a < L b
theorem LS_u {T : Zt} {L L1 : Int → Int} {d n k : Int} (h : LS_ T L d n k) (e1 : L1 n = k) (e2 : ∀ j, j < n → L1 j = L j) (hk : 0 ≤ k ∧ T 102 k 5 = d ∧ T 102 k 6 = -1) : LS_ T L1 d (n + 1) (k + 1) := by
  refine ⟨fun j a b => ?_, fun a b x y z => ?_⟩
  · by_cases w : j = n
    · rw [w, e1]; omega
    · rw [e2 j (by omega)]
      have := h.1 j a (by omega)
      omega
  · by_cases w : b = n
    · rw [w, e1, e2 a (by omega)]
      exact (h.1 a x (by omega)).2.1
    · rw [e2 a (by omega), e2 b (by omega)]
      exact h.2 a b x y (by omega)
theorem LS_m {T : Zt} {L : Int → Int} {d n k k2 : Int} (h : LS_ T L d n k) (g : k ≤ k2) : LS_ T L d n k2 := ⟨fun j a b => by have := h.1 j a b; omega, h.2⟩
theorem LS_48 {T : Zt} {L : Int → Int} {d n : Int} (hT : ok_T T) (h : LS_ T L d n (T 106 0 4)) (hkm : KM_ T) (hdd : DD_ T) : n ≤ 48 := by
  have hcc : 0 ≤ T 106 0 2 ∧ T 106 0 2 ≤ 4 := bd_f hT 106 2 tl_6_2 0
  have hb : ∀ i, 0 ≤ T 102 i 3 ∧ T 102 i 3 ≤ 11 := fun i => bd_f hT 102 3 tl_2_3 i
  have key := php 48 n.toNat (fun i => (12 * T 102 (L i) 0 + T 102 (L i) 3).toNat) (fun i hi => ?_) (fun i j hij hj => ?_)
  · omega
  · have h1 := h.1 i (by omega) (by omega)
    have h2 := hkm (L i) h1.1 h1.2.1
    have h3 := hb (L i)
    show (12 * T 102 (L i) 0 + T 102 (L i) 3).toNat < 48
    omega
  · have h1 := h.1 i (by omega) (by omega)
    have h2 := hkm (L i) h1.1 h1.2.1
    have h3 := hb (L i)
    have g1 := h.1 j (by omega) (by omega)
    have g2 := hkm (L j) g1.1 g1.2.1
    have g3 := hb (L j)
    have hlt := h.2 i j (by omega) (by omega) (by omega)
    show (12 * T 102 (L i) 0 + T 102 (L i) 3).toNat ≠ (12 * T 102 (L j) 0 + T 102 (L j) 3).toNat
    intro e
    exact hdd (L i) (L j) h1.1 hlt g1.2.1 h1.2.2.2 g1.2.2.2 (by omega) (by omega) (by omega)
/-- sets of o officials as numbers below e -/
def OS_ (o e : Int) : Prop := (1 ≤ e ∧ e ≤ 256) ∧ ∀ a w, 0 ≤ a → a < e → 0 ≤ w → w < o → 0 ≤ or_ a (sl_ 1 w) ∧ or_ a (sl_ 1 w) < e
theorem sl_p {w : Int} (h : 0 ≤ w ∧ w ≤ 8) : sl_ 1 w = ((2 ^ w.toNat : Nat) : Int) := by
  have : w = 0 ∨ w = 1 ∨ w = 2 ∨ w = 3 ∨ w = 4 ∨ w = 5 ∨ w = 6 ∨ w = 7 ∨ w = 8 := by omega
  rcases this with rfl | rfl | rfl | rfl | rfl | rfl | rfl | rfl | rfl <;> decide
theorem os_1 {o : Int} (h : 0 ≤ o ∧ o ≤ 8) : OS_ o (sl_ 1 o) := by
  have h2 : (2 : Nat) ^ o.toNat ≤ 2 ^ 8 := Nat.pow_le_pow_right (by omega) (by omega)
  have h3 : 0 < (2 : Nat) ^ o.toNat := Nat.pow_pos (by omega)
  have e1 := sl_p h
  refine ⟨by rw [e1]; omega, fun a w a0 a1 w0 w1 => ?_⟩
  have e2 := sl_p (w := w) (by omega)
  have h4 : (2 : Nat) ^ w.toNat < 2 ^ o.toNat := Nat.pow_lt_pow_right (by omega) (by omega)
  rw [e1] at a1 ⊢
  have a2 : a.toNat < 2 ^ o.toNat := (Int.toNat_lt a0).mpr a1
  have h5 := Nat.or_lt_two_pow (x := a.toNat) (y := 2 ^ w.toNat) (n := o.toNat) a2 h4
  have h6 : (0 : Int) ≤ ((2 ^ w.toNat : Nat) : Int) := Int.natCast_nonneg _
  have h7n : 2 ^ w.toNat ≤ 256 := by
    have : (2 : Nat) ^ 8 = 256 := by decide
    omega
  have h7 : ((2 ^ w.toNat : Nat) : Int) ≤ ((256 : Nat) : Int) := Int.ofNat_le.mpr h7n
  have h8 : a ≤ 256 := by
    have : a.toNat ≤ 256 := by omega
    omega
  rw [or_n ⟨a0, by omega⟩ (by rw [e2]; exact ⟨h6, Int.le_trans h7 (by decide)⟩), e2, Int.toNat_natCast]
  exact ⟨Int.natCast_nonneg _, Int.ofNat_lt.mpr h5⟩
theorem bx_4 {T : Zt} (hT : ok_T T) (ha : al_ T 104 0) : T 104 0 4 < T 191 0 0 := by
  have h1 := hT.2.2.2.1 104 0 ha 4 3 190 (-2147483648) 2147483647 (by decide +kernel)
  have h2 : al_ T 190 (T 104 0 4) := ok_al (v := none) (by decide) h1
  by_cases z : T 191 0 0 ≤ T 104 0 4
  · exact absurd h2 (hT.2.2.2.2.2.2.2.2 _ z)
  · omega
theorem k1e (k e : Int) : (k + 1) * e = k * e + e := by rw [Int.add_mul, Int.one_mul]
theorem k2e (k e : Int) : (k + 2) * e = k * e + e + e := by rw [show k + 2 = k + 1 + 1 by omega, k1e, k1e]
theorem kse {k s e : Int} (h : k + 2 ≤ s + 1) (he : 0 ≤ e) : (k + 2) * e ≤ (s + 1) * e := Int.mul_le_mul_of_nonneg_right h he
abbrev po_X2_isDecided_k (T : Zt) (p : Int) : Zt → Option Zv → Prop := fun T' r => T = T' ∧ ∃ x : Int, r = some (vI x) ∧ (0 ≤ x ∧ x ≤ 1 ∧ (x = 0 → T 102 p 6 = -1))
set_option maxHeartbeats 4000000 in
theorem ct_X2_isDecided_k {T : Zt} {p : Int} : Ct_ yX2_isDecided zX2_isDecided T [vR 102 p] (po_X2_isDecided_k T p) := by
  refine ct_of pn_2 rfl rfl (Nat.le_of_ble_eq_true rfl) (fun hT hav => ?_)
  have hz : zX2_isDecided.2.2.2.1 = some .boolean → ∀ (T' : Zt) (x : Int), po_X2_isDecided_k T p T' (some (vI x)) → 0 ≤ x ∧ x ≤ 1 := fun _ T' x h => by obtain ⟨-, y, e, hy⟩ := h; cases e; omega
  show J_ zX2_isDecided T (po_X2_isDecided_k T p) 0 0 0 [some (vR 102 p)] [] T
  refine j_blx (F := fX2) tb_X2 (nn_ _) bk_X2_isDecided_0 bs_X2_isDecided_0 hz (fun K hK => ?_)
  refine hK 1 _ [vR 102 p] T ?_
  refine j_callV (y := yX2_phaseOfLife) (Yc := zX2_phaseOfLife) (rest := []) [] (ct_X2_phaseOfLife (T := T)) cl_X2_54 (qd_c (by decide +kernel)) (nn_ _) rfl (rf_of rfl) (Nat.le_of_ble_eq_true rfl) (Nat.le_of_ble_eq_true rfl) (Nat.le_of_ble_eq_true rfl) rfl ?_
  rintro _ _ ⟨rfl, x1, rfl, hx1⟩
  show J_ zX2_isDecided T (po_X2_isDecided_k T p) 0 0 4 _ [vI x1] T
  refine j_blx (F := fX2) tb_X2 (nn_ _) bk_X2_isDecided_4 bs_X2_isDecided_4 hz (fun K hK => ?_)
  refine And.intro (fun c2 => ?_) (fun c2 => ?_)
  · refine hK 12 _ [] T ?_
    refine j_blx (F := fX2) tb_X2 (nn_ _) bk_X2_isDecided_12 bs_X2_isDecided_12 hz (fun K hK => ?_)
    refine (show po_X2_isDecided_k T p T (some (vI 0)) from ?_)
    exact ⟨rfl, _, rfl, by omega⟩
  · refine hK 13 _ [vI 1] T ?_
    refine j_blx (F := fX2) tb_X2 (nn_ _) bk_X2_isDecided_13 bs_X2_isDecided_13 hz (fun K hK => ?_)
    refine (show po_X2_isDecided_k T p T (some (vI 1)) from ?_)
    exact ⟨rfl, _, rfl, by omega⟩
abbrev cX4_gainOf : ByteArray := prog_6_method_7_code
def yX4_gainOf : MethodName := ⟨RX4, "gainOf", "(LSportsHouse$Match;II)I"⟩
def zX4_gainOf : Zm := (RX4, cX4_gainOf, 5, (some .int), { frames := 1, cells := 0, slots := 0, locals := 21 })
theorem bk_X4_gainOf_0 : ck_ fX4 (some .int) cX4_gainOf 0 [.aload 0, .tableswitch 0 4 1 #[], .tableswitch 0 8 11 #[], .iload 2, .iaload, .istore 4, .iload 3, .iload 2, .ishr, .iconst 1, .iand, .ifCond .ne 53, .aload 0, .tableswitch 0 4 1 #[], .tableswitch 0 8 1 #[], .aload 1, .tableswitch 0 2 3 #[], .iaload, .iload 4, .if_icmp .eq 53, .aload 0, .tableswitch 0 4 1 #[], .tableswitch 0 8 1 #[], .aload 1, .tableswitch 0 2 4 #[], .iaload, .iload 4, .if_icmp .ne 55, .iconst (-1), .ireturn] 55 = true := qck_r (nn_ _) (by decide +kernel)
theorem bs_X4_gainOf_0 {P : Zt → Option Zv → Prop} (K : Int → Zl → List Zv → Zt → Prop) : sx_ K P [.aload 0, .tableswitch 0 4 1 #[], .tableswitch 0 8 11 #[], .iload 2, .iaload, .istore 4, .iload 3, .iload 2, .ishr, .iconst 1, .iand, .ifCond .ne 53, .aload 0, .tableswitch 0 4 1 #[], .tableswitch 0 8 1 #[], .aload 1, .tableswitch 0 2 3 #[], .iaload, .iload 4, .if_icmp .eq 53, .aload 0, .tableswitch 0 4 1 #[], .tableswitch 0 8 1 #[], .aload 1, .tableswitch 0 2 4 #[], .iaload, .iload 4, .if_icmp .ne 55, .iconst (-1), .ireturn] 55 = x_aload 0 (x_g1 104 108 (x_g1 108 571 (x_iload 2 (x_iaload (x_istore 4 (x_iload 3 (x_iload 2 (x_ishr (x_iconst 1 (x_iand (x_ifCond .ne 53 K (x_aload 0 (x_g1 104 108 (x_g1 108 561 (x_aload 1 (x_g0 102 3 0 11 (x_iaload (x_iload 4 (x_if_icmp .eq 53 K (x_aload 0 (x_g1 104 108 (x_g1 108 561 (x_aload 1 (x_g0 102 4 0 11 (x_iaload (x_iload 4 (x_if_icmp .ne 55 K (x_iconst (-1) (x_ireturn P))))))))))))))))))))))))))))) := ((xe_aload 0).trans (congrArg (x_aload 0) ((xe_g1 (kk := 104) rfl tl_4_1).trans (congrArg (x_g1 104 108) ((xe_g1 (kk := 108) rfl tl_8_11).trans (congrArg (x_g1 108 571) ((xe_iload 2).trans (congrArg (x_iload 2) ((xe_iaload).trans (congrArg (x_iaload) ((xe_istore 4).trans (congrArg (x_istore 4) ((xe_iload 3).trans (congrArg (x_iload 3) ((xe_iload 2).trans (congrArg (x_iload 2) ((xe_ishr).trans (congrArg (x_ishr) ((xe_iconst 1).trans (congrArg (x_iconst 1) ((xe_iand).trans (congrArg (x_iand) ((xe_ifCond .ne 53).trans (congrArg (x_ifCond .ne 53 K) ((xe_aload 0).trans (congrArg (x_aload 0) ((xe_g1 (kk := 104) rfl tl_4_1).trans (congrArg (x_g1 104 108) ((xe_g1 (kk := 108) rfl tl_8_1).trans (congrArg (x_g1 108 561) ((xe_aload 1).trans (congrArg (x_aload 1) ((xe_g0 (kk := 102) rfl tl_2_3).trans (congrArg (x_g0 102 3 0 11) ((xe_iaload).trans (congrArg (x_iaload) ((xe_iload 4).trans (congrArg (x_iload 4) ((xe_if_icmp .eq 53).trans (congrArg (x_if_icmp .eq 53 K) ((xe_aload 0).trans (congrArg (x_aload 0) ((xe_g1 (kk := 104) rfl tl_4_1).trans (congrArg (x_g1 104 108) ((xe_g1 (kk := 108) rfl tl_8_1).trans (congrArg (x_g1 108 561) ((xe_aload 1).trans (congrArg (x_aload 1) ((xe_g0 (kk := 102) rfl tl_2_4).trans (congrArg (x_g0 102 4 0 11) ((xe_iaload).trans (congrArg (x_iaload) ((xe_iload 4).trans (congrArg (x_iload 4) ((xe_if_icmp .ne 55).trans (congrArg (x_if_icmp .ne 55 K) ((xe_iconst (-1)).trans (congrArg (x_iconst (-1)) (xe_ireturn)))))))))))))))))))))))))))))))))))))))))))))))))))))))))))
theorem bk_X4_gainOf_53 : ck_ fX4 (some .int) cX4_gainOf 53 [.iconst (-1), .ireturn] 55 = true := qck_r (nn_ _) (by decide +kernel)
theorem bs_X4_gainOf_53 {P : Zt → Option Zv → Prop} (K : Int → Zl → List Zv → Zt → Prop) : sx_ K P [.iconst (-1), .ireturn] 55 = x_iconst (-1) (x_ireturn P) := ((xe_iconst (-1)).trans (congrArg (x_iconst (-1)) (xe_ireturn)))
theorem bk_X4_gainOf_55 : ck_ fX4 (some .int) cX4_gainOf 55 [.iconst 1000, .aload 0, .tableswitch 0 4 1 #[], .tableswitch 0 8 10 #[], .iload 2, .iaload, .aload 0, .tableswitch 0 4 1 #[], .tableswitch 0 8 0 #[], .aload 1, .tableswitch 0 2 3 #[], .iaload, .isub] 80 = true := qck_r (nn_ _) (by decide +kernel)
theorem bs_X4_gainOf_55 {P : Zt → Option Zv → Prop} (K : Int → Zl → List Zv → Zt → Prop) : sx_ K P [.iconst 1000, .aload 0, .tableswitch 0 4 1 #[], .tableswitch 0 8 10 #[], .iload 2, .iaload, .aload 0, .tableswitch 0 4 1 #[], .tableswitch 0 8 0 #[], .aload 1, .tableswitch 0 2 3 #[], .iaload, .isub] 80 = x_iconst 1000 (x_aload 0 (x_g1 104 108 (x_g1 108 570 (x_iload 2 (x_iaload (x_aload 0 (x_g1 104 108 (x_g1 108 560 (x_aload 1 (x_g0 102 3 0 11 (x_iaload (x_isub (K 80))))))))))))) := ((xe_iconst 1000).trans (congrArg (x_iconst 1000) ((xe_aload 0).trans (congrArg (x_aload 0) ((xe_g1 (kk := 104) rfl tl_4_1).trans (congrArg (x_g1 104 108) ((xe_g1 (kk := 108) rfl tl_8_10).trans (congrArg (x_g1 108 570) ((xe_iload 2).trans (congrArg (x_iload 2) ((xe_iaload).trans (congrArg (x_iaload) ((xe_aload 0).trans (congrArg (x_aload 0) ((xe_g1 (kk := 104) rfl tl_4_1).trans (congrArg (x_g1 104 108) ((xe_g1 (kk := 108) rfl tl_8_0).trans (congrArg (x_g1 108 560) ((xe_aload 1).trans (congrArg (x_aload 1) ((xe_g0 (kk := 102) rfl tl_2_3).trans (congrArg (x_g0 102 3 0 11) ((xe_iaload).trans (congrArg (x_iaload) ((xe_isub).trans (congrArg (x_isub) xe_nil))))))))))))))))))))))))))
theorem bk_X4_gainOf_83 : ck_ fX4 (some .int) cX4_gainOf 83 [.isub, .ireturn] 85 = true := qck_r (nn_ _) (by decide +kernel)
theorem bs_X4_gainOf_83 {P : Zt → Option Zv → Prop} (K : Int → Zl → List Zv → Zt → Prop) : sx_ K P [.isub, .ireturn] 85 = x_isub (x_ireturn P) := ((xe_isub).trans (congrArg (x_isub) (xe_ireturn)))
abbrev po_X4_gainOf (T : Zt) (p : Int) (w a : Int) : Zt → Option Zv → Prop := fun T' r => T = T' ∧ ∃ x : Int, r = some (vI x) ∧ (-1 ≤ x ∧ x ≤ 1000)
set_option maxHeartbeats 4000000 in
theorem ct_X4_gainOf {T : Zt} {p : Int} {w a : Int} (hw : 0 ≤ w ∧ w ≤ 7) : Ct_ yX4_gainOf zX4_gainOf T [vR 104 0, vR 102 p, vI w, vI a] (po_X4_gainOf T p w a) := by
  refine ct_of pn_4 rfl rfl (Nat.le_of_ble_eq_true rfl) (fun hT hav => ?_)
  have hr_w : -2147483648 ≤ w ∧ w ≤ 2147483647 := hav (vI w) (List.mem_cons_of_mem _ (List.mem_cons_of_mem _ List.mem_cons_self))
  have hr_a : -2147483648 ≤ a ∧ a ≤ 2147483647 := hav (vI a) (List.mem_cons_of_mem _ (List.mem_cons_of_mem _ (List.mem_cons_of_mem _ List.mem_cons_self)))
  have hz : zX4_gainOf.2.2.2.1 = some .boolean → ∀ (T' : Zt) (x : Int), po_X4_gainOf T p w a T' (some (vI x)) → 0 ≤ x ∧ x ≤ 1 := fun h => by cases h
  show J_ zX4_gainOf T (po_X4_gainOf T p w a) 0 0 0 [some (vR 104 0), some (vR 102 p), some (vI w), some (vI a), none] [] T
  refine j_blx (F := fX4) tb_X4 (nn_ _) bk_X4_gainOf_0 bs_X4_gainOf_0 hz (fun K hK => ?_)
  refine ix_i (by omega) ?_
  intro b1 b1b
  intro w2 w2b
  intro w3 w3b
  refine And.intro (fun c4 => ?_) (fun c4 => ?_)
  · refine hK 53 [some (vR 104 0), some (vR 102 p), some (vI w), some (vI a), some (vI (T 571 0 w))] [] T ?_
    refine j_blx (F := fX4) tb_X4 (nn_ _) bk_X4_gainOf_53 bs_X4_gainOf_53 hz (fun K hK => ?_)
    refine (show po_X4_gainOf T p w a T (some (vI (-1))) from ?_)
    exact ⟨rfl, _, rfl, by omega⟩
  · intro b5 b5b
    refine ix_i (by omega) ?_
    intro b6 b6b
    refine And.intro (fun c7 => ?_) (fun c7 => ?_)
    · refine hK 53 _ [] T ?_
      refine j_blx (F := fX4) tb_X4 (nn_ _) bk_X4_gainOf_53 bs_X4_gainOf_53 hz (fun K hK => ?_)
      refine (show po_X4_gainOf T p w a T (some (vI (-1))) from ?_)
      exact ⟨rfl, _, rfl, by omega⟩
    · intro b8 b8b
      refine ix_i (by omega) ?_
      intro b9 b9b
      refine And.intro (fun c10 => ?_) (fun c10 => ?_)
      · refine hK 55 _ [] T ?_
        refine j_blx (F := fX4) tb_X4 (nn_ _) bk_X4_gainOf_55 bs_X4_gainOf_55 hz (fun K hK => ?_)
        refine ix_i (by omega) ?_
        intro b11 b11b
        intro b12 b12b
        refine ix_i (by omega) ?_
        intro b13 b13b
        refine rg_i (by omega) ?_
        refine hK 80 _ [vI ((T 570 0 w) - (T 560 0 (T 102 p 3))), vI 1000] T ?_
        obtain ⟨x14, e15, hx14⟩ : ∃ x14 : Int, (if 0 ≤ ((T 570 0 w) - (T 560 0 (T 102 p 3))) then ((T 570 0 w) - (T 560 0 (T 102 p 3))) else -((T 570 0 w) - (T 560 0 (T 102 p 3)))) = x14 ∧ (0 ≤ x14 ∧ (x14 = (T 570 0 w) - (T 560 0 (T 102 p 3)) ∨ x14 = -((T 570 0 w) - (T 560 0 (T 102 p 3))))) := ⟨_, rfl, by split <;> omega⟩
        refine j_ab (pc := 80) (by omega) (lwq_6 (dqc_m (dqc_m (dqc_m (dqc_m (dqc_m (dqc_m (dqa_m (List.mem_of_getElem? (i := 7) rfl)))))))) rfl : Cond.methodLink RX4 98 Lib.Math.abs.name ∈ lw_g) (lwq_4 (dqc_m (dqc_m (dqa_m (dqa_m (dqa_m (List.mem_of_getElem? (i := 6) rfl)))))) rfl : Cond.static Lib.Math.abs.name ∈ lw_g) (lwq_1 (dqa_m (dqa_m (List.mem_of_getElem? (i := 1) rfl))) rfl : Cond.initialized "java/lang/Math" ∈ lw_g) (lwq_4 (dqc_m (dqc_m (dqa_m (dqa_m (dqa_m (List.mem_of_getElem? (i := 7) rfl)))))) rfl : Cond.code Lib.Math.abs.name Lib.Math.abs.code 1 (some .int) ∈ lw_g) (by decide +kernel) (by decide) (by decide) (by decide) (Nat.le_of_ble_eq_true rfl) ?_
        rw [e15]
        clear e15
        show J_ zX4_gainOf T (po_X4_gainOf T p w a) 0 0 83 _ [vI x14, vI 1000] T
        refine j_blx (F := fX4) tb_X4 (nn_ _) bk_X4_gainOf_83 bs_X4_gainOf_83 hz (fun K hK => ?_)
        refine rg_i (by omega) ?_
        refine (show po_X4_gainOf T p w a T (some (vI (1000 - x14))) from ?_)
        exact ⟨rfl, _, rfl, by omega⟩
      · refine (show po_X4_gainOf T p w a T (some (vI (-1))) from ?_)
        exact ⟨rfl, _, rfl, by omega⟩
abbrev cX4_weigh : ByteArray := prog_6_method_5_code
def yX4_weigh : MethodName := ⟨RX4, "weigh", "(LSportsHouse$Match;III)I"⟩
def zX4_weigh : Zm := (RX4, cX4_weigh, 9, (some .int), { frames := 2, cells := 0, slots := 0, locals := 45 })
theorem bk_X4_weigh_22 : ck_ fX4 (some .int) cX4_weigh 22 [.iload 7, .aload 0, .tableswitch 0 4 1 #[], .tableswitch 0 8 12 #[], .if_icmp .ge 80, .aload 0, .aload 1, .iload 7, .iload 3] 39 = true := qck_r (nn_ _) (by decide +kernel)
theorem bs_X4_weigh_22 {P : Zt → Option Zv → Prop} (K : Int → Zl → List Zv → Zt → Prop) : sx_ K P [.iload 7, .aload 0, .tableswitch 0 4 1 #[], .tableswitch 0 8 12 #[], .if_icmp .ge 80, .aload 0, .aload 1, .iload 7, .iload 3] 39 = x_iload 7 (x_aload 0 (x_g1 104 108 (x_g0 108 12 0 8 (x_if_icmp .ge 80 K (x_aload 0 (x_aload 1 (x_iload 7 (x_iload 3 (K 39))))))))) := ((xe_iload 7).trans (congrArg (x_iload 7) ((xe_aload 0).trans (congrArg (x_aload 0) ((xe_g1 (kk := 104) rfl tl_4_1).trans (congrArg (x_g1 104 108) ((xe_g0 (kk := 108) rfl tl_8_12).trans (congrArg (x_g0 108 12 0 8) ((xe_if_icmp .ge 80).trans (congrArg (x_if_icmp .ge 80 K) ((xe_aload 0).trans (congrArg (x_aload 0) ((xe_aload 1).trans (congrArg (x_aload 1) ((xe_iload 7).trans (congrArg (x_iload 7) ((xe_iload 3).trans (congrArg (x_iload 3) xe_nil))))))))))))))))))
theorem bk_X4_weigh_80 : ck_ fX4 (some .int) cX4_weigh 80 [.iload 6, .ireturn] 83 = true := qck_r (nn_ _) (by decide +kernel)
theorem bs_X4_weigh_80 {P : Zt → Option Zv → Prop} (K : Int → Zl → List Zv → Zt → Prop) : sx_ K P [.iload 6, .ireturn] 83 = x_iload 6 (x_ireturn P) := ((xe_iload 6).trans (congrArg (x_iload 6) (xe_ireturn)))
set_option maxRecDepth 100000 in
theorem cl_X4_70 : cv_ RX4 70 yX4_gainOf zX4_gainOf 4 3 := ⟨gi_V (lwq_6 (dqc_m (dqc_m (dqc_m (dqc_m (dqc_m (dqc_m (dqa_m (List.mem_of_getElem? (i := 3) rfl)))))))) rfl : Cond.methodLink RX4 70 yX4_gainOf ∈ lw_g) (lwq_6 (dqc_m (dqc_m (dqc_m (dqc_m (dqc_m (dqc_m (dqa_m (List.mem_of_getElem? (i := 5) rfl)))))))) rfl : Cond.instanceMethod yX4_gainOf ∈ lw_g) (lw_sel 104 rfl : Cond.selects yX4_gainOf.cls yX4_gainOf yX4_gainOf ∈ lw_g) (lwq_1 (dqa_m (List.mem_of_getElem? (i := 1) rfl)) rfl : Cond.initialized yX4_gainOf.cls ∈ lw_g) (lwq_6 (dqc_m (dqc_m (dqc_m (dqc_m (dqc_m (dqc_m (dqa_m (List.mem_of_getElem? (i := 6) rfl)))))))) rfl : Cond.code yX4_gainOf cX4_gainOf 5 (some .int) ∈ lw_g), ⟨nmh_4.1, nmh_4.2, pdq_36⟩, ⟨_, _, rfl⟩⟩
theorem bk_X4_weigh_42 : ck_ fX4 (some .int) cX4_weigh 42 [.istore 8, .iload 8, .iconst (-1), .if_icmp .eq 74, .iload 6, .iload 8, .aload 0, .tableswitch 0 4 4 #[], .iload 5, .iload 3, .iconst 1, .iload 7, .ishl, .ior, .iadd, .iaload, .fadd] 69 = true := qck_r (nn_ _) (by decide +kernel)
theorem bs_X4_weigh_42 {P : Zt → Option Zv → Prop} (K : Int → Zl → List Zv → Zt → Prop) : sx_ K P [.istore 8, .iload 8, .iconst (-1), .if_icmp .eq 74, .iload 6, .iload 8, .aload 0, .tableswitch 0 4 4 #[], .iload 5, .iload 3, .iconst 1, .iload 7, .ishl, .ior, .iadd, .iaload, .fadd] 69 = x_istore 8 (x_iload 8 (x_iconst (-1) (x_if_icmp .eq 74 K (x_iload 6 (x_iload 8 (x_aload 0 (x_g3 104 190 4 (x_iload 5 (x_iload 3 (x_iconst 1 (x_iload 7 (x_ishl (x_ior (x_iadd (x_iaload (x_fadd (K 69))))))))))))))))) := ((xe_istore 8).trans (congrArg (x_istore 8) ((xe_iload 8).trans (congrArg (x_iload 8) ((xe_iconst (-1)).trans (congrArg (x_iconst (-1)) ((xe_if_icmp .eq 74).trans (congrArg (x_if_icmp .eq 74 K) ((xe_iload 6).trans (congrArg (x_iload 6) ((xe_iload 8).trans (congrArg (x_iload 8) ((xe_aload 0).trans (congrArg (x_aload 0) ((xe_g3 (kk := 104) rfl tl_4_4).trans (congrArg (x_g3 104 190 4) ((xe_iload 5).trans (congrArg (x_iload 5) ((xe_iload 3).trans (congrArg (x_iload 3) ((xe_iconst 1).trans (congrArg (x_iconst 1) ((xe_iload 7).trans (congrArg (x_iload 7) ((xe_ishl).trans (congrArg (x_ishl) ((xe_ior).trans (congrArg (x_ior) ((xe_iadd).trans (congrArg (x_iadd) ((xe_iaload).trans (congrArg (x_iaload) ((xe_fadd).trans (congrArg (x_fadd) xe_nil))))))))))))))))))))))))))))))))))
theorem bk_X4_weigh_74 : ck_ fX4 (some .int) cX4_weigh 74 [.iinc 7 1, .goto 22] 80 = true := qck_r (nn_ _) (by decide +kernel)
theorem bs_X4_weigh_74 {P : Zt → Option Zv → Prop} (K : Int → Zl → List Zv → Zt → Prop) : sx_ K P [.iinc 7 1, .goto 22] 80 = x_iinc 7 1 (x_goto 22 K) := ((xe_iinc 7 1).trans (congrArg (x_iinc 7 1) (xe_goto 22)))
theorem bk_X4_weigh_72 : ck_ fX4 (some .int) cX4_weigh 72 [.istore 6, .iinc 7 1, .goto 22] 80 = true := qck_r (nn_ _) (by decide +kernel)
theorem bs_X4_weigh_72 {P : Zt → Option Zv → Prop} (K : Int → Zl → List Zv → Zt → Prop) : sx_ K P [.istore 6, .iinc 7 1, .goto 22] 80 = x_istore 6 (x_iinc 7 1 (x_goto 22 K)) := ((xe_istore 6).trans (congrArg (x_istore 6) ((xe_iinc 7 1).trans (congrArg (x_iinc 7 1) (xe_goto 22)))))
theorem bk_X4_weigh_0 : ck_ fX4 (some .int) cX4_weigh 0 [.iload 2, .iconst 1, .iadd, .iload 4, .imul, .istore 5, .aload 0, .tableswitch 0 4 4 #[], .iload 5, .iload 3, .iadd, .iaload, .istore 6, .iconst 0, .istore 7] 22 = true := qck_r (nn_ _) (by decide +kernel)
theorem bs_X4_weigh_0 {P : Zt → Option Zv → Prop} (K : Int → Zl → List Zv → Zt → Prop) : sx_ K P [.iload 2, .iconst 1, .iadd, .iload 4, .imul, .istore 5, .aload 0, .tableswitch 0 4 4 #[], .iload 5, .iload 3, .iadd, .iaload, .istore 6, .iconst 0, .istore 7] 22 = x_iload 2 (x_iconst 1 (x_iadd (x_iload 4 (x_imul (x_istore 5 (x_aload 0 (x_g3 104 190 4 (x_iload 5 (x_iload 3 (x_iadd (x_iaload (x_istore 6 (x_iconst 0 (x_istore 7 (K 22))))))))))))))) := ((xe_iload 2).trans (congrArg (x_iload 2) ((xe_iconst 1).trans (congrArg (x_iconst 1) ((xe_iadd).trans (congrArg (x_iadd) ((xe_iload 4).trans (congrArg (x_iload 4) ((xe_imul).trans (congrArg (x_imul) ((xe_istore 5).trans (congrArg (x_istore 5) ((xe_aload 0).trans (congrArg (x_aload 0) ((xe_g3 (kk := 104) rfl tl_4_4).trans (congrArg (x_g3 104 190 4) ((xe_iload 5).trans (congrArg (x_iload 5) ((xe_iload 3).trans (congrArg (x_iload 3) ((xe_iadd).trans (congrArg (x_iadd) ((xe_iaload).trans (congrArg (x_iaload) ((xe_istore 6).trans (congrArg (x_istore 6) ((xe_iconst 0).trans (congrArg (x_iconst 0) ((xe_istore 7).trans (congrArg (x_istore 7) xe_nil))))))))))))))))))))))))))))))
abbrev po_X4_weigh (T : Zt) (p : Int) (k a e : Int) : Zt → Option Zv → Prop := fun T' r => T = T' ∧ ∃ x : Int, r = some (vI x) ∧ (-2147483648 ≤ x ∧ x ≤ 2147483647)
set_option maxHeartbeats 4000000 in
theorem ct_X4_weigh {T : Zt} {p : Int} {k a e : Int} (hk : 0 ≤ k ∧ k < 48) (ha : 0 ≤ a ∧ a < e) (hO : OS_ (T 108 0 12) e) (hL : (k + 2) * e ≤ T 190 (T 104 0 4) (-2)) : Ct_ yX4_weigh zX4_weigh T [vR 104 0, vR 102 p, vI k, vI a, vI e] (po_X4_weigh T p k a e) := by
  refine ct_of pn_4 rfl rfl (Nat.le_of_ble_eq_true rfl) (fun hT hav => ?_)
  have hr_k : -2147483648 ≤ k ∧ k ≤ 2147483647 := hav (vI k) (List.mem_cons_of_mem _ (List.mem_cons_of_mem _ List.mem_cons_self))
  have hr_a : -2147483648 ≤ a ∧ a ≤ 2147483647 := hav (vI a) (List.mem_cons_of_mem _ (List.mem_cons_of_mem _ (List.mem_cons_of_mem _ List.mem_cons_self)))
  have hr_e : -2147483648 ≤ e ∧ e ≤ 2147483647 := hav (vI e) (List.mem_cons_of_mem _ (List.mem_cons_of_mem _ (List.mem_cons_of_mem _ (List.mem_cons_of_mem _ List.mem_cons_self))))
  have hz : zX4_weigh.2.2.2.1 = some .boolean → ∀ (T' : Zt) (x : Int), po_X4_weigh T p k a e T' (some (vI x)) → 0 ≤ x ∧ x ≤ 1 := fun h => by cases h
  have hb_officials : 0 ≤ T 108 0 12 ∧ T 108 0 12 ≤ 8 := bd_f hT 108 12 tl_8_12 0
  have hE := hO.1
  have hm := mlb (a := k + 2) (b := e) (A := 50) (B := 256) (by omega) (by omega)
  have x1 := k1e k e
  have x2 := k2e k e
  have hm0 := mlb (a := k) (b := e) (A := 48) (B := 256) (by omega) (by omega)
  show J_ zX4_weigh T (po_X4_weigh T p k a e) 0 0 0 [some (vR 104 0), some (vR 102 p), some (vI k), some (vI a), some (vI e), none, none, none, none] [] T
  have c_22 : ∀ (nn : Nat) (v : Int) (j : Int), ((T 108 0 12 - j).toNat) ≤ nn → (0 ≤ j ∧ -2147483648 ≤ v ∧ v ≤ 2147483647) → J_ zX4_weigh T (po_X4_weigh T p k a e) 0 0 22 [some (vR 104 0), some (vR 102 p), some (vI k), some (vI a), some (vI e), some (vI ((k + 1) * e)), some (vI v), some (vI j), none] [] T := by
    intro nn
    induction nn using Nat.strongRecOn with
    | _ nn ih_22 =>
      intro v j hm_22 i1
      replace hm_22 := fun (_ : Unit) => hm_22
      refine j_blx (F := fX4) tb_X4 (nn_ _) bk_X4_weigh_22 bs_X4_weigh_22 hz (fun K hK => ?_)
      intro b1 b1b
      refine And.intro (fun c2 => ?_) (fun c2 => ?_)
      · refine hK 80 _ [] T ?_
        refine j_blx (F := fX4) tb_X4 (nn_ _) bk_X4_weigh_80 bs_X4_weigh_80 hz (fun K hK => ?_)
        refine (show po_X4_weigh T p k a e T (some (vI v)) from ?_)
        exact ⟨rfl, _, rfl, by omega⟩
      · refine hK 39 _ [vI a, vI j, vR 102 p, vR 104 0] T ?_
        refine j_callV (y := yX4_gainOf) (Yc := zX4_gainOf) (rest := []) [vR 102 p, vI j, vI a] (ct_X4_gainOf (T := T) (by omega)) cl_X4_70 (qd_c (by decide +kernel)) (nn_ _) rfl (rf_of rfl) (Nat.le_of_ble_eq_true rfl) (Nat.le_of_ble_eq_true rfl) (Nat.le_of_ble_eq_true rfl) rfl ?_
        rintro _ _ ⟨rfl, x3, rfl, hx3⟩
        show J_ zX4_weigh T (po_X4_weigh T p k a e) 0 0 42 _ [vI x3] T
        refine j_blx (F := fX4) tb_X4 (nn_ _) bk_X4_weigh_42 bs_X4_weigh_42 hz (fun K hK => ?_)
        refine And.intro (fun c4 => ?_) (fun c4 => ?_)
        · refine hK 74 [some (vR 104 0), some (vR 102 p), some (vI k), some (vI a), some (vI e), some (vI ((k + 1) * e)), some (vI v), some (vI j), some (vI x3)] [] T ?_
          refine j_blx (F := fX4) tb_X4 (nn_ _) bk_X4_weigh_74 bs_X4_weigh_74 hz (fun K hK => ?_)
          refine rg_i (by omega) ?_
          refine hK 22 [some (vR 104 0), some (vR 102 p), some (vI k), some (vI a), some (vI e), some (vI ((k + 1) * e)), some (vI v), some (vI (j + 1)), some (vI x3)] [] T ?_
          refine j_drq [some (vR 104 0), some (vR 102 p), some (vI k), some (vI a), some (vI e), some (vI ((k + 1) * e)), some (vI v), some (vI (j + 1)), none] (drq_s (drq_s (drq_s (drq_s (drq_s (drq_s (drq_s (drq_s (drq_n drq_0))))))))) ?_
          refine ih_22 _ ?_ v (j + 1) (Nat.le_refl _) ?_
          · have hm_22 := hm_22 (); omega
          · omega
        · intro w6 w6b
          intro w7 w7b
          have y8 := hO.2 a j (by omega) (by omega) (by omega) (by omega)
          refine rg_i (by omega) ?_
          refine ix_i (by omega) ?_
          intro b9 b9b
          intro w10 w10b
          refine hK 69 [some (vR 104 0), some (vR 102 p), some (vI k), some (vI a), some (vI e), some (vI ((k + 1) * e)), some (vI v), some (vI j), some (vI x3)] [vI (wr_ (x3 + (T 190 (T 104 0 4) (((k + 1) * e) + (or_ a (sl_ 1 j)))))), vI v] T ?_
          obtain ⟨x11, e12, hx11⟩ : ∃ x11 : Int, (if v < (wr_ (x3 + (T 190 (T 104 0 4) (((k + 1) * e) + (or_ a (sl_ 1 j)))))) then (wr_ (x3 + (T 190 (T 104 0 4) (((k + 1) * e) + (or_ a (sl_ 1 j)))))) else v) = x11 ∧ ((x11 = v ∨ x11 = wr_ (x3 + (T 190 (T 104 0 4) (((k + 1) * e) + (or_ a (sl_ 1 j)))))) ∧ v ≤ x11 ∧ wr_ (x3 + (T 190 (T 104 0 4) (((k + 1) * e) + (or_ a (sl_ 1 j))))) ≤ x11) := ⟨_, rfl, by split <;> omega⟩
          refine j_mx (pc := 69) (lwq_6 (dqc_m (dqc_m (dqc_m (dqc_m (dqc_m (dqc_m (dqa_m (dqa_m (List.mem_of_getElem? (i := 0) rfl))))))))) rfl : Cond.methodLink RX4 74 Lib.Math.max.name ∈ lw_g) (lwq_4 (dqc_m (dqc_m (dqc_m (List.mem_of_getElem? (i := 5) rfl)))) rfl : Cond.static Lib.Math.max.name ∈ lw_g) (lwq_1 (dqa_m (dqa_m (List.mem_of_getElem? (i := 1) rfl))) rfl : Cond.initialized "java/lang/Math" ∈ lw_g) (lwq_4 (dqc_m (dqc_m (dqc_m (List.mem_of_getElem? (i := 6) rfl)))) rfl : Cond.code Lib.Math.max.name Lib.Math.max.code 2 (some .int) ∈ lw_g) (by decide +kernel) (by decide) (by decide) (by decide) (Nat.le_of_ble_eq_true rfl) ?_
          rw [e12]
          clear e12
          show J_ zX4_weigh T (po_X4_weigh T p k a e) 0 0 72 _ [vI x11] T
          refine j_blx (F := fX4) tb_X4 (nn_ _) bk_X4_weigh_72 bs_X4_weigh_72 hz (fun K hK => ?_)
          refine rg_i (by omega) ?_
          refine hK 22 [some (vR 104 0), some (vR 102 p), some (vI k), some (vI a), some (vI e), some (vI ((k + 1) * e)), some (vI x11), some (vI (j + 1)), some (vI x3)] [] T ?_
          refine j_drq [some (vR 104 0), some (vR 102 p), some (vI k), some (vI a), some (vI e), some (vI ((k + 1) * e)), some (vI x11), some (vI (j + 1)), none] (drq_s (drq_s (drq_s (drq_s (drq_s (drq_s (drq_s (drq_s (drq_n drq_0))))))))) ?_
          refine ih_22 _ ?_ x11 (j + 1) (Nat.le_refl _) ?_
          · have hm_22 := hm_22 (); omega
          · omega
  refine j_blx (F := fX4) tb_X4 (nn_ _) bk_X4_weigh_0 bs_X4_weigh_0 hz (fun K hK => ?_)
  refine rg_i (by omega) ?_
  refine rg_i (by omega) ?_
  refine rg_i (by omega) ?_
  refine ix_i (by omega) ?_
  intro b14 b14b
  refine hK 22 [some (vR 104 0), some (vR 102 p), some (vI k), some (vI a), some (vI e), some (vI ((k + 1) * e)), some (vI (T 190 (T 104 0 4) (((k + 1) * e) + a))), some (vI 0), none] [] T ?_
  refine c_22 _ (T 190 (T 104 0 4) (((k + 1) * e) + a)) 0 (Nat.le_refl _) ?_
  · omega
abbrev cX4_firstBest : ByteArray := prog_6_method_6_code
def yX4_firstBest : MethodName := ⟨RX4, "firstBest", "(LSportsHouse$Match;III)I"⟩
def zX4_firstBest : Zm := (RX4, cX4_firstBest, 8, (some .int), { frames := 2, cells := 0, slots := 0, locals := 45 })
theorem bk_X4_firstBest_11 : ck_ fX4 (some .int) cX4_firstBest 11 [.iload 6, .aload 0, .tableswitch 0 4 1 #[], .tableswitch 0 8 12 #[], .if_icmp .ge 79, .aload 0, .aload 1, .iload 6, .iload 3] 28 = true := qck_r (nn_ _) (by decide +kernel)
theorem bs_X4_firstBest_11 {P : Zt → Option Zv → Prop} (K : Int → Zl → List Zv → Zt → Prop) : sx_ K P [.iload 6, .aload 0, .tableswitch 0 4 1 #[], .tableswitch 0 8 12 #[], .if_icmp .ge 79, .aload 0, .aload 1, .iload 6, .iload 3] 28 = x_iload 6 (x_aload 0 (x_g1 104 108 (x_g0 108 12 0 8 (x_if_icmp .ge 79 K (x_aload 0 (x_aload 1 (x_iload 6 (x_iload 3 (K 28))))))))) := ((xe_iload 6).trans (congrArg (x_iload 6) ((xe_aload 0).trans (congrArg (x_aload 0) ((xe_g1 (kk := 104) rfl tl_4_1).trans (congrArg (x_g1 104 108) ((xe_g0 (kk := 108) rfl tl_8_12).trans (congrArg (x_g0 108 12 0 8) ((xe_if_icmp .ge 79).trans (congrArg (x_if_icmp .ge 79 K) ((xe_aload 0).trans (congrArg (x_aload 0) ((xe_aload 1).trans (congrArg (x_aload 1) ((xe_iload 6).trans (congrArg (x_iload 6) ((xe_iload 3).trans (congrArg (x_iload 3) xe_nil))))))))))))))))))
theorem bk_X4_firstBest_79 : ck_ fX4 (some .int) cX4_firstBest 79 [.iconst (-1), .ireturn] 81 = true := qck_r (nn_ _) (by decide +kernel)
theorem bs_X4_firstBest_79 {P : Zt → Option Zv → Prop} (K : Int → Zl → List Zv → Zt → Prop) : sx_ K P [.iconst (-1), .ireturn] 81 = x_iconst (-1) (x_ireturn P) := ((xe_iconst (-1)).trans (congrArg (x_iconst (-1)) (xe_ireturn)))
theorem bk_X4_firstBest_31 : ck_ fX4 (some .int) cX4_firstBest 31 [.istore 7, .iload 7, .iconst (-1), .if_icmp .eq 73, .iload 7, .aload 0, .tableswitch 0 4 4 #[], .iload 5, .iload 3, .iconst 1, .iload 6, .ishl, .ior, .iadd, .iaload, .fadd, .aload 0, .tableswitch 0 4 4 #[], .iload 2, .iload 4, .imul, .iload 3, .iadd, .iaload, .if_icmp .ne 73, .iload 6, .ireturn] 73 = true := qck_r (nn_ _) (by decide +kernel)
theorem bs_X4_firstBest_31 {P : Zt → Option Zv → Prop} (K : Int → Zl → List Zv → Zt → Prop) : sx_ K P [.istore 7, .iload 7, .iconst (-1), .if_icmp .eq 73, .iload 7, .aload 0, .tableswitch 0 4 4 #[], .iload 5, .iload 3, .iconst 1, .iload 6, .ishl, .ior, .iadd, .iaload, .fadd, .aload 0, .tableswitch 0 4 4 #[], .iload 2, .iload 4, .imul, .iload 3, .iadd, .iaload, .if_icmp .ne 73, .iload 6, .ireturn] 73 = x_istore 7 (x_iload 7 (x_iconst (-1) (x_if_icmp .eq 73 K (x_iload 7 (x_aload 0 (x_g3 104 190 4 (x_iload 5 (x_iload 3 (x_iconst 1 (x_iload 6 (x_ishl (x_ior (x_iadd (x_iaload (x_fadd (x_aload 0 (x_g3 104 190 4 (x_iload 2 (x_iload 4 (x_imul (x_iload 3 (x_iadd (x_iaload (x_if_icmp .ne 73 K (x_iload 6 (x_ireturn P)))))))))))))))))))))))))) := ((xe_istore 7).trans (congrArg (x_istore 7) ((xe_iload 7).trans (congrArg (x_iload 7) ((xe_iconst (-1)).trans (congrArg (x_iconst (-1)) ((xe_if_icmp .eq 73).trans (congrArg (x_if_icmp .eq 73 K) ((xe_iload 7).trans (congrArg (x_iload 7) ((xe_aload 0).trans (congrArg (x_aload 0) ((xe_g3 (kk := 104) rfl tl_4_4).trans (congrArg (x_g3 104 190 4) ((xe_iload 5).trans (congrArg (x_iload 5) ((xe_iload 3).trans (congrArg (x_iload 3) ((xe_iconst 1).trans (congrArg (x_iconst 1) ((xe_iload 6).trans (congrArg (x_iload 6) ((xe_ishl).trans (congrArg (x_ishl) ((xe_ior).trans (congrArg (x_ior) ((xe_iadd).trans (congrArg (x_iadd) ((xe_iaload).trans (congrArg (x_iaload) ((xe_fadd).trans (congrArg (x_fadd) ((xe_aload 0).trans (congrArg (x_aload 0) ((xe_g3 (kk := 104) rfl tl_4_4).trans (congrArg (x_g3 104 190 4) ((xe_iload 2).trans (congrArg (x_iload 2) ((xe_iload 4).trans (congrArg (x_iload 4) ((xe_imul).trans (congrArg (x_imul) ((xe_iload 3).trans (congrArg (x_iload 3) ((xe_iadd).trans (congrArg (x_iadd) ((xe_iaload).trans (congrArg (x_iaload) ((xe_if_icmp .ne 73).trans (congrArg (x_if_icmp .ne 73 K) ((xe_iload 6).trans (congrArg (x_iload 6) (xe_ireturn)))))))))))))))))))))))))))))))))))))))))))))))))))))
theorem bk_X4_firstBest_73 : ck_ fX4 (some .int) cX4_firstBest 73 [.iinc 6 1, .goto 11] 79 = true := qck_r (nn_ _) (by decide +kernel)
theorem bs_X4_firstBest_73 {P : Zt → Option Zv → Prop} (K : Int → Zl → List Zv → Zt → Prop) : sx_ K P [.iinc 6 1, .goto 11] 79 = x_iinc 6 1 (x_goto 11 K) := ((xe_iinc 6 1).trans (congrArg (x_iinc 6 1) (xe_goto 11)))
theorem bk_X4_firstBest_0 : ck_ fX4 (some .int) cX4_firstBest 0 [.iload 2, .iconst 1, .iadd, .iload 4, .imul, .istore 5, .iconst 0, .istore 6] 11 = true := qck_r (nn_ _) (by decide +kernel)
theorem bs_X4_firstBest_0 {P : Zt → Option Zv → Prop} (K : Int → Zl → List Zv → Zt → Prop) : sx_ K P [.iload 2, .iconst 1, .iadd, .iload 4, .imul, .istore 5, .iconst 0, .istore 6] 11 = x_iload 2 (x_iconst 1 (x_iadd (x_iload 4 (x_imul (x_istore 5 (x_iconst 0 (x_istore 6 (K 11)))))))) := ((xe_iload 2).trans (congrArg (x_iload 2) ((xe_iconst 1).trans (congrArg (x_iconst 1) ((xe_iadd).trans (congrArg (x_iadd) ((xe_iload 4).trans (congrArg (x_iload 4) ((xe_imul).trans (congrArg (x_imul) ((xe_istore 5).trans (congrArg (x_istore 5) ((xe_iconst 0).trans (congrArg (x_iconst 0) ((xe_istore 6).trans (congrArg (x_istore 6) xe_nil))))))))))))))))
abbrev po_X4_firstBest (T : Zt) (p : Int) (k a e : Int) : Zt → Option Zv → Prop := fun T' r => T = T' ∧ ∃ x : Int, r = some (vI x) ∧ (x = -1 ∨ (0 ≤ x ∧ x < T 108 0 12))
set_option maxHeartbeats 4000000 in
theorem ct_X4_firstBest {T : Zt} {p : Int} {k a e : Int} (hk : 0 ≤ k ∧ k < 48) (ha : 0 ≤ a ∧ a < e) (hO : OS_ (T 108 0 12) e) (hL : (k + 2) * e ≤ T 190 (T 104 0 4) (-2)) : Ct_ yX4_firstBest zX4_firstBest T [vR 104 0, vR 102 p, vI k, vI a, vI e] (po_X4_firstBest T p k a e) := by
  refine ct_of pn_4 rfl rfl (Nat.le_of_ble_eq_true rfl) (fun hT hav => ?_)
  have hr_k : -2147483648 ≤ k ∧ k ≤ 2147483647 := hav (vI k) (List.mem_cons_of_mem _ (List.mem_cons_of_mem _ List.mem_cons_self))
  have hr_a : -2147483648 ≤ a ∧ a ≤ 2147483647 := hav (vI a) (List.mem_cons_of_mem _ (List.mem_cons_of_mem _ (List.mem_cons_of_mem _ List.mem_cons_self)))
  have hr_e : -2147483648 ≤ e ∧ e ≤ 2147483647 := hav (vI e) (List.mem_cons_of_mem _ (List.mem_cons_of_mem _ (List.mem_cons_of_mem _ (List.mem_cons_of_mem _ List.mem_cons_self))))
  have hz : zX4_firstBest.2.2.2.1 = some .boolean → ∀ (T' : Zt) (x : Int), po_X4_firstBest T p k a e T' (some (vI x)) → 0 ≤ x ∧ x ≤ 1 := fun h => by cases h
  have hb_officials : 0 ≤ T 108 0 12 ∧ T 108 0 12 ≤ 8 := bd_f hT 108 12 tl_8_12 0
  have hE := hO.1
  have hm := mlb (a := k + 2) (b := e) (A := 50) (B := 256) (by omega) (by omega)
  have x1 := k1e k e
  have x2 := k2e k e
  have hm0 := mlb (a := k) (b := e) (A := 48) (B := 256) (by omega) (by omega)
  show J_ zX4_firstBest T (po_X4_firstBest T p k a e) 0 0 0 [some (vR 104 0), some (vR 102 p), some (vI k), some (vI a), some (vI e), none, none, none] [] T
  have c_11 : ∀ (nn : Nat) (j : Int), ((T 108 0 12 - j).toNat) ≤ nn → (0 ≤ j) → J_ zX4_firstBest T (po_X4_firstBest T p k a e) 0 0 11 [some (vR 104 0), some (vR 102 p), some (vI k), some (vI a), some (vI e), some (vI ((k + 1) * e)), some (vI j), none] [] T := by
    intro nn
    induction nn using Nat.strongRecOn with
    | _ nn ih_11 =>
      intro j hm_11 i1
      replace hm_11 := fun (_ : Unit) => hm_11
      refine j_blx (F := fX4) tb_X4 (nn_ _) bk_X4_firstBest_11 bs_X4_firstBest_11 hz (fun K hK => ?_)
      intro b1 b1b
      refine And.intro (fun c2 => ?_) (fun c2 => ?_)
      · refine hK 79 _ [] T ?_
        refine j_blx (F := fX4) tb_X4 (nn_ _) bk_X4_firstBest_79 bs_X4_firstBest_79 hz (fun K hK => ?_)
        refine (show po_X4_firstBest T p k a e T (some (vI (-1))) from ?_)
        exact ⟨rfl, _, rfl, by omega⟩
      · refine hK 28 _ [vI a, vI j, vR 102 p, vR 104 0] T ?_
        refine j_callV (y := yX4_gainOf) (Yc := zX4_gainOf) (rest := []) [vR 102 p, vI j, vI a] (ct_X4_gainOf (T := T) (by omega)) cl_X4_70 (qd_c (by decide +kernel)) (nn_ _) rfl (rf_of rfl) (Nat.le_of_ble_eq_true rfl) (Nat.le_of_ble_eq_true rfl) (Nat.le_of_ble_eq_true rfl) rfl ?_
        rintro _ _ ⟨rfl, x3, rfl, hx3⟩
        show J_ zX4_firstBest T (po_X4_firstBest T p k a e) 0 0 31 _ [vI x3] T
        refine j_blx (F := fX4) tb_X4 (nn_ _) bk_X4_firstBest_31 bs_X4_firstBest_31 hz (fun K hK => ?_)
        refine And.intro (fun c4 => ?_) (fun c4 => ?_)
        · refine hK 73 [some (vR 104 0), some (vR 102 p), some (vI k), some (vI a), some (vI e), some (vI ((k + 1) * e)), some (vI j), some (vI x3)] [] T ?_
          refine j_blx (F := fX4) tb_X4 (nn_ _) bk_X4_firstBest_73 bs_X4_firstBest_73 hz (fun K hK => ?_)
          refine rg_i (by omega) ?_
          refine hK 11 [some (vR 104 0), some (vR 102 p), some (vI k), some (vI a), some (vI e), some (vI ((k + 1) * e)), some (vI (j + 1)), some (vI x3)] [] T ?_
          refine j_drq [some (vR 104 0), some (vR 102 p), some (vI k), some (vI a), some (vI e), some (vI ((k + 1) * e)), some (vI (j + 1)), none] (drq_s (drq_s (drq_s (drq_s (drq_s (drq_s (drq_s (drq_n drq_0)))))))) ?_
          refine ih_11 _ ?_ (j + 1) (Nat.le_refl _) ?_
          · have hm_11 := hm_11 (); omega
          · omega
        · intro w6 w6b
          intro w7 w7b
          have y8 := hO.2 a j (by omega) (by omega) (by omega) (by omega)
          refine rg_i (by omega) ?_
          refine ix_i (by omega) ?_
          intro b9 b9b
          intro w10 w10b
          refine rg_i (by omega) ?_
          refine rg_i (by omega) ?_
          refine ix_i (by omega) ?_
          intro b12 b12b
          refine And.intro (fun c13 => ?_) (fun c13 => ?_)
          · refine hK 73 [some (vR 104 0), some (vR 102 p), some (vI k), some (vI a), some (vI e), some (vI ((k + 1) * e)), some (vI j), some (vI x3)] [] T ?_
            refine j_blx (F := fX4) tb_X4 (nn_ _) bk_X4_firstBest_73 bs_X4_firstBest_73 hz (fun K hK => ?_)
            refine rg_i (by omega) ?_
            refine hK 11 [some (vR 104 0), some (vR 102 p), some (vI k), some (vI a), some (vI e), some (vI ((k + 1) * e)), some (vI (j + 1)), some (vI x3)] [] T ?_
            refine j_drq [some (vR 104 0), some (vR 102 p), some (vI k), some (vI a), some (vI e), some (vI ((k + 1) * e)), some (vI (j + 1)), none] (drq_s (drq_s (drq_s (drq_s (drq_s (drq_s (drq_s (drq_n drq_0)))))))) ?_
            refine ih_11 _ ?_ (j + 1) (Nat.le_refl _) ?_
            · have hm_11 := hm_11 (); omega
            · omega
          · refine (show po_X4_firstBest T p k a e T (some (vI j)) from ?_)
            exact ⟨rfl, _, rfl, by omega⟩
  refine j_blx (F := fX4) tb_X4 (nn_ _) bk_X4_firstBest_0 bs_X4_firstBest_0 hz (fun K hK => ?_)
  refine rg_i (by omega) ?_
  refine rg_i (by omega) ?_
  refine hK 11 [some (vR 104 0), some (vR 102 p), some (vI k), some (vI a), some (vI e), some (vI ((k + 1) * e)), some (vI 0), none] [] T ?_
  refine c_11 _ 0 (Nat.le_refl _) ?_
  · omega
abbrev cX4_listMatches : ByteArray := prog_6_method_3_code
def yX4_listMatches : MethodName := ⟨RX4, "listMatches", "(I)V"⟩
def zX4_listMatches : Zm := (RX4, cX4_listMatches, 4, none, { frames := 2, cells := 0, slots := 0, locals := 40 })
theorem bk_X4_listMatches_7 : ck_ fX4 none cX4_listMatches 7 [.iload 2, .aload 0, .tableswitch 0 4 0 #[], .tableswitch 0 6 4 #[], .if_icmp .ge 69, .aload 0, .tableswitch 0 4 0 #[], .tableswitch 0 6 3 #[], .iload 2, .aaload, .astore 3, .aload 3, .tableswitch 0 2 5 #[], .iload 1, .if_icmp .ne 63, .aload 3] 37 = true := qck_r (nn_ _) (by decide +kernel)
theorem bs_X4_listMatches_7 {P : Zt → Option Zv → Prop} (K : Int → Zl → List Zv → Zt → Prop) : sx_ K P [.iload 2, .aload 0, .tableswitch 0 4 0 #[], .tableswitch 0 6 4 #[], .if_icmp .ge 69, .aload 0, .tableswitch 0 4 0 #[], .tableswitch 0 6 3 #[], .iload 2, .aaload, .astore 3, .aload 3, .tableswitch 0 2 5 #[], .iload 1, .if_icmp .ne 63, .aload 3] 37 = x_iload 2 (x_aload 0 (x_g1 104 106 (x_g0 106 4 0 400 (x_if_icmp .ge 69 K (x_aload 0 (x_g1 104 106 (x_g1 106 523 (x_iload 2 (x_aaload (x_astore 3 (x_aload 3 (x_g0 102 5 0 999 (x_iload 1 (x_if_icmp .ne 63 K (x_aload 3 (K 37)))))))))))))))) := ((xe_iload 2).trans (congrArg (x_iload 2) ((xe_aload 0).trans (congrArg (x_aload 0) ((xe_g1 (kk := 104) rfl tl_4_0).trans (congrArg (x_g1 104 106) ((xe_g0 (kk := 106) rfl tl_6_4).trans (congrArg (x_g0 106 4 0 400) ((xe_if_icmp .ge 69).trans (congrArg (x_if_icmp .ge 69 K) ((xe_aload 0).trans (congrArg (x_aload 0) ((xe_g1 (kk := 104) rfl tl_4_0).trans (congrArg (x_g1 104 106) ((xe_g1 (kk := 106) rfl tl_6_3).trans (congrArg (x_g1 106 523) ((xe_iload 2).trans (congrArg (x_iload 2) ((xe_aaload).trans (congrArg (x_aaload) ((xe_astore 3).trans (congrArg (x_astore 3) ((xe_aload 3).trans (congrArg (x_aload 3) ((xe_g0 (kk := 102) rfl tl_2_5).trans (congrArg (x_g0 102 5 0 999) ((xe_iload 1).trans (congrArg (x_iload 1) ((xe_if_icmp .ne 63).trans (congrArg (x_if_icmp .ne 63 K) ((xe_aload 3).trans (congrArg (x_aload 3) xe_nil))))))))))))))))))))))))))))))))
theorem bk_X4_listMatches_69 : ck_ fX4 none cX4_listMatches 69 [.return_] 70 = true := qck_r (nn_ _) (by decide +kernel)
theorem bs_X4_listMatches_69 {P : Zt → Option Zv → Prop} (K : Int → Zl → List Zv → Zt → Prop) : sx_ K P [.return_] 70 = x_return_ P := (xe_return_)
theorem bk_X4_listMatches_63 : ck_ fX4 none cX4_listMatches 63 [.iinc 2 1, .goto 7] 69 = true := qck_r (nn_ _) (by decide +kernel)
theorem bs_X4_listMatches_63 {P : Zt → Option Zv → Prop} (K : Int → Zl → List Zv → Zt → Prop) : sx_ K P [.iinc 2 1, .goto 7] 69 = x_iinc 2 1 (x_goto 7 K) := ((xe_iinc 2 1).trans (congrArg (x_iinc 2 1) (xe_goto 7)))
set_option maxRecDepth 100000 in
theorem cl_X4_63 : cv_ RX4 63 yX2_isDecided zX2_isDecided 2 0 := ⟨gi_V (lwq_6 (dqc_m (dqc_m (dqc_m (dqc_m (dqc_m (dqc_m (List.mem_of_getElem? (i := 2) rfl))))))) rfl : Cond.methodLink RX4 63 yX2_isDecided ∈ lw_g) (lwq_4 (dqc_m (dqc_m (dqc_m (dqc_m (dqa_m (dqa_m (dqa_m (List.mem_of_getElem? (i := 3) rfl)))))))) rfl : Cond.instanceMethod yX2_isDecided ∈ lw_g) (lwq_4 (dqc_m (dqc_m (dqc_m (dqc_m (dqa_m (dqa_m (dqa_m (List.mem_of_getElem? (i := 4) rfl)))))))) rfl : Cond.selects yX2_isDecided.cls yX2_isDecided yX2_isDecided ∈ lw_g) (lwq_1 (dqa_m (dqa_m (List.mem_of_getElem? (i := 0) rfl))) rfl : Cond.initialized yX2_isDecided.cls ∈ lw_g) (lwq_4 (dqc_m (dqc_m (dqc_m (dqc_m (dqa_m (dqa_m (dqa_m (List.mem_of_getElem? (i := 5) rfl)))))))) rfl : Cond.code yX2_isDecided cX2_isDecided 1 (some .boolean) ∈ lw_g), ⟨nmh_10.1, nmh_10.2, pdq_18⟩, ⟨_, _, rfl⟩⟩
theorem bk_X4_listMatches_40 : ck_ fX4 none cX4_listMatches 40 [.ifCond .ne 63, .aload 0, .tableswitch 0 4 2 #[], .aload 0, .tableswitch 0 4 3 #[], .iload 2, .iastore, .aload 0, .dup, .tableswitch 0 4 3 #[], .iconst 1, .iadd, .tableswitch 1 4 3 #[], .iinc 2 1, .goto 7] 69 = true := qck_r (nn_ _) (by decide +kernel)
theorem bs_X4_listMatches_40 {P : Zt → Option Zv → Prop} (K : Int → Zl → List Zv → Zt → Prop) : sx_ K P [.ifCond .ne 63, .aload 0, .tableswitch 0 4 2 #[], .aload 0, .tableswitch 0 4 3 #[], .iload 2, .iastore, .aload 0, .dup, .tableswitch 0 4 3 #[], .iconst 1, .iadd, .tableswitch 1 4 3 #[], .iinc 2 1, .goto 7] 69 = x_ifCond .ne 63 K (x_aload 0 (x_g1 104 482 (x_aload 0 (x_g0 104 3 0 400 (x_iload 2 (x_iastore (x_aload 0 (x_dup (x_g0 104 3 0 400 (x_iconst 1 (x_iadd (x_p 104 3 0 400 (x_iinc 2 1 (x_goto 7 K)))))))))))))) := ((xe_ifCond .ne 63).trans (congrArg (x_ifCond .ne 63 K) ((xe_aload 0).trans (congrArg (x_aload 0) ((xe_g1 (kk := 104) rfl tl_4_2).trans (congrArg (x_g1 104 482) ((xe_aload 0).trans (congrArg (x_aload 0) ((xe_g0 (kk := 104) rfl tl_4_3).trans (congrArg (x_g0 104 3 0 400) ((xe_iload 2).trans (congrArg (x_iload 2) ((xe_iastore).trans (congrArg (x_iastore) ((xe_aload 0).trans (congrArg (x_aload 0) ((xe_dup).trans (congrArg (x_dup) ((xe_g0 (kk := 104) rfl tl_4_3).trans (congrArg (x_g0 104 3 0 400) ((xe_iconst 1).trans (congrArg (x_iconst 1) ((xe_iadd).trans (congrArg (x_iadd) ((xe_p (kk := 104) rfl tl_4_3).trans (congrArg (x_p 104 3 0 400) ((xe_iinc 2 1).trans (congrArg (x_iinc 2 1) (xe_goto 7)))))))))))))))))))))))))))))
theorem bk_X4_listMatches_0 : ck_ fX4 none cX4_listMatches 0 [.aload 0, .iconst 0, .tableswitch 1 4 3 #[], .iconst 0, .istore 2] 7 = true := qck_r (nn_ _) (by decide +kernel)
theorem bs_X4_listMatches_0 {P : Zt → Option Zv → Prop} (K : Int → Zl → List Zv → Zt → Prop) : sx_ K P [.aload 0, .iconst 0, .tableswitch 1 4 3 #[], .iconst 0, .istore 2] 7 = x_aload 0 (x_iconst 0 (x_p 104 3 0 400 (x_iconst 0 (x_istore 2 (K 7))))) := ((xe_aload 0).trans (congrArg (x_aload 0) ((xe_iconst 0).trans (congrArg (x_iconst 0) ((xe_p (kk := 104) rfl tl_4_3).trans (congrArg (x_p 104 3 0 400) ((xe_iconst 0).trans (congrArg (x_iconst 0) ((xe_istore 2).trans (congrArg (x_istore 2) xe_nil))))))))))
abbrev po_X4_listMatches (T : Zt) (d : Int) : Zt → Option Zv → Prop := fun T' r => r = none ∧ fr_ [(104, [3]), (482, [])] T T' ∧ ((0 ≤ T' 104 0 3 ∧ T' 104 0 3 ≤ 48) ∧ LS_ T (T' 482 0) d (T' 104 0 3) (T 106 0 4))
set_option maxHeartbeats 4000000 in
theorem ct_X4_listMatches {T : Zt} {d : Int} (hka : KA_ T) (hkm : KM_ T) (hdd : DD_ T) : Ct_ yX4_listMatches zX4_listMatches T [vR 104 0, vI d] (po_X4_listMatches T d) := by
  refine ct_of pn_4 rfl rfl (Nat.le_of_ble_eq_true rfl) (fun hT hav => ?_)
  have hr_d : -2147483648 ≤ d ∧ d ≤ 2147483647 := hav (vI d) (List.mem_cons_of_mem _ List.mem_cons_self)
  have hz : zX4_listMatches.2.2.2.1 = some .boolean → ∀ (T' : Zt) (x : Int), po_X4_listMatches T d T' (some (vI x)) → 0 ≤ x ∧ x ≤ 1 := fun h => by cases h
  have hb_matchCount : 0 ≤ T 106 0 4 ∧ T 106 0 4 ≤ 400 := bd_f hT 106 4 tl_6_4 0
  show J_ zX4_listMatches T (po_X4_listMatches T d) 0 0 0 [some (vR 104 0), some (vI d), none, none] [] T
  have c_7 : ∀ (nn : Nat) (k : Int) (T1 : Zt), ((400 - k).toNat) ≤ nn → (fr_ [(104, [3]), (482, [])] T T1) → (0 ≤ k ∧ k ≤ T 106 0 4 ∧ 0 ≤ T1 104 0 3 ∧ T1 104 0 3 ≤ k) → (LS_ T (T1 482 0) d (T1 104 0 3) k) → J_ zX4_listMatches T (po_X4_listMatches T d) 0 0 7 [some (vR 104 0), some (vI d), some (vI k), none] [] T1 := by
    intro nn
    induction nn using Nat.strongRecOn with
    | _ nn ih_7 =>
      intro k T1 hm_7 hf_7 i1 ls1
      replace hm_7 := fun (_ : Unit) => hm_7
      refine j_blx (F := fX4) tb_X4 (nn_ _) bk_X4_listMatches_7 bs_X4_listMatches_7 hz (fun K hK => ?_)
      intro b1 b1b
      have e2 : T1 106 0 4 = T 106 0 4 := hf_7 106 0 4 rfl
      rw [e2] at b1 b1b ⊢
      refine And.intro (fun c3 => ?_) (fun c3 => ?_)
      · refine hK 69 _ [] T1 ?_
        refine j_blx (F := fX4) tb_X4 (nn_ _) bk_X4_listMatches_69 bs_X4_listMatches_69 hz (fun K hK => ?_)
        refine (show po_X4_listMatches T d T1 (none) from ?_)
        have y0 := LS_48 (L := T1 482 0) (d := d) (n := T1 104 0 3) hT (LS_m ls1 (by omega)) hkm hdd
        exact ⟨rfl, hf_7, by omega, LS_m ls1 (by omega)⟩
      · refine ix_i (by omega) ?_
        have e5 : T1 523 0 k = T 523 0 k := hf_7 523 0 k rfl
        refine And.intro (fun c4 => ?_) (fun c4 => ?_)
        · exact absurd (show T 523 0 (k) = 0 by omega) (hka.2 _ (by omega) (by omega))
        · intro b6 b6b
          have e7 : T1 102 k 5 = T 102 k 5 := hf_7 102 k 5 rfl
          rw [e7] at b6 b6b ⊢
          refine And.intro (fun c8 => ?_) (fun c8 => ?_)
          · refine hK 63 [some (vR 104 0), some (vI d), some (vI k), some (vR 102 k)] [] T1 ?_
            refine j_blx (F := fX4) tb_X4 (nn_ _) bk_X4_listMatches_63 bs_X4_listMatches_63 hz (fun K hK => ?_)
            refine rg_i (by omega) ?_
            refine hK 7 [some (vR 104 0), some (vI d), some (vI (k + 1)), some (vR 102 k)] [] T1 ?_
            refine j_drq [some (vR 104 0), some (vI d), some (vI (k + 1)), none] (drq_s (drq_s (drq_s (drq_n drq_0)))) ?_
            refine ih_7 _ ?_ (k + 1) T1 (Nat.le_refl _) ?_ ?_ ?_
            · have hm_7 := hm_7 (); omega
            · exact fr_t (fr_0 _ _) (fr_s hf_7 rfl)
            · omega
            · exact LS_m ls1 (by omega)
          · refine hK 37 [some (vR 104 0), some (vI d), some (vI k), some (vR 102 k)] [vR 102 k] T1 ?_
            refine j_callV (y := yX2_isDecided) (Yc := zX2_isDecided) (rest := []) [] (ct_X2_isDecided_k (T := T1)) cl_X4_63 (qd_c (by decide +kernel)) (nn_ _) rfl (rf_of rfl) (Nat.le_of_ble_eq_true rfl) (Nat.le_of_ble_eq_true rfl) (Nat.le_of_ble_eq_true rfl) rfl ?_
            rintro _ _ ⟨rfl, x9, rfl, hx9⟩
            show J_ zX4_listMatches T (po_X4_listMatches T d) 0 0 40 _ [vI x9] T1
            refine j_blx (F := fX4) tb_X4 (nn_ _) bk_X4_listMatches_40 bs_X4_listMatches_40 hz (fun K hK => ?_)
            refine And.intro (fun c10 => ?_) (fun c10 => ?_)
            · refine hK 63 _ [] T1 ?_
              refine j_blx (F := fX4) tb_X4 (nn_ _) bk_X4_listMatches_63 bs_X4_listMatches_63 hz (fun K hK => ?_)
              refine rg_i (by omega) ?_
              refine hK 7 [some (vR 104 0), some (vI d), some (vI (k + 1)), some (vR 102 k)] [] T1 ?_
              refine j_drq [some (vR 104 0), some (vI d), some (vI (k + 1)), none] (drq_s (drq_s (drq_s (drq_n drq_0)))) ?_
              refine ih_7 _ ?_ (k + 1) T1 (Nat.le_refl _) ?_ ?_ ?_
              · have hm_7 := hm_7 (); omega
              · exact fr_t (fr_0 _ _) (fr_s hf_7 rfl)
              · omega
              · exact LS_m ls1 (by omega)
            · intro b11 b11b
              refine iy_i (by omega) (by omega) ?_
              refine x_nm (fun U12 hU12 => ?_)
              have e13 := up_f hU12
              intro b14 b14b
              have e15 : U12 104 0 3 = T1 104 0 3 := up_k hU12 (by exact Nat.ne_of_beq_eq_false rfl) 0 3
              rw [e15] at b14 b14b ⊢
              refine rg_i (by omega) ?_
              refine bd_i (by omega) ?_
              refine x_nm (fun U16 hU16 => ?_)
              have e17 := up_f hU16
              refine rg_i (by omega) ?_
              refine hK 7 [some (vR 104 0), some (vI d), some (vI (k + 1)), some (vR 102 k)] [] U16 ?_
              refine j_drq [some (vR 104 0), some (vI d), some (vI (k + 1)), none] (drq_s (drq_s (drq_s (drq_n drq_0)))) ?_
              have e18 : U16 104 0 3 = (T1 104 0 3) + 1 := up_f hU16
              refine ih_7 _ ?_ (k + 1) U16 (Nat.le_refl _) ?_ ?_ ?_
              · have hm_7 := hm_7 (); omega
              · exact fr_u (fr_u (fr_t (fr_0 _ _) (fr_s hf_7 rfl)) hU12 rfl) hU16 rfl
              · omega
              · have y1 : U16 104 0 3 = T1 104 0 3 + 1 := by have := up_f hU16; omega
                have y2 : ∀ j, U16 482 0 j = U12 482 0 j := fun j => up_k hU16 (by exact Nat.ne_of_beq_eq_false rfl) _ _
                rw [y1, show (U16 482 0) = (U12 482 0) from funext y2]
                have z1 : T1 102 k 6 = T 102 k 6 := hf_7 102 k 6 rfl
                have z2 : T1 102 k 5 = T 102 k 5 := hf_7 102 k 5 rfl
                exact LS_u ls1 (up_f hU12) (fun j hj => up_g hU12 (fun q => by omega)) (by omega)
  refine j_blx (F := fX4) tb_X4 (nn_ _) bk_X4_listMatches_0 bs_X4_listMatches_0 hz (fun K hK => ?_)
  refine bd_i (by omega) ?_
  refine x_nm (fun U19 hU19 => ?_)
  have e20 := up_f hU19
  refine hK 7 [some (vR 104 0), some (vI d), some (vI 0), none] [] U19 ?_
  have e21 : U19 104 0 3 = 0 := up_f hU19
  refine c_7 _ 0 U19 (Nat.le_refl _) ?_ ?_ ?_
  · exact fr_u (fr_0 _ _) hU19 rfl
  · omega
  · exact ⟨fun j a b => by have := up_f hU19; omega, fun a b x y z => by have := up_f hU19; omega⟩
abbrev cX4_weighAll : ByteArray := prog_6_method_4_code
def yX4_weighAll : MethodName := ⟨RX4, "weighAll", "(I)V"⟩
def zX4_weighAll : Zm := (RX4, cX4_weighAll, 6, none, { frames := 3, cells := 1, slots := 12544, locals := 73 })
set_option maxRecDepth 100000 in
theorem cl_X4_67 : cv_ RX4 67 yX4_weigh zX4_weigh 4 4 := ⟨gi_V (lwq_6 (dqc_m (dqc_m (dqc_m (dqc_m (dqc_m (dqc_m (List.mem_of_getElem? (i := 7) rfl))))))) rfl : Cond.methodLink RX4 67 yX4_weigh ∈ lw_g) (lwq_6 (dqc_m (dqc_m (dqc_m (dqc_m (dqc_m (dqc_m (dqa_m (List.mem_of_getElem? (i := 1) rfl)))))))) rfl : Cond.instanceMethod yX4_weigh ∈ lw_g) (lw_sel 106 rfl : Cond.selects yX4_weigh.cls yX4_weigh yX4_weigh ∈ lw_g) (lwq_1 (dqa_m (List.mem_of_getElem? (i := 1) rfl)) rfl : Cond.initialized yX4_weigh.cls ∈ lw_g) (lwq_6 (dqc_m (dqc_m (dqc_m (dqc_m (dqc_m (dqc_m (dqa_m (List.mem_of_getElem? (i := 2) rfl)))))))) rfl : Cond.code yX4_weigh cX4_weigh 9 (some .int) ∈ lw_g), ⟨nmh_4.1, nmh_4.2, pdq_37⟩, ⟨_, _, rfl⟩⟩
theorem fr5_X4_15 : fr5_ RX4 15 4 4 := ⟨_, _, _, rfl, by decide, by decide, (lwq_2 (dqc_m (dqc_m (dqc_m (dqc_m (dqa_m (dqa_m (dqa_m (List.mem_of_getElem? (i := 1) rfl)))))))) rfl : Cond.fieldLink RX4 15 _ _ _ ∈ lw_g), rfl, fun a => ⟨.array .int, by decide +kernel, rfl, rfl⟩⟩
abbrev cX4_share : ByteArray := prog_6_method_2_code
def yX4_share : MethodName := ⟨RX4, "share", "(I)I"⟩
def zX4_share : Zm := (RX4, cX4_share, 8, (some .int), { frames := 4, cells := 1, slots := 12544, locals := 98 })
set_option maxRecDepth 100000 in
theorem cl_X4_48 : cv_ RX4 48 yX4_firstBest zX4_firstBest 4 4 := ⟨gi_V (lwq_6 (dqc_m (dqc_m (dqc_m (dqc_m (dqc_m (dqc_m (dqa_m (dqa_m (List.mem_of_getElem? (i := 1) rfl))))))))) rfl : Cond.methodLink RX4 48 yX4_firstBest ∈ lw_g) (lwq_6 (dqc_m (dqc_m (dqc_m (dqc_m (dqc_m (dqc_m (dqa_m (dqa_m (List.mem_of_getElem? (i := 3) rfl))))))))) rfl : Cond.instanceMethod yX4_firstBest ∈ lw_g) (lw_sel 103 rfl : Cond.selects yX4_firstBest.cls yX4_firstBest yX4_firstBest ∈ lw_g) (lwq_1 (dqa_m (List.mem_of_getElem? (i := 1) rfl)) rfl : Cond.initialized yX4_firstBest.cls ∈ lw_g) (lwq_6 (dqc_m (dqc_m (dqc_m (dqc_m (dqc_m (dqc_m (dqa_m (dqa_m (List.mem_of_getElem? (i := 4) rfl))))))))) rfl : Cond.code yX4_firstBest cX4_firstBest 8 (some .int) ∈ lw_g), ⟨nmh_4.1, nmh_4.2, pdq_37⟩, ⟨_, _, rfl⟩⟩
set_option maxRecDepth 100000 in
theorem cl_X4_26 : cv_ RX4 26 yX4_listMatches zX4_listMatches 4 1 := ⟨gi_V (lwq_6 (dqc_m (dqc_m (dqc_m (dqc_m (dqc_m (dqa_m (dqa_m (dqa_m (List.mem_of_getElem? (i := 6) rfl))))))))) rfl : Cond.methodLink RX4 26 yX4_listMatches ∈ lw_g) (lwq_6 (dqc_m (dqc_m (dqc_m (dqc_m (dqc_m (dqc_m (List.mem_of_getElem? (i := 0) rfl))))))) rfl : Cond.instanceMethod yX4_listMatches ∈ lw_g) (lw_sel 105 rfl : Cond.selects yX4_listMatches.cls yX4_listMatches yX4_listMatches ∈ lw_g) (lwq_1 (dqa_m (List.mem_of_getElem? (i := 1) rfl)) rfl : Cond.initialized yX4_listMatches.cls ∈ lw_g) (lwq_6 (dqc_m (dqc_m (dqc_m (dqc_m (dqc_m (dqc_m (List.mem_of_getElem? (i := 1) rfl))))))) rfl : Cond.code yX4_listMatches cX4_listMatches 4 none ∈ lw_g), ⟨nmh_4.1, nmh_4.2, pdq_9⟩, ⟨_, _, rfl⟩⟩
set_option maxRecDepth 100000 in
theorem cl_X4_36 : cv_ RX4 36 yX4_weighAll zX4_weighAll 4 1 := ⟨gi_V (lwq_6 (dqc_m (dqc_m (dqc_m (dqc_m (dqc_m (dqc_m (List.mem_of_getElem? (i := 3) rfl))))))) rfl : Cond.methodLink RX4 36 yX4_weighAll ∈ lw_g) (lwq_6 (dqc_m (dqc_m (dqc_m (dqc_m (dqc_m (dqc_m (List.mem_of_getElem? (i := 5) rfl))))))) rfl : Cond.instanceMethod yX4_weighAll ∈ lw_g) (lw_sel 107 rfl : Cond.selects yX4_weighAll.cls yX4_weighAll yX4_weighAll ∈ lw_g) (lwq_1 (dqa_m (List.mem_of_getElem? (i := 1) rfl)) rfl : Cond.initialized yX4_weighAll.cls ∈ lw_g) (lwq_6 (dqc_m (dqc_m (dqc_m (dqc_m (dqc_m (dqc_m (List.mem_of_getElem? (i := 6) rfl))))))) rfl : Cond.code yX4_weighAll cX4_weighAll 6 none ∈ lw_g), ⟨nmh_4.1, nmh_4.2, pdq_9⟩, ⟨_, _, rfl⟩⟩
abbrev cX10_assign : ByteArray := prog_1_method_42_code
def yX10_assign : MethodName := ⟨RX10, "assign", "(I)I"⟩
def zX10_assign : Zm := (RX10, cX10_assign, 2, (some .int), { frames := 5, cells := 1, slots := 12544, locals := 125 })
set_option maxRecDepth 100000 in
theorem cl_X10_423 : cv_ RX10 423 yX4_share zX4_share 4 1 := ⟨gi_V (lwq_6 (dqc_m (dqc_m (dqc_m (dqc_m (dqc_m (dqa_m (dqa_m (dqa_m (List.mem_of_getElem? (i := 2) rfl))))))))) rfl : Cond.methodLink RX10 423 yX4_share ∈ lw_g) (lwq_6 (dqc_m (dqc_m (dqc_m (dqc_m (dqc_m (dqa_m (dqa_m (dqa_m (List.mem_of_getElem? (i := 3) rfl))))))))) rfl : Cond.instanceMethod yX4_share ∈ lw_g) (lwq_6 (dqc_m (dqc_m (dqc_m (dqc_m (dqc_m (dqa_m (dqa_m (dqa_m (List.mem_of_getElem? (i := 4) rfl))))))))) rfl : Cond.selects yX4_share.cls yX4_share yX4_share ∈ lw_g) (lwq_1 (dqa_m (List.mem_of_getElem? (i := 1) rfl)) rfl : Cond.initialized yX4_share.cls ∈ lw_g) (lwq_6 (dqc_m (dqc_m (dqc_m (dqc_m (dqc_m (dqa_m (dqa_m (dqa_m (List.mem_of_getElem? (i := 5) rfl))))))))) rfl : Cond.code yX4_share cX4_share 8 (some .int) ∈ lw_g), ⟨nmh_4.1, nmh_4.2, pdq_15⟩, ⟨_, _, rfl⟩⟩
abbrev po_X10_assign (T : Zt) (d : Int) : Zt → Option Zv → Prop := fun T' r => ∃ x : Int, r = some (vI x) ∧ fr_ [(104, [3, 4]), (482, []), (102, [7]), (190, []), (191, [0])] T T' ∧ lh_ T T' ∧ T' 191 0 0 ≤ T 191 0 0 + 1
abbrev cX9_search : ByteArray := prog_11_method_6_code
def yX9_search : MethodName := ⟨RX9, "search", "(I)Z"⟩
def zX9_search_0 : Zm := (RX9, cX9_search, 9, (some .boolean), { frames := 1, cells := 0, slots := 0, locals := 28 })
def zX9_sq (n : Nat) : Zm := (RX9, cX9_search, 9, (some .boolean), { frames := n + 1, cells := 0, slots := 0, locals := 28 * (n + 1) })
theorem rf_sq (n : Nat) : rf_ (zX9_sq n) (zX9_sq (n + 1)) = true := by
  unfold rf_
  rw [Bool.and_eq_true, decide_eq_true_eq, decide_eq_true_eq]
  show n + 1 + 1 ≤ n + 1 + 1 ∧ 8 + (9 + 11) + 28 * (n + 1) ≤ 28 * (n + 1 + 1)
  omega
set_option maxRecDepth 100000 in
theorem cl_sq (n : Nat) : cv_ RX9 91 yX9_search (zX9_sq n) 9 1 := ⟨gi_V (lwq_6 (dqc_m (dqc_m (dqa_m (dqa_m (dqa_m (List.mem_of_getElem? (i := 7) rfl)))))) rfl : Cond.methodLink RX9 91 yX9_search ∈ lw_g) (lwq_6 (dqc_m (dqc_m (dqc_m (List.mem_of_getElem? (i := 1) rfl)))) rfl : Cond.instanceMethod yX9_search ∈ lw_g) (lw_sel 144 rfl : Cond.selects yX9_search.cls yX9_search yX9_search ∈ lw_g) (lwq_1 (List.mem_of_getElem? (i := 6) rfl) rfl : Cond.initialized yX9_search.cls ∈ lw_g) (lwq_6 (dqc_m (dqc_m (dqc_m (List.mem_of_getElem? (i := 2) rfl)))) rfl : Cond.code yX9_search cX9_search 9 (some .boolean) ∈ lw_g), ⟨nmh_8.1, nmh_8.2, pdq_7⟩, ⟨_, _, rfl⟩⟩
def zX9_search_8 : Zm := (RX9, cX9_search, 9, (some .boolean), { frames := 9, cells := 0, slots := 0, locals := 252 })
def tzm9 (a : Nat) : Bool := Nat.beq a 0 || ((List.range 12).any fun x => Nat.beq ((a ^^^ 4294967295) &&& (a - 1)) (2 ^ x - 1) && Nat.testBit a x)
theorem tz_a : ∀ i, i < 64 → ∀ j, j < 64 → tzm9 (64 * i + j) = true := by decide +kernel
theorem tz_m9 {a : Int} (h : 1 ≤ a) : Nat.beq a.toNat 0 = false := by
  cases z : Nat.beq a.toNat 0
  · rfl
  · have := Nat.eq_of_beq_eq_true z
    omega
theorem tx_m9 {a : Int} (h : 1 ≤ a ∧ a ≤ 4095) : an_ (xo_ a (-1)) (a - 1) = (((a.toNat ^^^ 4294967295) &&& (a.toNat - 1) : Nat) : Int) := by
  have m1 : (Int32.ofInt (-1)).toBitVec.toNat = 4294967295 := by decide +kernel
  have m2 : (a - 1).toNat = a.toNat - 1 := by omega
  have e : (((Int32.ofInt a).toBitVec ^^^ (Int32.ofInt (-1)).toBitVec) &&& (Int32.ofInt (a - 1)).toBitVec).toNat = (a.toNat ^^^ 4294967295) &&& (a.toNat - 1) := by
    rw [BitVec.toNat_and, BitVec.toNat_xor, i3_n (x := a) ⟨by omega, by omega⟩, i3_n (x := a - 1) ⟨by omega, by omega⟩, m1, m2]
  have l : (a.toNat ^^^ 4294967295) &&& (a.toNat - 1) ≤ a.toNat - 1 := Nat.and_le_right
  show (Int32.ofInt ((Int32.ofInt a ^^^ Int32.ofInt (-1)).toInt) &&& Int32.ofInt (a - 1)).toInt = _
  rw [Int32.ofInt_toInt]
  show (((Int32.ofInt a).toBitVec ^^^ (Int32.ofInt (-1)).toBitVec) &&& (Int32.ofInt (a - 1)).toBitVec).toInt = _
  rw [bv_i (by rw [e]; exact Nat.lt_of_le_of_lt l (by omega)), e]
theorem us_m9 {v k : Int} {m : Nat} (h : 0 ≤ v ∧ v ≤ 2047) (hk : ((Int32.ofInt k).toUInt32 &&& Int32.toUInt32 31).toNat % 32 = m) : us_ v k = ((v.toNat >>> m : Nat) : Int) := by
  have h0 : (Int32.ofInt v).toUInt32.toNat = v.toNat := i3_n ⟨h.1, by omega⟩
  have e : ((Int32.ofInt v).toUInt32 >>> ((Int32.ofInt k).toUInt32 &&& Int32.toUInt32 31)).toNat = v.toNat >>> m := by
    rw [UInt32.toNat_shiftRight, h0, hk]
  have l : v.toNat >>> m ≤ v.toNat := by rw [Nat.shiftRight_eq_div_pow]; exact Nat.div_le_self _ _
  have e2 : ((Int32.ofInt v).toUInt32 >>> ((Int32.ofInt k).toUInt32 &&& Int32.toUInt32 31)).toBitVec.toNat = v.toNat >>> m := e
  show ((Int32.ofInt v).toUInt32 >>> ((Int32.ofInt k).toUInt32 &&& Int32.toUInt32 31)).toBitVec.toInt = _
  rw [bv_i (by rw [e2]; exact Nat.lt_of_le_of_lt l (by omega)), e2]
def nem9 (d : Nat) : Bool := Nat.beq d 0 || !(Nat.beq ((4294967296 - d) &&& d) 0)
theorem ne_a : ∀ i, i < 64 → ∀ j, j < 64 → nem9 (64 * i + j) = true := by decide +kernel
theorem us_q {v : Int} (h : 0 ≤ v ∧ v ≤ 2047) : us_ v 8 = v / 256 ∧ us_ v 4 = v / 16 ∧ us_ v 2 = v / 4 ∧ us_ v 1 = v / 2 := by
  refine ⟨(us_m9 (m := 8) h (by decide +kernel)).trans ?_, (us_m9 (m := 4) h (by decide +kernel)).trans ?_, (us_m9 (m := 2) h (by decide +kernel)).trans ?_, (us_m9 (m := 1) h (by decide +kernel)).trans ?_⟩
  · rw [Nat.shiftRight_eq_div_pow]
    show ((v.toNat / 256 : Nat) : Int) = v / 256
    omega
  · rw [Nat.shiftRight_eq_div_pow]
    show ((v.toNat / 16 : Nat) : Int) = v / 16
    omega
  · rw [Nat.shiftRight_eq_div_pow]
    show ((v.toNat / 4 : Nat) : Int) = v / 4
    omega
  · rw [Nat.shiftRight_eq_div_pow]
    show ((v.toNat / 2 : Nat) : Int) = v / 2
    omega
/-- the zeros behind a number: its lowest bit -/
theorem tz_q {a : Int} (h : 1 ≤ a ∧ a ≤ 4095) : ∃ x : Nat, x < 12 ∧ an_ (xo_ a (-1)) (a - 1) = ((2 ^ x : Nat) : Int) - 1 ∧ an_ (sr_ a (x : Int)) 1 = 1 := by
  have h1 := tz_a (a.toNat / 64) (by omega) (a.toNat % 64) (by omega)
  rw [Nat.div_add_mod] at h1
  unfold tzm9 at h1
  rw [tz_m9 h.1, Bool.false_or, List.any_eq_true] at h1
  obtain ⟨x, a1, a2⟩ := h1
  simp only [Bool.and_eq_true] at a2
  have e1 := Nat.eq_of_beq_eq_true a2.1
  have a3 : x < 12 := List.mem_range.mp a1
  refine ⟨x, a3, ?_, ?_⟩
  · rw [tx_m9 h, e1]
    have q : ∀ y : Nat, 0 < y → ((y - 1 : Nat) : Int) = (y : Int) - 1 := fun y hy => by omega
    exact q _ (Nat.two_pow_pos x)
  · rw [bt_n (x := a) (k := (x : Int)) ⟨by omega, by omega⟩ ⟨by omega, by omega⟩]
    unfold bt_
    rw [show ((x : Nat) : Int).toNat = x by omega, if_pos a2.2]
theorem ne_q {d : Int} (h : 1 ≤ d ∧ d ≤ 4095) : an_ (-d) d ≠ 0 := by
  have h1 := ne_a (d.toNat / 64) (by omega) (d.toNat % 64) (by omega)
  rw [Nat.div_add_mod] at h1
  have m1 : (Int32.ofInt (-d)).toBitVec.toNat = 4294967296 - d.toNat := by
    show (BitVec.ofInt 32 (-d)).toNat = _
    rw [BitVec.toNat_ofInt]; omega
  have e : ((Int32.ofInt (-d)).toBitVec &&& (Int32.ofInt d).toBitVec).toNat = (4294967296 - d.toNat) &&& d.toNat := by
    rw [BitVec.toNat_and, m1, i3_n (x := d) ⟨by omega, by omega⟩]
  have l : (4294967296 - d.toNat) &&& d.toNat ≤ d.toNat := Nat.and_le_right
  have e2 : an_ (-d) d = (((4294967296 - d.toNat) &&& d.toNat : Nat) : Int) := by
    show ((Int32.ofInt (-d)).toBitVec &&& (Int32.ofInt d).toBitVec).toInt = _
    rw [bv_i (by rw [e]; exact Nat.lt_of_le_of_lt l (by omega)), e]
  rw [e2]
  intro z
  have q : ∀ y : Nat, (y : Int) = 0 → y = 0 := fun y hy => by omega
  have z1 := q _ z
  unfold nem9 at h1
  rw [tz_m9 h.1, z1] at h1
  exact absurd h1 (by decide)
theorem pb_and (x y : Nat) : (x &&& y) % 2 = 1 ↔ x % 2 = 1 ∧ y % 2 = 1 := by
  have h := Nat.testBit_and x y 0
  simp only [Nat.testBit_zero] at h
  have e : decide ((x &&& y) % 2 = 1) = true ↔ (decide (x % 2 = 1) && decide (y % 2 = 1)) = true := by rw [h]
  rw [decide_eq_true_iff, Bool.and_eq_true, decide_eq_true_iff, decide_eq_true_iff] at e
  exact e
theorem nb_sub (o : Nat) : ∀ s, s &&& o = s → s ≤ o ∧ (o - s) &&& o = o - s := by
  induction o using Nat.strongRecOn with
  | _ o ih =>
    intro s h
    by_cases z : o = 0
    · subst z
      have : s = 0 := by rw [Nat.and_zero] at h; exact h.symm
      subst this
      exact ⟨Nat.le_refl _, rfl⟩
    · have hd : (s / 2) &&& (o / 2) = s / 2 := by rw [← Nat.and_div_two, h]
      have hp : s % 2 = 1 → o % 2 = 1 := fun q => ((pb_and s o).mp (by rw [h]; exact q)).2
      obtain ⟨h1, h2⟩ := ih (o / 2) (by omega) (s / 2) hd
      have e1 : (o - s) / 2 = o / 2 - s / 2 := by omega
      have a1 : ((o - s) &&& o) / 2 = (o - s) / 2 := by rw [Nat.and_div_two, e1]; exact h2
      have a2 : ((o - s) &&& o) % 2 = 1 ↔ (o - s) % 2 = 1 := by
        rw [pb_and]
        omega
      exact ⟨by omega, by omega⟩
theorem an_le {x o : Int} (ho : 0 ≤ o ∧ o ≤ 4095) : 0 ≤ an_ x o ∧ an_ x o ≤ 4095 := by
  have h0 : (Int32.ofInt o).toBitVec.toNat = o.toNat := i3_n (by omega)
  have h : ((Int32.ofInt x).toBitVec &&& (Int32.ofInt o).toBitVec).toNat ≤ o.toNat := by
    rw [BitVec.toNat_and, h0]; exact Nat.and_le_right
  show 0 ≤ ((Int32.ofInt x).toBitVec &&& (Int32.ofInt o).toBitVec).toInt ∧ ((Int32.ofInt x).toBitVec &&& (Int32.ofInt o).toBitVec).toInt ≤ 4095
  rw [BitVec.toInt_eq_toNat_cond]
  split <;> omega
theorem i3_b (v : Int32) : Int32.ofInt v.toInt = v := Int32.ofInt_toInt v
theorem an_id (x o : Int) : an_ (an_ x o) o = an_ x o := by
  unfold an_
  rw [i3_b, Int32.and_assoc, Int32.and_self]
/-- the next set below another: it is not empty -/
theorem nx_1 {s o : Int} (ho : 0 ≤ o ∧ o ≤ 4095) (hs : 0 ≤ s ∧ s < 4096) (h : an_ s o = s) (hne : s ≠ o) : 1 ≤ an_ (s - o) o ∧ an_ (s - o) o ≤ 4095 ∧ an_ (an_ (s - o) o) o = an_ (s - o) o := by
  have hb := an_le (x := s - o) ho
  refine ⟨?_, hb.2, an_id _ _⟩
  by_cases z : an_ (s - o) o = 0
  · exfalso
    obtain ⟨h1, h2⟩ := nb_sub o.toNat s.toNat ((an_z ho hs).mp h)
    have hd : an_ (o - s) o = o - s := by
      refine (an_z ho (by omega)).mpr ?_
      rw [show (o - s).toNat = o.toNat - s.toNat by omega]
      exact h2
    refine ne_q (d := o - s) (by omega) ?_
    have e1 : Int32.ofInt (o - s) = Int32.ofInt o &&& Int32.ofInt (o - s) := by
      have := congrArg Int32.ofInt hd
      unfold an_ at this
      rw [i3_b, Int32.and_comm] at this
      exact this.symm
    have e2 : Int32.ofInt (s - o) &&& Int32.ofInt o = 0 := by
      have := congrArg Int32.ofInt z
      unfold an_ at this
      rw [i3_b] at this
      exact this
    unfold an_
    rw [show -(o - s) = s - o by omega, e1, ← Int32.and_assoc, e2, Int32.zero_and]
    rfl
  · omega
theorem nx_b {s o x : Int} (ho : 0 ≤ o ∧ o ≤ 4095) (hs : 0 ≤ s ∧ s < 4096) (h : an_ s o = s) (hx : 0 ≤ x ∧ x < 32) (hb : an_ (sr_ s x) 1 = 1) : an_ (sr_ o x) 1 = 1 := by
  rw [bt_n (by omega) hx] at hb ⊢
  unfold bt_ at hb ⊢
  have h1 := (an_z ho hs).mp h
  by_cases z : s.toNat.testBit x.toNat = true
  · rw [← h1, Nat.testBit_and, Bool.and_eq_true] at z
    rw [if_pos z.2]
  · rw [if_neg z] at hb
    omega
theorem sl_q {w : Int} (h : 0 ≤ w ∧ w ≤ 11) : sl_ 1 w = ((2 ^ w.toNat : Nat) : Int) := by
  have : w = 0 ∨ w = 1 ∨ w = 2 ∨ w = 3 ∨ w = 4 ∨ w = 5 ∨ w = 6 ∨ w = 7 ∨ w = 8 ∨ w = 9 ∨ w = 10 ∨ w = 11 := by omega
  rcases this with rfl | rfl | rfl | rfl | rfl | rfl | rfl | rfl | rfl | rfl | rfl | rfl <;> decide
theorem or_bit {o q x : Int} (ho : 0 ≤ o ∧ o ≤ 4095) (hq : 0 ≤ q ∧ q ≤ 11) (hx : 0 ≤ x ∧ x ≤ 11) (h : an_ (sr_ (or_ o (sl_ 1 q)) x) 1 = 1) : an_ (sr_ o x) 1 = 1 ∨ x = q := by
  have hb := sl_b hq
  have ho2 := or_b ho hb
  rw [bt_n (by omega) (by omega)] at h
  rw [bt_n (by omega) (by omega)]
  unfold bt_ at h ⊢
  rw [or_n (by omega) (by omega), Int.toNat_natCast, Nat.testBit_or, sl_q hq, Int.toNat_natCast, Nat.testBit_two_pow] at h
  by_cases z : o.toNat.testBit x.toNat = true
  · exact Or.inl (by rw [if_pos z])
  · by_cases y : q.toNat = x.toNat
    · exact Or.inr (by omega)
    · simp [z, y] at h
/-- only clubs with a seat are in the set -/
def OB_ (T : Zt) (c o : Int) : Prop := ∀ x, 0 ≤ x → x ≤ 11 → an_ (sr_ o x) 1 = 1 → 0 ≤ T 404 c x
theorem ob_0 (T : Zt) (c : Int) : OB_ T c 0 := fun x a b h => by
  have : an_ (sr_ 0 x) 1 = 0 := by
    rw [bt_n (by omega) (by omega)]
    unfold bt_
    simp
  omega
theorem ob_s {T : Zt} {c o q : Int} (h : OB_ T c o) (ho : 0 ≤ o ∧ o ≤ 4095) (hq : 0 ≤ q ∧ q ≤ 11) (g : 0 ≤ T 404 c q) : OB_ T c (or_ o (sl_ 1 q)) := fun x a b e => by
  rcases or_bit ho hq ⟨a, b⟩ e with z | z
  · exact h x a b z
  · rw [z]; exact g
theorem or_0 {o : Int} (ho : 0 ≤ o ∧ o ≤ 4095) : or_ o 0 = o := by
  unfold or_
  rw [show Int32.ofInt 0 = 0 from rfl, Int32.or_zero]
  exact i3_t (by omega) (by omega)
abbrev cJ6_numberOfTrailingZeros_0f7a4 : ByteArray := prog_15_method_48_code
def yJ6_numberOfTrailingZeros_0f7a4 : MethodName := ⟨RJ6, "numberOfTrailingZeros", "(I)I"⟩
def zJ6_numberOfTrailingZeros_0f7a4 : Zm := (RJ6, cJ6_numberOfTrailingZeros_0f7a4, 2, (some .int), { frames := 0, cells := 0, slots := 0, locals := 0 })
abbrev cX9_leastCut : ByteArray := prog_11_method_15_code
def yX9_leastCut : MethodName := ⟨RX9, "leastCut", "(I)I"⟩
def zX9_leastCut : Zm := (RX9, cX9_leastCut, 7, (some .int), { frames := 1, cells := 1, slots := 4096, locals := 25 })
set_option maxRecDepth 100000 in
theorem cl_X9_168 : cs_ RX9 168 yJ6_numberOfTrailingZeros_0f7a4 zJ6_numberOfTrailingZeros_0f7a4 1 := ⟨gi_S (lwq_6 (dqc_m (dqc_m (dqa_m (dqa_m (List.mem_of_getElem? (i := 3) rfl))))) rfl : Cond.methodLink RX9 168 yJ6_numberOfTrailingZeros_0f7a4 ∈ lw_g) (lwq_6 (dqc_m (dqc_m (dqa_m (dqa_m (List.mem_of_getElem? (i := 4) rfl))))) rfl : Cond.static yJ6_numberOfTrailingZeros_0f7a4 ∈ lw_g) (lwq_1 (dqa_m (dqa_m (List.mem_of_getElem? (i := 3) rfl))) rfl : Cond.initialized yJ6_numberOfTrailingZeros_0f7a4.cls ∈ lw_g) (lwq_6 (dqc_m (dqc_m (dqa_m (dqa_m (List.mem_of_getElem? (i := 5) rfl))))) rfl : Cond.code yJ6_numberOfTrailingZeros_0f7a4 cJ6_numberOfTrailingZeros_0f7a4 2 (some .int) ∈ lw_g), ⟨by decide, by decide, by decide +kernel⟩⟩
set_option maxRecDepth 100000 in
theorem cl_X9_173 : cv_ RX9 173 yX9_openBetween zX9_openBetween 9 2 := ⟨gi_V (lwq_6 (dqc_m (dqc_m (dqa_m (dqa_m (List.mem_of_getElem? (i := 7) rfl))))) rfl : Cond.methodLink RX9 173 yX9_openBetween ∈ lw_g) (lwq_6 (dqc_m (dqc_m (dqa_m (dqa_m (dqa_m (List.mem_of_getElem? (i := 1) rfl)))))) rfl : Cond.instanceMethod yX9_openBetween ∈ lw_g) (lw_sel 142 rfl : Cond.selects yX9_openBetween.cls yX9_openBetween yX9_openBetween ∈ lw_g) (lwq_1 (List.mem_of_getElem? (i := 6) rfl) rfl : Cond.initialized yX9_openBetween.cls ∈ lw_g) (lwq_6 (dqc_m (dqc_m (dqa_m (dqa_m (dqa_m (List.mem_of_getElem? (i := 2) rfl)))))) rfl : Cond.code yX9_openBetween cX9_openBetween 6 (some .int) ∈ lw_g), ⟨nmh_8.1, nmh_8.2, pdq_4⟩, ⟨_, _, rfl⟩⟩
theorem fr5_X9_165 : fr5_ RX9 165 9 15 := ⟨_, _, _, rfl, by decide, by decide, (lwq_2 (dqc_m (dqa_m (List.mem_of_getElem? (i := 6) rfl))) rfl : Cond.fieldLink RX9 165 _ _ _ ∈ lw_g), rfl, fun a => ⟨.array .int, by decide +kernel, rfl, rfl⟩⟩
