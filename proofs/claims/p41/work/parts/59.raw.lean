-- raw objects are filled, constructors are called, raw objects become things of the picture
section JO
variable {Y Yc : Zm} {T0 T : Zt} {P : Zt → Option Zv → Prop} {bc bs : Nat} {pc : Int} {ls : Zl} {st rest : List Zv} {y : MethodName} {Qp : Zt → Option Zv → Prop}
def fW_ (own : String) (idx ci j : Nat) (I : Bool) : Prop := ∃ (C : String) (Tb : u_T) (N : Nat), vwCl[ci]? = some (C, Tb, N) ∧ j < N ∧ N = (tf_ (150 + ci)).length ∧ Cond.fieldLink own idx (Tb j).1 (Tb j).2.1 (Tb j).2.2.1 ∈ lw_g ∧ (Tb j).1 = own ∧ ∃ ty, parseFieldDescriptor (Tb j).2.2.1 = some ty ∧ (∀ a : Nat, I = false → narrow ty (.ref a) = .ref a ∧ fits ty (.ref a) = true) ∧ (∀ a : Int32, I = true → narrow ty (.int a) = .int a ∧ fits ty (.int a) = true)
/-- a field of a raw object is put, in its constructor -/
theorem j_putW {ci j c k' idx : Nat} {lo hi i z : Int} {v : Zv} {I : Bool} (hp : 0 ≤ pc) (h4 : ci < 4) (hf : fW_ Y.1 idx ci j I) (ht : (tf_ (150 + ci))[j]? = some (c, k', lo, hi)) (him : im_ Y.2.2.2.2.slots = true) (hd : decode Y.2.1 pc.toNat = .ok (.putfield idx, 3)) (ev : fv_ c k' z i = v) (hI : match v with | .inl _ => I = true | .inr (.inr (some _)) => I = false | _ => False) (h1 : lo ≤ z) (h2 : z ≤ hi) (k : J_ Y T0 P bc bs (pc + 3) ls st (up_ T (150 + ci) i (j : Int) z)) : J_ Y T0 P bc bs pc ls (v :: vR (150 + ci) i :: st) T := by
  intro l p e s m args below meth c0 D cA ad0 A X ad H locs cells slots lsC hc hs hR hS hB hT hL hl hn
  have hal : al_ T (150 + ci) i := ok_al (v := none) (by omega) (ok_head (ok_tail hL))
  have hup := al_up (T := T) (k := 150 + ci) (i := i) (j := (j : Int)) (x := z) (by omega)
  obtain ⟨ids, q0, hq, hids, hP, hD⟩ := rp_at hR hal
  obtain ⟨C, Tb, N, hC, hjN, hN, hlk, how, ty, hty1, hr1, hi1⟩ := hf
  obtain ⟨hin, ⟨ty0, hty⟩, hnm⟩ := cl_in hC
  have hw := wd_get (cA := cA) (ad := ad) (T := T) hq
  rw [ce_rw h4] at hw
  obtain ⟨hnar, hfit⟩ : narrow ty (en_v ad v) = en_v ad v ∧ fits ty (en_v ad v) = true := by
    rcases v with x | x | _ | ⟨k9, i9⟩
    · exact hi1 _ hI
    · exact hI.elim
    · exact hI.elim
    · exact hr1 _ hI
  have fin : ∀ (H1 : Heap) (locs1 : List Loc), va_P D vwCl ((wd_ cA ad T ids).set q0 (ad (150 + ci) i, .inr (ci, ((tf_ (150 + ci)).zipIdx.map fun q => en_v ad (fv_ q.1.1 q.1.2.1 (T (150 + ci) i (q.2 : Int)) i)).set j (en_v ad v)))) H1 → va_D A ((wd_ cA ad T ids).set q0 (ad (150 + ci) i, .inr (ci, ((tf_ (150 + ci)).zipIdx.map fun q => en_v ad (fv_ q.1.1 q.1.2.1 (T (150 + ci) i (q.2 : Int)) i)).set j (en_v ad v)))) → va_S A s.heap H1 locs1 → W p l e Y.2.2.2.2 s m args below meth c0 H1 locs1 cells slots (MQ below (Qc_ D cA ad0 T0 A P) args s Y.2.2.2.2.cells Y.2.2.2.2.slots A) (F0 m (pc.toNat + 3) lsC (st.map (en_v ad))) := by
    intro H1 locs1 hP1 hD1 hS1
    have e1 : ((tf_ (150 + ci)).zipIdx.map fun q => en_v ad (fv_ q.1.1 q.1.2.1 (T (150 + ci) i (q.2 : Int)) i)).set j (en_v ad v) = (tf_ (150 + ci)).zipIdx.map fun q => en_v ad (fv_ q.1.1 q.1.2.1 (up_ T (150 + ci) i (j : Int) z (150 + ci) i (q.2 : Int)) i) := by
      apply List.ext_getElem?
      intro n
      rw [List.getElem?_set]
      by_cases en : j = n
      · subst en
        rw [if_pos rfl, if_pos (by rw [List.length_map, List.length_zipIdx, ← hN]; exact hjN), fs_at (T := up_ T (150 + ci) i (j : Int) z) ht, up_s, ev]
      · rw [if_neg en, List.getElem?_map, List.getElem?_map, List.getElem?_zipIdx]
        cases hn9 : (tf_ (150 + ci))[n]? with
        | none => rfl
        | some q =>
          simp only [Option.map_some]
          rw [up_n (fun q => by omega)]
    have e2 : (wd_ cA ad T ids).set q0 (ad (150 + ci) i, .inr (ci, ((tf_ (150 + ci)).zipIdx.map fun q => en_v ad (fv_ q.1.1 q.1.2.1 (T (150 + ci) i (q.2 : Int)) i)).set j (en_v ad v))) = wd_ cA ad (up_ T (150 + ci) i (j : Int) z) ids := by
      rw [e1, ← ce_rw h4 (T := up_ T (150 + ci) i (j : Int) z) (cA := cA)]
      exact wd_set hD hq (fun k' i' h => up_o h)
    rw [e2] at hP1 hD1
    have k2 := k l p e s m args below meth c0 D cA ad0 A X ad H1 locs1 cells slots lsC hc hs ⟨ids, fun k i => (hup k i).trans (hids k i), hP1, hD1⟩ hS1 ⟨fun k i h => (hup k i).mpr (hB.1 k i h), hB.2⟩ (ok_upR hT ht h1 h2 (by rw [ev]; exact ok_head hL)) ⟨fun k9 v h => okv_mono (fun k i => (hup k i).mpr) (hL.1 k9 v h), fun v h => okv_mono (fun k i => (hup k i).mpr) ((ok_tail (ok_tail hL)).2 v h)⟩ hl hn
    rw [show (pc + 3).toNat = pc.toNat + 3 by omega] at k2
    exact k2
  cases hfin : (Tb j).2.2.2 with
  | false => exact va_put (D := D) (ci := ci) (C := C) (T := Tb) (N := N) (own := Y.1) (ref := (Tb j).1) (index := idx) (ty := ty) (v := en_v ad v) X.1 X.2.1 X.2.2.2.2.2.1 hin ty0 hty hnm X.2.2.2.2.2.2.1 X.2.2.2.2.2.2.2.1 hP hD hS q0 hw hC j hjN (X.2.2.2.2.2.1 _ hlk) (fun _ h => h) hfin hty1 hnar hfit (by rw [List.length_map, List.length_zipIdx, ← hN]; exact hjN) hd fin
  | true => exact va_putF (D := D) (ci := ci) (C := C) (T := Tb) (N := N) (own := Y.1) (ref := (Tb j).1) (index := idx) (ty := ty) (v := en_v ad v) X.1 X.2.1 X.2.2.2.2.2.1 hin ty0 hty hnm X.2.2.2.2.2.2.1 X.2.2.2.2.2.2.2.1 hP hD hS q0 hw hC j hjN (X.2.2.2.2.2.1 _ hlk) (fun _ h => h) hfin (X.2.2.2.2.2.2.2.2.2.2.2 him) how hty1 hnar hfit (by rw [List.length_map, List.length_zipIdx, ← hN]; exact hjN) hd fin
/-- a field of a raw object is read -/
theorem j_getW {ci j c k' idx N : Nat} {C : String} {Tb : u_T} {lo hi i : Int} (hp : 0 ≤ pc) (h4 : ci < 4) (hC : vwCl[ci]? = some (C, Tb, N)) (hjN : j < N) (hlk : Cond.fieldLink Y.1 idx (Tb j).1 (Tb j).2.1 (Tb j).2.2.1 ∈ lw_g) (ht : (tf_ (150 + ci))[j]? = some (c, k', lo, hi)) (hd : decode Y.2.1 pc.toNat = .ok (.getfield idx, 3)) {v : Zv} (ev : fv_ c k' (T (150 + ci) i (j : Int)) i = v) (k : J_ Y T0 P bc bs (pc + 3) ls (v :: st) T) : J_ Y T0 P bc bs pc ls (vR (150 + ci) i :: st) T := by
  subst ev
  intro l p e s m args below meth c0 D cA ad0 A X ad H locs cells slots lsC hc hs hR hS hB hT hL hl hn
  have hal : al_ T (150 + ci) i := ok_al (v := none) (by omega) (ok_head hL)
  obtain ⟨ids, q0, hq, h1, hP, hD⟩ := rp_at hR hal
  obtain ⟨hin, -, -⟩ := cl_in hC
  have k2 := k l p e s m args below meth c0 D cA ad0 A X ad H locs cells slots lsC hc hs hR hS hB hT (ok_push (hT.2.2.2.1 _ _ hal _ _ _ _ _ ht) (ok_tail hL)) hl hn
  rw [show (pc + 3).toNat = pc.toNat + 3 by omega] at k2
  have hw := wd_get (cA := cA) (ad := ad) (T := T) hq
  rw [ce_rw h4] at hw
  exact va_get (D := D) (ci := ci) (C := C) (T := Tb) (N := N) (own := Y.1) (ref := (Tb j).1) (index := idx) X.1 X.2.1 X.2.2.2.2.2.1 hin X.2.2.2.2.2.2.1 X.2.2.2.2.2.2.2.1 hP q0 hw hC j hjN (X.2.2.2.2.2.1 _ hlk) (fun _ h => h) (fs_at ht) hd k2
/-- a reference is put into a field of a thing -/
theorem j_putV {ci j c k' k2 idx : Nat} {lo hi i x z : Int} (hp : 0 ≤ pc) (hf : fr5_ Y.1 idx ci j) (ht : (tf_ (100 + ci))[j]? = some (c, k', lo, hi)) (hd : decode Y.2.1 pc.toNat = .ok (.putfield idx, 3)) (ev : fv_ c k' z i = vR k2 x) (h1 : lo ≤ z) (h2 : z ≤ hi) (k : J_ Y T0 P bc bs (pc + 3) ls st (up_ T (100 + ci) i (j : Int) z)) : J_ Y T0 P bc bs pc ls (vR k2 x :: vR (100 + ci) i :: st) T := by
  intro l p e s m args below meth c0 D cA ad0 A X ad H locs cells slots lsC hc hs hR hS hB hT hL hl hn
  have hal : al_ T (100 + ci) i := ok_al (v := none) (by omega) (ok_head (ok_tail hL))
  have hup := al_up (T := T) (k := 100 + ci) (i := i) (j := (j : Int)) (x := z) (by omega)
  obtain ⟨ids, q0, hq, hids, hP, hD⟩ := rp_at hR hal
  obtain ⟨C, Tb, N, hC, hjN, hN, hlk, hfin, hds⟩ := hf
  obtain ⟨hin, ⟨ty0, hty⟩, hnm⟩ := cl_in hC
  have hw := wd_get (cA := cA) (ad := ad) (T := T) hq
  rw [ce_ob (cl_lt hC)] at hw
  obtain ⟨ty, hty1, hnar, hfit⟩ := hds (ad k2 x)
  refine va_put (D := D) (ci := ci) (C := C) (T := Tb) (N := N) (own := Y.1) (ref := (Tb j).1) (index := idx) (ty := ty) (v := .ref (ad k2 x)) X.1 X.2.1 X.2.2.2.2.2.1 hin ty0 hty hnm X.2.2.2.2.2.2.1 X.2.2.2.2.2.2.2.1 hP hD hS q0 hw hC j hjN (X.2.2.2.2.2.1 _ hlk) (fun _ h => h) hfin hty1 hnar hfit (by rw [List.length_map, List.length_zipIdx, ← hN]; exact hjN) hd (fun H1 locs1 hP1 hD1 hS1 => ?_)
  have e1 : ((tf_ (100 + ci)).zipIdx.map fun q => en_v ad (fv_ q.1.1 q.1.2.1 (T (100 + ci) i (q.2 : Int)) i)).set j (.ref (ad k2 x)) = (tf_ (100 + ci)).zipIdx.map fun q => en_v ad (fv_ q.1.1 q.1.2.1 (up_ T (100 + ci) i (j : Int) z (100 + ci) i (q.2 : Int)) i) := by
    apply List.ext_getElem?
    intro n
    rw [List.getElem?_set]
    by_cases en : j = n
    · subst en
      rw [if_pos rfl, if_pos (by rw [List.length_map, List.length_zipIdx, ← hN]; exact hjN), fs_at (T := up_ T (100 + ci) i (j : Int) z) ht, up_s, ev]
      rfl
    · rw [if_neg en, List.getElem?_map, List.getElem?_map, List.getElem?_zipIdx]
      cases hn9 : (tf_ (100 + ci))[n]? with
      | none => rfl
      | some q =>
        simp only [Option.map_some]
        rw [up_n (fun q => by omega)]
  have e2 : (wd_ cA ad T ids).set q0 (ad (100 + ci) i, .inr (ci, ((tf_ (100 + ci)).zipIdx.map fun q => en_v ad (fv_ q.1.1 q.1.2.1 (T (100 + ci) i (q.2 : Int)) i)).set j (.ref (ad k2 x)))) = wd_ cA ad (up_ T (100 + ci) i (j : Int) z) ids := by
    rw [e1, ← ce_ob (cl_lt hC) (T := up_ T (100 + ci) i (j : Int) z) (cA := cA)]
    exact wd_set hD hq (fun k' i' h => up_o h)
  rw [e2] at hP1 hD1
  have k3 := k l p e s m args below meth c0 D cA ad0 A X ad H1 locs1 cells slots lsC hc hs ⟨ids, fun k i => (hup k i).trans (hids k i), hP1, hD1⟩ hS1 ⟨fun k i h => (hup k i).mpr (hB.1 k i h), hB.2⟩ (ok_upR hT ht h1 h2 (by rw [ev]; exact ok_head hL)) ⟨fun k9 v h => okv_mono (fun k i => (hup k i).mpr) (hL.1 k9 v h), fun v h => okv_mono (fun k i => (hup k i).mpr) ((ok_tail (ok_tail hL)).2 v h)⟩ hl hn
  rw [show (pc + 3).toNat = pc.toNat + 3 by omega] at k3
  exact k3
/-- the constructor of Object -/
theorem j_objI {idx k : Nat} {i : Int} (hml : Cond.methodLink Y.1 idx Lib.objectInit ∈ lw_g) (hin : Cond.instanceMethod Lib.objectInit ∈ lw_g) (hco : Cond.code Lib.objectInit ⟨#[0xb1]⟩ 1 none ∈ lw_g) (hd : decode Y.2.1 pc.toNat = .ok (.invokespecial idx, 3)) (hp : 0 ≤ pc) (hf : 1 ≤ Y.2.2.2.2.frames) (hlo : 20 ≤ Y.2.2.2.2.locals) (hrest : rest.length ≤ 4) (kk : J_ Y T0 P bc bs (pc + 3) ls rest T) : J_ Y T0 P bc bs pc ls (vR k i :: rest) T := by
  intro l p e s m args below meth c D cA ad0 A X ad H locs cells slots lsC hc hs hR hS hB hT hL hl hln
  have w := X.2.2.2.2.2.1
  have sm := en_sum (ad := ad) rest
  have k2 := kk l p e s m args below meth c D cA ad0 A X ad H locs cells slots lsC hc hs hR hS hB hT (ok_tail hL) hl hln
  rw [show (pc + 3).toNat = pc.toNat + 3 by omega] at k2
  exact W.objInit (a := ad k i) (rest := rest.map (en_v ad)) X.1 X.2.1 X.2.2.2.2.2.2.1 (w _ hml) (w _ hin) (w _ hco) rfl (hl.1.trans X.2.2.1.symm) rfl hd hf (by show 2 * 0 + _ + 12 ≤ _; omega) k2
/-- a constructor is called -/
def ci_ (own : String) (idx : Nat) (y : MethodName) (Yc : Zm) (n : Nat) : Prop := GoodIn lw_g (.code y Yc.2.1 Yc.2.2.1 none :: lw_g) ∧ Cond.initialized y.cls ∈ lw_g ∧ Cond.methodLink own idx y ∈ lw_g ∧ Cond.instanceMethod y ∈ lw_g ∧ y.name = "<init>" ∧ Yc.2.2.2.1 = none ∧ (y.cls ≠ "java/lang/invoke/MethodHandle" ∧ y.cls ≠ "java/lang/invoke/VarHandle" ∧ (parseMethodDescriptor y.desc).map (fun d => d.parameters.length) = some n)
theorem j_callI {idx k n : Nat} {i : Int} (as : List Zv) (hC : Ct_ y Yc T (vR k i :: as) Qp) (hcv : ci_ Y.1 idx y Yc n) (hd : decode Y.2.1 pc.toNat = .ok (.invokespecial idx, 3)) (hp : 0 ≤ pc) (hn : as.length = n) (hrm : rf_ Yc Y = true) (hrest : rest.length ≤ 4) (hmc : Yc.2.2.2.2.cells ≤ bc) (hms : Yc.2.2.2.2.slots ≤ bs) {st0 : List Zv} (hst : st0 = as.reverse ++ vR k i :: rest) (kk : ∀ (T' : Zt) (r : Option Zv), Qp T' r → J_ Y T0 P (bc - Yc.2.2.2.2.cells) (bs - Yc.2.2.2.2.slots) (pc + 3) ls (r.toList ++ rest) T') : J_ Y T0 P bc bs pc ls st0 T := by
  subst hst
  intro l p e s m args below meth c D cA ad0 A X ad H locs cells slots lsC hc hs hR hS hB hT hL hl hln
  obtain ⟨hG, hini, hml, hin, hy1, hret, hdd⟩ := hcv
  simp only [rf_, Bool.and_eq_true, decide_eq_true_eq] at hrm
  have hLr : ok_l T ls rest := ⟨hL.1, fun v hv => hL.2 v (by simp [hv])⟩
  have hAA : ∀ q, A_ ad T H.size q → A q := by
    rintro q (⟨k, i, ha, rfl⟩ | h)
    · exact Rp_in hR ha
    · exact X.2.2.2.2.2.2.2.2.2.1 q (Nat.le_trans hS.1 h)
  have w := X.2.2.2.2.2.1
  have hM := hC l D cA ad H.size
  rw [hret] at hM
  refine j_back X hc hs hR hS hB hLr hl hln hp hmc hms (va_runI (As := as.map (en_v ad)) (rest := rest.map (en_v ad)) (b := ad k i) ⟨X.1, X.2.1, X.2.2.1, X.2.2.2.2.2.2.1, X.2.2.2.2.2.1⟩ hM (cwI n w hG rfl rfl rfl (w _ hini) (w _ hml) (w _ hin) hy1 hdd hrm) ⟨pc_blind, fun U hU hW => ⟨rfl, by rw [hU], by rw [hU]; exact Rp_A hR (fun _ _ _ _ => trivial), va_K.moved hW.alike X.2.2.2.2.2.2.2.1, ex_warm hW X.2.2.2.2.2.2.2.2.1, se_call X.2.2.2.2.2.2.2.2.2.2.1 hS hAA hU hW (fun k i hk => hB.2 k i (Or.inl hk)), hT, fun v hv => hL.2 v ?_⟩⟩ rfl (by rw [List.length_map]; exact hn) (hl.1) ?_ (lv_room ?_) hd ⟨by omega, by omega⟩) (fun T' r h => kk T' r h)
  · rcases List.mem_cons.mp hv with rfl | h
    · simp
    · simp [h]
  · show List.map (en_v ad) (as.reverse ++ vR k i :: rest) = _
    rw [List.map_append, List.map_reverse, List.map_cons]
    rfl
  · have := en_sum (ad := ad) rest
    omega
/-- a row is given back -/
theorem j_aret {k : Nat} {i : Int} {rt : FieldType} (hr : Y.2.2.2.1 = some rt) (hrt : (∃ n, rt = .object n) ∨ ∃ t, rt = .array t) (hd : decode Y.2.1 pc.toNat = .ok (.areturn, 1)) (k2 : P T (some (vR k i))) : J_ Y T0 P bc bs pc ls [vR k i] T := by
  intro l p e' s m args below meth c D cA ad0 A X ad H locs cells slots lsC hc hs hR hS hB hT hL hl hn
  refine W.widen (k := Y.2.2.2.2.cells) (n := Y.2.2.2.2.slots) (by omega) (by omega) ?_
  exact W.aret X.1 X.2.1 (X.2.2.2.1.trans hr) hrt (Or.inr ⟨ad k i, rfl⟩) (fun t ht _ => ⟨⟨T, ad, some (vR k i), rfl, k2, hT, fun v hv => by cases hv; exact ok_head hL, by rw [ht]; exact hR, hB⟩, hS.F ht⟩) hS.2.2 hd X.2.2.2.2.1
end JO

