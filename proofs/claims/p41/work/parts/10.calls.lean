-- contracts, the start of a method, calls
def A_ (ad : Nat → Int → Nat) (T0 : Zt) (sz : Nat) : Nat → Prop := fun q => (∃ k i, al_ T0 k i ∧ q = ad k i) ∨ sz ≤ q
def Pc_ (D : va_G) (cA : Nat → ClassId) (ad : Nat → Int → Nat) (T0 : Zt) (avs : List Zv) (sz : Nat) : Array Value → State → Prop := fun v U => v = (avs.map (en_v ad)).toArray ∧ U.heap.size = sz ∧ Rp_ D cA ad T0 (fun _ => True) U.heap ∧ va_K D vwCl (ty_ cA) U ∧ ex_E U ∧ se_ ad (A_ ad T0 sz) U ∧ ok_T T0 ∧ ∀ v ∈ avs, ok_v T0 v
/-- called with avs in the picture T0, the method ends, and P holds of what it leaves -/
def Ct_ (y : MethodName) (Y : Zm) (T0 : Zt) (avs : List Zv) (P : Zt → Option Zv → Prop) : Prop := ∀ (l : Launch) (D : va_G) (cA : Nat → ClassId) (ad : Nat → Int → Nat) (sz : Nat), Met l y (.code y Y.2.1 Y.2.2.1 Y.2.2.2.1 :: lw_g) Y.2.2.2.2 (Pc_ D cA ad T0 avs sz) (Qc_ D cA ad T0 (A_ ad T0 sz) P) Y.2.2.2.2.cells Y.2.2.2.2.slots (A_ ad T0 sz)
theorem Rp_A {D : va_G} {cA : Nat → ClassId} {ad : Nat → Int → Nat} {T : Zt} {A B : Nat → Prop} {H : Heap} (h : Rp_ D cA ad T A H) (hAB : ∀ k i, al_ T k i → A (ad k i) → B (ad k i)) : Rp_ D cA ad T B H := by
  obtain ⟨ids, h1, h2, h3⟩ := h
  refine ⟨ids, h1, h2, h3.weaken (fun n q hq ha => ?_)⟩
  unfold wd_ at hq
  rw [List.getElem?_map] at hq
  cases hn : ids[n]? with
  | none => rw [hn] at hq; cases hq
  | some z =>
    rw [hn] at hq
    cases hq
    exact hAB z.1 z.2 ((h1 z.1 z.2).mpr (List.mem_of_getElem? hn)) ha
theorem Rp_in {D : va_G} {cA : Nat → ClassId} {ad : Nat → Int → Nat} {T : Zt} {A : Nat → Prop} {H : Heap} (h : Rp_ D cA ad T A H) {k : Nat} {i : Int} (ha : al_ T k i) : A (ad k i) := by
  obtain ⟨ids, q0, hq, h1, hP, hD⟩ := rp_at h ha
  exact hD.2 q0 _ (wd_get hq)
theorem lp_congr {ad ad' : Nat → Int → Nat} : ∀ {ls : Zl} {n : Nat}, (∀ (k : Nat) (v : Zv), ls[k]? = some (some v) → en_v ad' v = en_v ad v) → lp_ ad' n ls = lp_ ad n ls
  | [], _, _ => rfl
  | none :: r, n, h => lp_congr (ls := r) (n := n + 1) (fun k v hk => h (k + 1) v (by simpa using hk))
  | some w :: r, n, h => by
    unfold lp_
    rw [h 0 w rfl, lp_congr (ls := r) (n := n + 1) (fun k v hk => h (k + 1) v (by simpa using hk))]
theorem en_congr {ad ad' : Nat → Int → Nat} {T : Zt} (h : ∀ k i, k < 100 ∨ al_ T k i → ad' k i = ad k i) {v : Zv} (hv : ok_v T v) : en_v ad' v = en_v ad v := by
  rcases v with x | x | _ | ⟨k, i⟩
  · rfl
  · rfl
  · rfl
  · show Value.ref (ad' k i) = Value.ref (ad k i)
    rw [h k i hv]
theorem se_call {ad0 ad : Nat → Int → Nat} {A B : Nat → Prop} {s U : State} {H : Heap} {locs : List Loc} (h : se_ ad0 A s) (hS : va_S A s.heap H locs) (hF : ∀ q, B q → A q) (hU : U.heap = H) (hW : s.WarmedH U.vm) (he : ∀ (k : Nat) (i : Int), k < 100 → ad k i = ad0 k i) : se_ ad B U := by
  obtain ⟨h0, h1, h2, h3, h4⟩ := h
  have kz : ∀ (C n d : String) (v : Value), va_Z C n d v A s s.heap → va_Z C n d v B U U.heap := fun C n d v z => by
    rw [hU]
    exact (va_Z.moved hW.alike (va_Z.kept z (fun a h1 h2 => hS.2.1 a h1 h2))).narrow hF
  refine ⟨fun i hi => ?_, ?_, fun i hi => ?_, kz _ _ _ _ h3, ?_⟩
  · obtain ⟨hZ, hT⟩ := h0 i hi
    rw [he 81 _ (by omega)]
    refine ⟨kz _ _ _ _ hZ, ?_⟩
    rw [hU]
    exact (va_T.moved hW.alike (va_T.kept hT (fun a h1 h2 => hS.2.1 a h1 h2))).narrow hF
  · have e1 : (fun i : Nat => ad 82 (i : Int)) = fun i : Nat => ad0 82 (i : Int) := funext fun i => he 82 _ (by omega)
    have e2 : (fun i : Nat => ad 83 (i : Int)) = fun i : Nat => ad0 83 (i : Int) := funext fun i => he 83 _ (by omega)
    rw [e1, e2, hU]
    exact (vk_S.moved hW.alike (vk_S.kept h1 (fun a h1 h2 => hS.2.1 a h1 h2))).narrow hF
  · rw [he 82 _ (by omega)]
    exact vk_R.warm hW (h2 i hi)
  · rw [he 84 _ (by omega)]
    exact h4.imp (kz _ _ _ _) (kz _ _ _ _)
theorem pc_blind {D : va_G} {cA : Nat → ClassId} {ad : Nat → Int → Nat} {T0 : Zt} {avs : List Zv} {sz : Nat} : FrameBlind (Pc_ D cA ad T0 avs sz) := fun a U g mk q => by
  obtain ⟨q0, q1, q2, q3, q4, ⟨q5, z1, z2, z3, z4⟩, q6, q7⟩ := q
  refine ⟨q0, q1, q2, va_K.moved (u := U) (U := U.calling g mk a) (Vm.Alike.refl U.vm) q3, ex_same (s := U) (U := U.calling g mk a) rfl q4, ⟨fun i hi => ?_, vk_S.moved (u := U) (U := U.calling g mk a) (Vm.Alike.refl U.vm) z1, fun i hi => vk_R.same (u := U) (U := U.calling g mk a) rfl (z2 i hi), va_Z.moved (u := U) (U := U.calling g mk a) (Vm.Alike.refl U.vm) z3, z4.imp (va_Z.moved (u := U) (U := U.calling g mk a) (Vm.Alike.refl U.vm)) (va_Z.moved (u := U) (U := U.calling g mk a) (Vm.Alike.refl U.vm))⟩, q6, q7⟩
  exact ⟨va_Z.moved (u := U) (U := U.calling g mk a) (Vm.Alike.refl U.vm) (q5 i hi).1, va_T.moved (u := U) (U := U.calling g mk a) (Vm.Alike.refl U.vm) (q5 i hi).2⟩
theorem lp_none {ad : Nat → Int → Nat} : ∀ (k n : Nat), lp_ ad n (List.replicate k none) = []
  | 0, _ => rfl
  | k + 1, n => by
    rw [List.replicate_succ]
    exact lp_none k (n + 1)
theorem lp_args {ad : Nat → Int → Nat} {k : Nat} : ∀ (avs : List Zv) (n : Nat), (∀ v ∈ avs, ¬ ∃ x, v = vL x) → lv_args n (avs.map (en_v ad)) = lp_ ad n (avs.map some ++ List.replicate k none)
  | [], n, _ => by simp [lv_args, lp_none]
  | v :: r, n, h => by
    have hv : ¬ (en_v ad v).category = 2 := fun q => h v List.mem_cons_self (en_cat.mp q)
    simp only [List.map_cons, List.cons_append, lv_args, lp_]
    rw [if_neg hv, lp_args r (n + 1) (fun w hw => h w (List.mem_cons_of_mem _ hw))]
theorem sl_len {ad : Nat → Int → Nat} : ∀ (avs : List Zv), (∀ v ∈ avs, ¬ ∃ x, v = vL x) → (lg_sl (avs.map (en_v ad))).length = avs.length
  | [], _ => rfl
  | v :: r, h => by
    have hv : ¬ (en_v ad v).category = 2 := fun q => h v List.mem_cons_self (en_cat.mp q)
    have ih := sl_len (ad := ad) r (fun w hw => h w (List.mem_cons_of_mem _ hw))
    unfold lg_sl at ih ⊢
    simp only [List.map_cons, List.flatMap_cons, if_neg hv, List.length_append, List.length_cons, List.length_nil]
    omega
/-- a contract out of a walk from the start -/
def nl_ : List Zv → Bool
  | [] => true
  | .inr (.inl _) :: _ => false
  | _ :: r => nl_ r
theorem nl_no : ∀ {avs : List Zv}, nl_ avs = true → ∀ v ∈ avs, ¬ ∃ x, v = vL x
  | [], _, v, hv => by cases hv
  | .inl z :: r, h, v, hv => by
    rcases List.mem_cons.mp hv with rfl | h2
    · rintro ⟨x, hx⟩; cases hx
    · exact nl_no (avs := r) h v h2
  | .inr (.inr z) :: r, h, v, hv => by
    rcases List.mem_cons.mp hv with rfl | h2
    · rintro ⟨x, hx⟩; cases hx
    · exact nl_no (avs := r) h v h2
  | .inr (.inl z) :: r, h, v, hv => by cases h
theorem ct_of {y : MethodName} {Y : Zm} {T0 : Zt} {avs : List Zv} {P : Zt → Option Zv → Prop} (hy : plainName y.cls = true) (hY : Y.1 = y.cls) (hnl : nl_ avs = true) (hlen : avs.length ≤ Y.2.2.1) (hJ : ok_T T0 → (∀ v ∈ avs, ok_v T0 v) → J_ Y T0 P Y.2.2.2.2.cells Y.2.2.2.2.slots 0 (avs.map some ++ List.replicate (Y.2.2.1 - avs.length) none) [] T0) (hi : im_ Y.2.2.2.2.slots = true → y.name = "<init>" := by decide) : Ct_ y Y T0 avs P := by
  intro l D cA ad sz
  have hlong := nl_no hnl
  refine Met.ofW (cc := Y.2.1) (maxL := Y.2.2.1) (ret := Y.2.2.2.1) hy rfl ?_
  intro p e s m args below meth c s₁ B hml hv
  obtain ⟨rfl, hsz, hR, hK, hE, hSe, hT, hav⟩ := hv
  have hts := atoms_spec (ws := .code y Y.2.1 Y.2.2.1 Y.2.2.2.1 :: lw_g) B.pre
  have hl := lv_entry (avs.map (en_v ad)) (n := Y.2.2.1) (by rw [sl_len avs hlong]; exact hlen)
  rw [lg_entry_eq]
  rw [lp_args (k := Y.2.2.1 - avs.length) avs 0 hlong] at hl
  subst hsz
  refine hJ hT hav l p e s m _ below meth c D cA ad (A_ ad T0 s.heap.size) ⟨B.exec, B.bytes, hml, B.returns, B.notSynchronized, fun w h => hts w (List.mem_cons_of_mem _ h), by rw [hY]; exact findClass_of_methodNamed B.named, hK, hE, fun q h => Or.inr h, hSe, fun h => (name_of_methodNamed B.named B.method).1.trans (hi h)⟩ ad s.heap [] 0 0 _ (by show 0 + Y.2.2.2.2.cells ≤ Y.2.2.2.2.cells; omega) (by show 0 + Y.2.2.2.2.slots ≤ Y.2.2.2.2.slots; omega) (Rp_A hR (fun k i ha _ => Or.inl ⟨k, i, ha, rfl⟩)) va_S.rf ⟨fun _ _ h => h, fun _ _ _ => rfl⟩ hT ⟨fun k v hk => ?_, fun v hv => by cases hv⟩ hl (by simp; omega)
  by_cases hk2 : k < avs.length
  · rw [List.getElem?_append_left (by rw [List.length_map]; exact hk2), List.getElem?_map] at hk
    cases hz : avs[k]? with
    | none => rw [hz] at hk; cases hk
    | some z =>
      rw [hz] at hk
      cases hk
      exact hav _ (List.mem_of_getElem? hz)
  · rw [List.getElem?_append_right (by rw [List.length_map]; omega), List.getElem?_replicate] at hk
    split at hk <;> cases hk
section JK
variable {Y Yc : Zm} {T0 T : Zt} {P : Zt → Option Zv → Prop} {bc bs : Nat} {pc : Int} {ls : Zl} {rest : List Zv} {y : MethodName} {Qp : Zt → Option Zv → Prop}
theorem en_sum {ad : Nat → Int → Nat} : ∀ (st : List Zv), ((st.map (en_v ad)).map fun v => v.category).sum ≤ 2 * st.length
  | [] => by simp
  | v :: r => by
    have h1 := en_sum (ad := ad) r
    have h2 := lv_cat (en_v ad v)
    simp only [List.map_cons, List.sum_cons, List.length_cons]
    omega
/-- behind a call -/
theorem j_back {l : Launch} {p : Program} {e : Env} {s : State} {m : MethodId} {args : Array Value} {below : List Frame} {meth : Method} {c : Code} {D : va_G} {cA : Nat → ClassId} {ad0 : Nat → Int → Nat} {A : Nat → Prop} (X : Cx_ Y p s m args meth c D cA ad0 A) {ad : Nat → Int → Nat} {H : Heap} {locs : List Loc} {cells slots : Nat} {lsC : Array Slot} (hc : cells + bc ≤ Y.2.2.2.2.cells) (hs : slots + bs ≤ Y.2.2.2.2.slots) (hR : Rp_ D cA ad T A H) (hS : va_S A s.heap H locs) (hB : Sb_ ad0 ad T0 T) (hL : ok_l T ls rest) (hl : lv_has lsC Y.2.2.1 (lp_ ad 0 ls)) (hn : ls.length = Y.2.2.1) (hp : 0 ≤ pc) {mc ms : Nat} (hmc : mc ≤ bc) (hms : ms ≤ bs) {st0 : List Value} {a : Array Value} {Q : Zt → Option Zv → Prop}
    (hr : va_Run p l e Y.2.2.2.2 s m args below meth c H locs cells slots mc ms (F0 m pc.toNat lsC st0) (rest.map (en_v ad)) (Qc_ D cA ad T (A_ ad T H.size) Q a) (A_ ad T H.size))
    (kk : ∀ (T' : Zt) (r : Option Zv), Q T' r → J_ Y T0 P (bc - mc) (bs - ms) (pc + 3) ls (r.toList ++ rest) T') :
    W p l e Y.2.2.2.2 s m args below meth c H locs cells slots (MQ below (Qc_ D cA ad0 T0 A P) args s Y.2.2.2.2.cells Y.2.2.2.2.slots A) (F0 m pc.toNat lsC st0) := by
  intro T2 hT2 X2
  obtain ⟨v, st₀, t, T', L, h0, X', hLo, e1, e2, ⟨⟨T1, ad1, r, hv, hq, hok, hrv, hR1, hB1⟩, hz, hk⟩, st⟩ := hr T2 hT2 X2
  rw [h0] at hz hk
  have hAA : ∀ q, A_ ad T H.size q → A q := by
    rintro q (⟨k, i, ha, rfl⟩ | h)
    · exact Rp_in hR ha
    · exact X.2.2.2.2.2.2.2.2.2.1 q (Nat.le_trans hS.1 h)
  have hee : ∀ v, ok_v T v → en_v ad1 v = en_v ad v := fun v hv => en_congr hB1.2 hv
  have el : lp_ ad1 0 ls = lp_ ad 0 ls := lp_congr (fun k v hk => hee v (hL.1 k v hk))
  have er : rest.map (en_v ad1) = rest.map (en_v ad) := List.map_congr_left (fun v hv => hee v (hL.2 v hv))
  have hv2 : v = r.map (en_v ad1) := by
    cases hv
    rfl
  have k2 := kk T1 r hq l p e s m args below meth c D cA ad0 A X ad1 T'.heap (locs ++ L) (cells + mc) (slots + ms) lsC (by omega) (by omega) (by rw [e1]; exact Rp_A hR1 (fun k i _ h => hAA _ h)) ⟨Nat.le_trans hS.1 (by rw [e1]; exact hz), fun q h1 h2 => by rw [e1, hk q (Nat.lt_of_lt_of_le h1 hS.1) (fun z => h2 (hAA q z))]; exact hS.2.1 q h1 h2, fun q hq => by
      rcases List.mem_append.mp hq with h | h
      · exact hS.2.2 q h
      · exact hAA _ (hLo q h)⟩ ⟨fun k i h => hB1.1 k i (hB.1 k i h), fun k i h => by
      rw [hB1.2 k i (h.imp id (hB.1 k i)), hB.2 k i h]⟩ hok ⟨fun k v hk => okv_mono hB1.1 (hL.1 k v hk), fun v hv => by
      rcases List.mem_append.mp hv with h | h
      · cases r with
        | none => cases h
        | some w =>
          have : v = w := by simpa using h
          subst this
          exact hrv v rfl
      · exact okv_mono hB1.1 (hL.2 v h)⟩ (by rw [el]; exact hl) hn
  rw [show (pc + 3).toNat = pc.toNat + 3 by omega] at k2
  obtain ⟨t2, a1, b1⟩ := k2 T' rfl X'
  refine ⟨t2, st t2 ?_, b1⟩
  have ee : ({ F0 m pc.toNat lsC st0 with pc := (F0 m pc.toNat lsC st0).pc + 3, stack := v.toList ++ rest.map (en_v ad) } : JFrame) = F0 m (pc.toNat + 3) lsC ((r.toList ++ rest).map (en_v ad1)) := by
    rw [List.map_append, er, hv2]
    cases r <;> rfl
  rw [ee]
  exact a1
/-- what a call by invokevirtual wants of the tables -/
def cv_ (own : String) (idx : Nat) (y : MethodName) (Yc : Zm) (ci n : Nat) : Prop := GoodIn lw_g (wsV own idx y.cls y (.code y Yc.2.1 Yc.2.2.1 Yc.2.2.2.1 :: lw_g)) ∧ (y.cls ≠ "java/lang/invoke/MethodHandle" ∧ y.cls ≠ "java/lang/invoke/VarHandle" ∧ (parseMethodDescriptor y.desc).map (fun d => d.parameters.length) = some n) ∧ ∃ Tb N, vwCl[ci]? = some (y.cls, Tb, N)
def cs_ (own : String) (idx : Nat) (y : MethodName) (Yc : Zm) (n : Nat) : Prop := GoodIn lw_g (va_wsS own idx y (.code y Yc.2.1 Yc.2.2.1 Yc.2.2.2.1 :: lw_g)) ∧ (y.cls ≠ "java/lang/invoke/MethodHandle" ∧ y.cls ≠ "java/lang/invoke/VarHandle" ∧ (parseMethodDescriptor y.desc).map (fun d => d.parameters.length) = some n)
/-- the callee's room fits the caller's -/
def rf_ (Yc Y : Zm) : Bool := decide (Yc.2.2.2.2.frames + 1 ≤ Y.2.2.2.2.frames) && decide (8 + (Yc.2.2.1 + 11) + Yc.2.2.2.2.locals ≤ Y.2.2.2.2.locals)
theorem j_callV {idx ci n : Nat} {i : Int} (as : List Zv) (hC : Ct_ y Yc T (vR (100 + ci) i :: as) Qp) (hcv : cv_ Y.1 idx y Yc ci n) (hd : decode Y.2.1 pc.toNat = .ok (.invokevirtual idx, 3)) (hp : 0 ≤ pc) (hn : as.length = n) (hrm : rf_ Yc Y = true) (hrest : rest.length ≤ 4) (hmc : Yc.2.2.2.2.cells ≤ bc) (hms : Yc.2.2.2.2.slots ≤ bs) {st0 : List Zv} (hst : st0 = as.reverse ++ vR (100 + ci) i :: rest) (kk : ∀ (T' : Zt) (r : Option Zv), Qp T' r → J_ Y T0 P (bc - Yc.2.2.2.2.cells) (bs - Yc.2.2.2.2.slots) (pc + 3) ls (r.toList ++ rest) T') : J_ Y T0 P bc bs pc ls st0 T := by
  subst hst
  intro l p e s m args below meth c D cA ad0 A X ad H locs cells slots lsC hc hs hR hS hB hT hL hl hln
  obtain ⟨hG, hdd, Tb, N, hcl⟩ := hcv
  simp only [rf_, Bool.and_eq_true, decide_eq_true_eq] at hrm
  have hLr : ok_l T ls rest := ⟨hL.1, fun v hv => hL.2 v (by simp [hv])⟩
  have hal : al_ T (100 + ci) i := ok_al (v := none) (by omega) (hL.2 (vR (100 + ci) i) (by simp))
  obtain ⟨ids, q0, hq, hids, hP, hD⟩ := rp_at hR hal
  have hw := wd_get (cA := cA) (ad := ad) (T := T) hq
  rw [ce_ob (cl_lt hcl)] at hw
  have hAA : ∀ q, A_ ad T H.size q → A q := by
    rintro q (⟨k, i, ha, rfl⟩ | h)
    · exact Rp_in hR ha
    · exact X.2.2.2.2.2.2.2.2.2.1 q (Nat.le_trans hS.1 h)
  refine j_back X hc hs hR hS hB hLr hl hln hp hmc hms (va_runV (As := as.map (en_v ad)) (rest := rest.map (en_v ad)) (b := ad (100 + ci) i) ⟨X.1, X.2.1, X.2.2.1, X.2.2.2.2.2.2.1, X.2.2.2.2.2.1⟩ (hC l D cA ad H.size) (cwV n X.2.2.2.2.2.1 hG rfl rfl rfl ⟨rfl, hdd⟩ hrm) ⟨pc_blind, va_recv X.2.2.2.2.2.2.2.1 hP hcl hw, fun U hU hW => ⟨rfl, by rw [hU], by rw [hU]; exact Rp_A hR (fun _ _ _ _ => trivial), va_K.moved hW.alike X.2.2.2.2.2.2.2.1, ex_warm hW X.2.2.2.2.2.2.2.2.1, se_call X.2.2.2.2.2.2.2.2.2.2.1 hS hAA hU hW (fun k i hk => hB.2 k i (Or.inl hk)), hT, fun v hv => hL.2 v ?_⟩⟩ rfl (by rw [List.length_map]; exact hn) (hl.1) ?_ (lv_room ?_) hd ⟨by omega, by omega⟩) (fun T' r h => kk T' r h)
  · rcases List.mem_cons.mp hv with rfl | h
    · simp
    · simp [h]
  · show List.map (en_v ad) (as.reverse ++ vR (100 + ci) i :: rest) = _
    rw [List.map_append, List.map_reverse, List.map_cons]
    rfl
  · have := en_sum (ad := ad) rest
    omega
theorem j_callS {idx n : Nat} (as : List Zv) (hC : Ct_ y Yc T as Qp) (hcv : cs_ Y.1 idx y Yc n) (hd : decode Y.2.1 pc.toNat = .ok (.invokestatic idx, 3)) (hp : 0 ≤ pc) (hn : as.length = n) (hrm : rf_ Yc Y = true) (hrest : rest.length ≤ 4) (hmc : Yc.2.2.2.2.cells ≤ bc) (hms : Yc.2.2.2.2.slots ≤ bs) {st0 : List Zv} (hst : st0 = as.reverse ++ rest) (kk : ∀ (T' : Zt) (r : Option Zv), Qp T' r → J_ Y T0 P (bc - Yc.2.2.2.2.cells) (bs - Yc.2.2.2.2.slots) (pc + 3) ls (r.toList ++ rest) T') : J_ Y T0 P bc bs pc ls st0 T := by
  subst hst
  intro l p e s m args below meth c D cA ad0 A X ad H locs cells slots lsC hc hs hR hS hB hT hL hl hln
  obtain ⟨hG, hdd⟩ := hcv
  simp only [rf_, Bool.and_eq_true, decide_eq_true_eq] at hrm
  have hLr : ok_l T ls rest := ⟨hL.1, fun v hv => hL.2 v (by simp [hv])⟩
  have hAA : ∀ q, A_ ad T H.size q → A q := by
    rintro q (⟨k, i, ha, rfl⟩ | h)
    · exact Rp_in hR ha
    · exact X.2.2.2.2.2.2.2.2.2.1 q (Nat.le_trans hS.1 h)
  refine j_back X hc hs hR hS hB hLr hl hln hp hmc hms (va_runS (As := as.map (en_v ad)) (rest := rest.map (en_v ad)) ⟨X.1, X.2.1, X.2.2.1, X.2.2.2.2.2.2.1, X.2.2.2.2.2.1⟩ (hC l D cA ad H.size) (va_cwS n X.2.2.2.2.2.1 hG rfl rfl rfl hdd hrm) ⟨pc_blind, fun U hU hW => ⟨rfl, by rw [hU], by rw [hU]; exact Rp_A hR (fun _ _ _ _ => trivial), va_K.moved hW.alike X.2.2.2.2.2.2.2.1, ex_warm hW X.2.2.2.2.2.2.2.2.1, se_call X.2.2.2.2.2.2.2.2.2.2.1 hS hAA hU hW (fun k i hk => hB.2 k i (Or.inl hk)), hT, fun v hv => hL.2 v (by simp [hv])⟩⟩ rfl (by rw [List.length_map]; exact hn) (hl.1) ?_ (lv_room ?_) hd ⟨by omega, by omega⟩) (fun T' r h => kk T' r h)
  · show List.map (en_v ad) (as.reverse ++ rest) = _
    rw [List.map_append, List.map_reverse]
  · have := en_sum (ad := ad) rest
    omega
/-- a block runs, its ends named K -/
theorem j_blk {F : Zf} {pe : Int} {blk : List Instr} (hF : tb_ Y.1 F) (hp : 0 ≤ pc) (hck : ck_ F Y.2.2.2.1 Y.2.1 pc blk pe = true) (hz : Y.2.2.2.1 = some .boolean → ∀ T x, P T (some (vI x)) → 0 ≤ x ∧ x ≤ 1) (h : ∀ K : Int → Zl → List Zv → Zt → Prop, (∀ pc ls st T, J_ Y T0 P bc bs pc ls st T → K pc ls st T) → sx_ K P blk pe ls rest T) : J_ Y T0 P bc bs pc ls rest T :=
  sx_run hF hz blk pc ls rest T hp hck (h _ (fun _ _ _ _ h => h))
-- fewer locals are known
theorem j_drop (ls' : Zl) (h : ∀ (k : Nat) (v : Zv), ls'[k]? = some (some v) → ls[k]? = some (some v)) (hlen : ls'.length = ls.length) (k : J_ Y T0 P bc bs pc ls' rest T) : J_ Y T0 P bc bs pc ls rest T := by
  intro l p e s m args below meth c D cA ad0 A X ad H locs cells slots lsC hc hs hR hS hB hT hL hl hln
  refine k l p e s m args below meth c D cA ad0 A X ad H locs cells slots lsC hc hs hR hS hB hT ⟨fun k v hk => hL.1 k v (h k v hk), hL.2⟩ ⟨hl.1, hl.2.1, fun q hq => ?_⟩ (hlen.trans hln)
  obtain ⟨j, v, rfl, hv⟩ := lp_mem hq
  exact hl.2.2 _ (lp_get (h j v hv))
-- the picture's bounds, whenever they are wanted
theorem j_ok (k : ok_T T → ok_l T ls rest → J_ Y T0 P bc bs pc ls rest T) : J_ Y T0 P bc bs pc ls rest T := by
  intro l p e s m args below meth c D cA ad0 A X ad H locs cells slots lsC hc hs hR hS hB hT hL hl hln
  exact k hT hL l p e s m args below meth c D cA ad0 A X ad H locs cells slots lsC hc hs hR hS hB hT hL hl hln
end JK

