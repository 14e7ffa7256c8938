-- contracts, the start of a method, calls
def A_ (ad : Nat → Int → Nat) (T0 : Zt) (sz : Nat) : Nat → Prop := fun q => (∃ k i, al_ T0 k i ∧ q = ad k i) ∨ sz ≤ q
def Pc_ (D : va_G) (cA : Nat → ClassId) (ad : Nat → Int → Nat) (T0 : Zt) (avs : List Zv) (sz : Nat) : Array Value → State → Prop := fun v U => v = (avs.map (en_v ad)).toArray ∧ U.heap.size = sz ∧ Rp_ D cA ad T0 (fun _ => True) U.heap ∧ va_K D vwCl (ty_ cA) U ∧ ex_E U ∧ se_ ad (A_ ad T0 sz) U ∧ ok_T T0 ∧ ∀ v ∈ avs, ok_v T0 v
/-- called with avs in the picture T0, the method ends, and P holds of what it leaves -/
def Ct_ (y : MethodName) (Y : Zm) (T0 : Zt) (avs : List Zv) (P : Zt → Option Zv → Prop) : Prop := ∀ (l : Launch) (D : va_G) (cA : Nat → ClassId) (ad : Nat → Int → Nat) (sz : Nat), Met l y (.code y Y.2.1 Y.2.2.1 Y.2.2.2.1 :: lw_g) Y.2.2.2.2 (Pc_ D cA ad T0 avs sz) (Qc_ D cA ad T0 (A_ ad T0 sz) P) Y.2.2.2.2.cells Y.2.2.2.2.slots (A_ ad T0 sz)
theorem Rp_A {D : va_G} {cA : Nat → ClassId} {ad : Nat → Int → Nat} {T : Zt} {A B : Nat → Prop} {H : Heap} (h : Rp_ D cA ad T A H) (hAB : ∀ k i, al_ T k i → A (ad k i) → B (ad k i)) : Rp_ D cA ad T B H := by
  obtain ⟨ids, h1, h2, h3⟩ := h
  refine ⟨ids, h1, h2, h3.weaken (fun n q hq ha => ?_)⟩
  unfold wd_ at hq
  rw [List.getElem?_map] at hq
  cases hn : ids[n]? with
  | none => rw [hn] at hq; cases hq
  | some z =>
    rw [hn] at hq
    cases hq
    exact hAB z.1 z.2 ((h1 z.1 z.2).mpr (List.mem_of_getElem? hn)) ha
theorem Rp_in {D : va_G} {cA : Nat → ClassId} {ad : Nat → Int → Nat} {T : Zt} {A : Nat → Prop} {H : Heap} (h : Rp_ D cA ad T A H) {k : Nat} {i : Int} (ha : al_ T k i) : A (ad k i) := by
  obtain ⟨ids, q0, hq, h1, hP, hD⟩ := rp_at h ha
  exact hD.2 q0 _ (wd_get hq)
theorem lp_congr {ad ad' : Nat → Int → Nat} : ∀ {ls : Zl} {n : Nat}, (∀ (k : Nat) (v : Zv), ls[k]? = some (some v) → en_v ad' v = en_v ad v) → lp_ ad' n ls = lp_ ad n ls
  | [], _, _ => rfl
  | none :: r, n, h => lp_congr (ls := r) (n := n + 1) (fun k v hk => h (k + 1) v (by simpa using hk))
  | some w :: r, n, h => by
    unfold lp_
    rw [h 0 w rfl, lp_congr (ls := r) (n := n + 1) (fun k v hk => h (k + 1) v (by simpa using hk))]
theorem en_congr {ad ad' : Nat → Int → Nat} {T : Zt} (h : ∀ k i, k < 100 ∨ al_ T k i → ad' k i = ad k i) {v : Zv} (hv : ok_v T v) : en_v ad' v = en_v ad v := by
  rcases v with x | x | _ | ⟨k, i⟩
  · rfl
  · rfl
  · rfl
  · show Value.ref (ad' k i) = Value.ref (ad k i)
    rw [h k i hv]
theorem se_call {ad0 ad : Nat → Int → Nat} {A B : Nat → Prop} {s U : State} {H : Heap} {locs : List Loc} (h : se_ ad0 A s) (hS : va_S A s.heap H locs) (hF : ∀ q, B q → A q) (hU : U.heap = H) (hW : s.WarmedH U.vm) (he : ∀ (k : Nat) (i : Int), k < 100 → ad k i = ad0 k i) : se_ ad B U := by
  obtain ⟨h0, h1, h2, h3, h4⟩ := h
  have kz : ∀ (C n d : String) (v : Value), va_Z C n d v A s s.heap → va_Z C n d v B U U.heap := fun C n d v z => by
    rw [hU]
    exact (va_Z.moved hW.alike (va_Z.kept z (fun a h1 h2 => hS.2.1 a h1 h2))).narrow hF
  refine ⟨fun i hi => ?_, ?_, fun i hi => ?_, kz _ _ _ _ h3, ?_⟩
  · obtain ⟨hZ, hT⟩ := h0 i hi
    rw [he 81 _ (by omega)]
    refine ⟨kz _ _ _ _ hZ, ?_⟩
    rw [hU]
    exact (va_T.moved hW.alike (va_T.kept hT (fun a h1 h2 => hS.2.1 a h1 h2))).narrow hF
  · have e1 : (fun i : Nat => ad 82 (i : Int)) = fun i : Nat => ad0 82 (i : Int) := funext fun i => he 82 _ (by omega)
    have e2 : (fun i : Nat => ad 83 (i : Int)) = fun i : Nat => ad0 83 (i : Int) := funext fun i => he 83 _ (by omega)
    rw [e1, e2, hU]
    exact (vk_S.moved hW.alike (vk_S.kept h1 (fun a h1 h2 => hS.2.1 a h1 h2))).narrow hF
  · rw [he 82 _ (by omega)]
    exact vk_R.warm hW (h2 i hi)
  · rw [he 84 _ (by omega)]
    exact h4.imp (kz _ _ _ _) (kz _ _ _ _)
theorem pc_blind {D : va_G} {cA : Nat → ClassId} {ad : Nat → Int → Nat} {T0 : Zt} {avs : List Zv} {sz : Nat} : FrameBlind (Pc_ D cA ad T0 avs sz) := fun a U g mk q => by
  obtain ⟨q0, q1, q2, q3, q4, ⟨q5, z1, z2, z3, z4⟩, q6, q7⟩ := q
  refine ⟨q0, q1, q2, va_K.moved (u := U) (U := U.calling g mk a) (Vm.Alike.refl U.vm) q3, ex_same (s := U) (U := U.calling g mk a) rfl q4, ⟨fun i hi => ?_, vk_S.moved (u := U) (U := U.calling g mk a) (Vm.Alike.refl U.vm) z1, fun i hi => vk_R.same (u := U) (U := U.calling g mk a) rfl (z2 i hi), va_Z.moved (u := U) (U := U.calling g mk a) (Vm.Alike.refl U.vm) z3, z4.imp (va_Z.moved (u := U) (U := U.calling g mk a) (Vm.Alike.refl U.vm)) (va_Z.moved (u := U) (U := U.calling g mk a) (Vm.Alike.refl U.vm))⟩, q6, q7⟩
  exact ⟨va_Z.moved (u := U) (U := U.calling g mk a) (Vm.Alike.refl U.vm) (q5 i hi).1, va_T.moved (u := U) (U := U.calling g mk a) (Vm.Alike.refl U.vm) (q5 i hi).2⟩
theorem lp_none {ad : Nat → Int → Nat} : ∀ (k n : Nat), lp_ ad n (List.replicate k none) = []
  | 0, _ => rfl
  | k + 1, n => by
    rw [List.replicate_succ]
    exact lp_none k (n + 1)
theorem lp_args {ad : Nat → Int → Nat} {k : Nat} : ∀ (avs : List Zv) (n : Nat), (∀ v ∈ avs, ¬ ∃ x, v = vL x) → lv_args n (avs.map (en_v ad)) = lp_ ad n (avs.map some ++ List.replicate k none)
  | [], n, _ => by simp [lv_args, lp_none]
  | v :: r, n, h => by
    have hv : ¬ (en_v ad v).category = 2 := fun q => h v List.mem_cons_self (en_cat.mp q)
    simp only [List.map_cons, List.cons_append, lv_args, lp_]
    rw [if_neg hv, lp_args r (n + 1) (fun w hw => h w (List.mem_cons_of_mem _ hw))]
theorem sl_len {ad : Nat → Int → Nat} : ∀ (avs : List Zv), (∀ v ∈ avs, ¬ ∃ x, v = vL x) → (lg_sl (avs.map (en_v ad))).length = avs.length
  | [], _ => rfl
  | v :: r, h => by
    have hv : ¬ (en_v ad v).category = 2 := fun q => h v List.mem_cons_self (en_cat.mp q)
    have ih := sl_len (ad := ad) r (fun w hw => h w (List.mem_cons_of_mem _ hw))
    unfold lg_sl at ih ⊢
    simp only [List.map_cons, List.flatMap_cons, if_neg hv, List.length_append, List.length_cons, List.length_nil]
    omega
/-- a contract out of a walk from the start -/
def nl_ : List Zv → Bool
  | [] => true
  | .inr (.inl _) :: _ => false
  | _ :: r => nl_ r
theorem nl_no : ∀ {avs : List Zv}, nl_ avs = true → ∀ v ∈ avs, ¬ ∃ x, v = vL x
  | [], _, v, hv => by cases hv
  | .inl z :: r, h, v, hv => by
    rcases List.mem_cons.mp hv with rfl | h2
    · rintro ⟨x, hx⟩; cases hx
    · exact nl_no (avs := r) h v h2
  | .inr (.inr z) :: r, h, v, hv => by
    rcases List.mem_cons.mp hv with rfl | h2
    · rintro ⟨x, hx⟩; cases hx
    · exact nl_no (avs := r) h v h2
  | .inr (.inl z) :: r, h, v, hv => by cases h
theorem ct_of {y : MethodName} {Y : Zm} {T0 : Zt} {avs : List Zv} {P : Zt → Option Zv → Prop} (hy : plainName y.cls = true) (hY : Y.1 = y.cls) (hnl : nl_ avs = true) (hlen : avs.length ≤ Y.2.2.1) (hJ : ok_T T0 → (∀ v ∈ avs, ok_v T0 v) → J_ Y T0 P Y.2.2.2.2.cells Y.2.2.2.2.slots 0 (avs.map some ++ List.replicate (Y.2.2.1 - avs.length) none) [] T0) (hi : im_ Y.2.2.2.2.slots = true → y.name = "<init>" := by decide) : Ct_ y Y T0 avs P := by
  intro l D cA ad sz
  have hlong := nl_no hnl
  refine Met.ofW (cc := Y.2.1) (maxL := Y.2.2.1) (ret := Y.2.2.2.1) hy rfl ?_
  intro p e s m args below meth c s₁ B hml hv
  obtain ⟨rfl, hsz, hR, hK, hE, hSe, hT, hav⟩ := hv
  have hts := atoms_spec (ws := .code y Y.2.1 Y.2.2.1 Y.2.2.2.1 :: lw_g) B.pre
  have hl := lv_entry (avs.map (en_v ad)) (n := Y.2.2.1) (by rw [sl_len avs hlong]; exact hlen)
  rw [lg_entry_eq]
  rw [lp_args (k := Y.2.2.1 - avs.length) avs 0 hlong] at hl
  subst hsz
  refine hJ hT hav l p e s m _ below meth c D cA ad (A_ ad T0 s.heap.size) ⟨B.exec, B.bytes, hml, B.returns, B.notSynchronized, fun w h => hts w (List.mem_cons_of_mem _ h), by rw [hY]; exact findClass_of_methodNamed B.named, hK, hE, fun q h => Or.inr h, hSe, fun h => (name_of_methodNamed B.named B.method).1.trans (hi h)⟩ ad s.heap [] 0 0 _ (by show 0 + Y.2.2.2.2.cells ≤ Y.2.2.2.2.cells; omega) (by show 0 + Y.2.2.2.2.slots ≤ Y.2.2.2.2.slots; omega) (Rp_A hR (fun k i ha _ => Or.inl ⟨k, i, ha, rfl⟩)) va_S.rf ⟨fun _ _ h => h, fun _ _ _ => rfl⟩ hT ⟨fun k v hk => ?_, fun v hv => by cases hv⟩ hl (by simp; omega)
  by_cases hk2 : k < avs.length
  · rw [List.getElem?_append_left (by rw [List.length_map]; exact hk2), List.getElem?_map] at hk
    cases hz : avs[k]? with
    | none => rw [hz] at hk; cases hk
    | some z =>
      rw [hz] at hk
      cases hk
      exact hav _ (List.mem_of_getElem? hz)
  · rw [List.getElem?_append_right (by rw [List.length_map]; omega), List.getElem?_replicate] at hk
    split at hk <;> cases hk
