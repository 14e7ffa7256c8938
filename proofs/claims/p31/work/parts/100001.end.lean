section JK
variable {Y Yc : Zm} {T0 T : Zt} {P : Zt → Option Zv → Prop} {bc bs : Nat} {pc : Int} {ls : Zl} {rest : List Zv} {y : MethodName} {Qp : Zt → Option Zv → Prop}
theorem en_sum {ad : Nat → Int → Nat} : ∀ (st : List Zv), ((st.map (en_v ad)).map fun v => v.category).sum ≤ 2 * st.length
  | [] => by simp
  | v :: r => by
    have h1 := en_sum (ad := ad) r
    have h2 := lv_cat (en_v ad v)
    simp only [List.map_cons, List.sum_cons, List.length_cons]
    omega
/-- behind a call -/
theorem j_back {l : Launch} {p : Program} {e : Env} {s : State} {m : MethodId} {args : Array Value} {below : List Frame} {meth : Method} {c : Code} {D : va_G} {cA : Nat → ClassId} {ad0 : Nat → Int → Nat} {A : Nat → Prop} (X : Cx_ Y p s m args meth c D cA ad0 A) {ad : Nat → Int → Nat} {H : Heap} {locs : List Loc} {cells slots : Nat} {lsC : Array Slot} (hc : cells + bc ≤ Y.2.2.2.2.cells) (hs : slots + bs ≤ Y.2.2.2.2.slots) (hR : Rp_ D cA ad T A H) (hS : va_S A s.heap H locs) (hB : Sb_ ad0 ad T0 T) (hL : ok_l T ls rest) (hl : lv_has lsC Y.2.2.1 (lp_ ad 0 ls)) (hn : ls.length = Y.2.2.1) (hp : 0 ≤ pc) {mc ms : Nat} (hmc : mc ≤ bc) (hms : ms ≤ bs) {st0 : List Value} {a : Array Value} {Q : Zt → Option Zv → Prop}
    (hr : va_Run p l e Y.2.2.2.2 s m args below meth c H locs cells slots mc ms (F0 m pc.toNat lsC st0) (rest.map (en_v ad)) (Qc_ D cA ad T (A_ ad T H.size) Q a) (A_ ad T H.size))
    (kk : ∀ (T' : Zt) (r : Option Zv), Q T' r → J_ Y T0 P (bc - mc) (bs - ms) (pc + 3) ls (r.toList ++ rest) T') :
    W p l e Y.2.2.2.2 s m args below meth c H locs cells slots (MQ below (Qc_ D cA ad0 T0 A P) args s Y.2.2.2.2.cells Y.2.2.2.2.slots A) (F0 m pc.toNat lsC st0) := by
  intro T2 hT2 X2
  obtain ⟨v, st₀, t, T', L, h0, X', hLo, e1, e2, ⟨⟨T1, ad1, r, hv, hq, hok, hrv, hR1, hB1⟩, hz, hk⟩, st⟩ := hr T2 hT2 X2
  rw [h0] at hz hk
  have hAA : ∀ q, A_ ad T H.size q → A q := by
    rintro q (⟨k, i, ha, rfl⟩ | h)
    · exact Rp_in hR ha
    · exact X.2.2.2.2.2.2.2.2.2.1 q (Nat.le_trans hS.1 h)
  have hee : ∀ v, ok_v T v → en_v ad1 v = en_v ad v := fun v hv => en_congr hB1.2 hv
  have el : lp_ ad1 0 ls = lp_ ad 0 ls := lp_congr (fun k v hk => hee v (hL.1 k v hk))
  have er : rest.map (en_v ad1) = rest.map (en_v ad) := List.map_congr_left (fun v hv => hee v (hL.2 v hv))
  have hv2 : v = r.map (en_v ad1) := by
    cases hv
    rfl
  have k2 := kk T1 r hq l p e s m args below meth c D cA ad0 A X ad1 T'.heap (locs ++ L) (cells + mc) (slots + ms) lsC (by omega) (by omega) (by rw [e1]; exact Rp_A hR1 (fun k i _ h => hAA _ h)) ⟨Nat.le_trans hS.1 (by rw [e1]; exact hz), fun q h1 h2 => by rw [e1, hk q (Nat.lt_of_lt_of_le h1 hS.1) (fun z => h2 (hAA q z))]; exact hS.2.1 q h1 h2, fun q hq => by
      rcases List.mem_append.mp hq with h | h
      · exact hS.2.2 q h
      · exact hAA _ (hLo q h)⟩ ⟨fun k i h => hB1.1 k i (hB.1 k i h), fun k i h => by
      rw [hB1.2 k i (h.imp id (hB.1 k i)), hB.2 k i h]⟩ hok ⟨fun k v hk => okv_mono hB1.1 (hL.1 k v hk), fun v hv => by
      rcases List.mem_append.mp hv with h | h
      · cases r with
        | none => cases h
        | some w =>
          have : v = w := by simpa using h
          subst this
          exact hrv v rfl
      · exact okv_mono hB1.1 (hL.2 v h)⟩ (by rw [el]; exact hl) hn
  rw [show (pc + 3).toNat = pc.toNat + 3 by omega] at k2
  obtain ⟨t2, a1, b1⟩ := k2 T' rfl X'
  refine ⟨t2, st t2 ?_, b1⟩
  have ee : ({ F0 m pc.toNat lsC st0 with pc := (F0 m pc.toNat lsC st0).pc + 3, stack := v.toList ++ rest.map (en_v ad) } : JFrame) = F0 m (pc.toNat + 3) lsC ((r.toList ++ rest).map (en_v ad1)) := by
    rw [List.map_append, er, hv2]
    cases r <;> rfl
  rw [ee]
  exact a1
/-- what a call by invokevirtual wants of the tables -/
def cv_ (own : String) (idx : Nat) (y : MethodName) (Yc : Zm) (ci n : Nat) : Prop := GoodIn lw_g (wsV own idx y.cls y (.code y Yc.2.1 Yc.2.2.1 Yc.2.2.2.1 :: lw_g)) ∧ (y.cls ≠ "java/lang/invoke/MethodHandle" ∧ y.cls ≠ "java/lang/invoke/VarHandle" ∧ (parseMethodDescriptor y.desc).map (fun d => d.parameters.length) = some n) ∧ ∃ Tb N, vwCl[ci]? = some (y.cls, Tb, N)
def cs_ (own : String) (idx : Nat) (y : MethodName) (Yc : Zm) (n : Nat) : Prop := GoodIn lw_g (va_wsS own idx y (.code y Yc.2.1 Yc.2.2.1 Yc.2.2.2.1 :: lw_g)) ∧ (y.cls ≠ "java/lang/invoke/MethodHandle" ∧ y.cls ≠ "java/lang/invoke/VarHandle" ∧ (parseMethodDescriptor y.desc).map (fun d => d.parameters.length) = some n)
/-- the callee's room fits the caller's -/
def rf_ (Yc Y : Zm) : Bool := decide (Yc.2.2.2.2.frames + 1 ≤ Y.2.2.2.2.frames) && decide (8 + (Yc.2.2.1 + 11) + Yc.2.2.2.2.locals ≤ Y.2.2.2.2.locals)
theorem j_callV {idx ci n : Nat} {i : Int} (as : List Zv) (hC : Ct_ y Yc T (vR (100 + ci) i :: as) Qp) (hcv : cv_ Y.1 idx y Yc ci n) (hd : decode Y.2.1 pc.toNat = .ok (.invokevirtual idx, 3)) (hp : 0 ≤ pc) (hn : as.length = n) (hrm : rf_ Yc Y = true) (hrest : rest.length ≤ 4) (hmc : Yc.2.2.2.2.cells ≤ bc) (hms : Yc.2.2.2.2.slots ≤ bs) {st0 : List Zv} (hst : st0 = as.reverse ++ vR (100 + ci) i :: rest) (kk : ∀ (T' : Zt) (r : Option Zv), Qp T' r → J_ Y T0 P (bc - Yc.2.2.2.2.cells) (bs - Yc.2.2.2.2.slots) (pc + 3) ls (r.toList ++ rest) T') : J_ Y T0 P bc bs pc ls st0 T := by
  subst hst
  intro l p e s m args below meth c D cA ad0 A X ad H locs cells slots lsC hc hs hR hS hB hT hL hl hln
  obtain ⟨hG, hdd, Tb, N, hcl⟩ := hcv
  simp only [rf_, Bool.and_eq_true, decide_eq_true_eq] at hrm
  have hLr : ok_l T ls rest := ⟨hL.1, fun v hv => hL.2 v (by simp [hv])⟩
  have hal : al_ T (100 + ci) i := ok_al (v := none) (by omega) (hL.2 (vR (100 + ci) i) (by simp))
  obtain ⟨ids, q0, hq, hids, hP, hD⟩ := rp_at hR hal
  have hw := wd_get (cA := cA) (ad := ad) (T := T) hq
  rw [ce_ob (cl_lt hcl)] at hw
  have hAA : ∀ q, A_ ad T H.size q → A q := by
    rintro q (⟨k, i, ha, rfl⟩ | h)
    · exact Rp_in hR ha
    · exact X.2.2.2.2.2.2.2.2.2.1 q (Nat.le_trans hS.1 h)
  refine j_back X hc hs hR hS hB hLr hl hln hp hmc hms (va_runV (As := as.map (en_v ad)) (rest := rest.map (en_v ad)) (b := ad (100 + ci) i) ⟨X.1, X.2.1, X.2.2.1, X.2.2.2.2.2.2.1, X.2.2.2.2.2.1⟩ (hC l D cA ad H.size) (cwV n X.2.2.2.2.2.1 hG rfl rfl rfl ⟨rfl, hdd⟩ hrm) ⟨pc_blind, va_recv X.2.2.2.2.2.2.2.1 hP hcl hw, fun U hU hW => ⟨rfl, by rw [hU], by rw [hU]; exact Rp_A hR (fun _ _ _ _ => trivial), va_K.moved hW.alike X.2.2.2.2.2.2.2.1, ex_warm hW X.2.2.2.2.2.2.2.2.1, se_call X.2.2.2.2.2.2.2.2.2.2.1 hS hAA hU hW (fun k i hk => hB.2 k i (Or.inl hk)), hT, fun v hv => hL.2 v ?_⟩⟩ rfl (by rw [List.length_map]; exact hn) (hl.1) ?_ (lv_room ?_) hd ⟨by omega, by omega⟩) (fun T' r h => kk T' r h)
  · rcases List.mem_cons.mp hv with rfl | h
    · simp
    · simp [h]
  · show List.map (en_v ad) (as.reverse ++ vR (100 + ci) i :: rest) = _
    rw [List.map_append, List.map_reverse, List.map_cons]
    rfl
  · have := en_sum (ad := ad) rest
    omega
theorem j_callS {idx n : Nat} (as : List Zv) (hC : Ct_ y Yc T as Qp) (hcv : cs_ Y.1 idx y Yc n) (hd : decode Y.2.1 pc.toNat = .ok (.invokestatic idx, 3)) (hp : 0 ≤ pc) (hn : as.length = n) (hrm : rf_ Yc Y = true) (hrest : rest.length ≤ 4) (hmc : Yc.2.2.2.2.cells ≤ bc) (hms : Yc.2.2.2.2.slots ≤ bs) {st0 : List Zv} (hst : st0 = as.reverse ++ rest) (kk : ∀ (T' : Zt) (r : Option Zv), Qp T' r → J_ Y T0 P (bc - Yc.2.2.2.2.cells) (bs - Yc.2.2.2.2.slots) (pc + 3) ls (r.toList ++ rest) T') : J_ Y T0 P bc bs pc ls st0 T := by
  subst hst
  intro l p e s m args below meth c D cA ad0 A X ad H locs cells slots lsC hc hs hR hS hB hT hL hl hln
  obtain ⟨hG, hdd⟩ := hcv
  simp only [rf_, Bool.and_eq_true, decide_eq_true_eq] at hrm
  have hLr : ok_l T ls rest := ⟨hL.1, fun v hv => hL.2 v (by simp [hv])⟩
  have hAA : ∀ q, A_ ad T H.size q → A q := by
    rintro q (⟨k, i, ha, rfl⟩ | h)
    · exact Rp_in hR ha
    · exact X.2.2.2.2.2.2.2.2.2.1 q (Nat.le_trans hS.1 h)
  refine j_back X hc hs hR hS hB hLr hl hln hp hmc hms (va_runS (As := as.map (en_v ad)) (rest := rest.map (en_v ad)) ⟨X.1, X.2.1, X.2.2.1, X.2.2.2.2.2.2.1, X.2.2.2.2.2.1⟩ (hC l D cA ad H.size) (va_cwS n X.2.2.2.2.2.1 hG rfl rfl rfl hdd hrm) ⟨pc_blind, fun U hU hW => ⟨rfl, by rw [hU], by rw [hU]; exact Rp_A hR (fun _ _ _ _ => trivial), va_K.moved hW.alike X.2.2.2.2.2.2.2.1, ex_warm hW X.2.2.2.2.2.2.2.2.1, se_call X.2.2.2.2.2.2.2.2.2.2.1 hS hAA hU hW (fun k i hk => hB.2 k i (Or.inl hk)), hT, fun v hv => hL.2 v (by simp [hv])⟩⟩ rfl (by rw [List.length_map]; exact hn) (hl.1) ?_ (lv_room ?_) hd ⟨by omega, by omega⟩) (fun T' r h => kk T' r h)
  · show List.map (en_v ad) (as.reverse ++ rest) = _
    rw [List.map_append, List.map_reverse]
  · have := en_sum (ad := ad) rest
    omega
/-- a block runs, its ends named K -/
theorem j_blk {F : Zf} {pe : Int} {blk : List Instr} (hF : tb_ Y.1 F) (hp : 0 ≤ pc) (hck : ck_ F Y.2.2.2.1 Y.2.1 pc blk pe = true) (hz : Y.2.2.2.1 = some .boolean → ∀ T x, P T (some (vI x)) → 0 ≤ x ∧ x ≤ 1) (h : ∀ K : Int → Zl → List Zv → Zt → Prop, (∀ pc ls st T, J_ Y T0 P bc bs pc ls st T → K pc ls st T) → sx_ K P blk pe ls rest T) : J_ Y T0 P bc bs pc ls rest T :=
  sx_run hF hz blk pc ls rest T hp hck (h _ (fun _ _ _ _ h => h))
-- fewer locals are known
theorem j_drop (ls' : Zl) (h : ∀ (k : Nat) (v : Zv), ls'[k]? = some (some v) → ls[k]? = some (some v)) (hlen : ls'.length = ls.length) (k : J_ Y T0 P bc bs pc ls' rest T) : J_ Y T0 P bc bs pc ls rest T := by
  intro l p e s m args below meth c D cA ad0 A X ad H locs cells slots lsC hc hs hR hS hB hT hL hl hln
  refine k l p e s m args below meth c D cA ad0 A X ad H locs cells slots lsC hc hs hR hS hB hT ⟨fun k v hk => hL.1 k v (h k v hk), hL.2⟩ ⟨hl.1, hl.2.1, fun q hq => ?_⟩ (hlen.trans hln)
  obtain ⟨j, v, rfl, hv⟩ := lp_mem hq
  exact hl.2.2 _ (lp_get (h j v hv))
-- the picture's bounds, whenever they are wanted
theorem j_ok (k : ok_T T → ok_l T ls rest → J_ Y T0 P bc bs pc ls rest T) : J_ Y T0 P bc bs pc ls rest T := by
  intro l p e s m args below meth c D cA ad0 A X ad H locs cells slots lsC hc hs hR hS hB hT hL hl hln
  exact k hT hL l p e s m args below meth c D cA ad0 A X ad H locs cells slots lsC hc hs hR hS hB hT hL hl hln
end JK
