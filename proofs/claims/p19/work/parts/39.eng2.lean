-- Math.max, min and abs of ints, by the library's contracts
section J2
variable {Y : Zm} {T0 T : Zt} {P : Zt → Option Zv → Prop} {bc bs : Nat} {pc : Int} {ls : Zl} {rest : List Zv}
theorem j_mx {idx : Nat} {a b : Int} (hml : Cond.methodLink Y.1 idx Lib.Math.max.name ∈ lw_g) (hst : Cond.static Lib.Math.max.name ∈ lw_g) (hin : Cond.initialized "java/lang/Math" ∈ lw_g) (hco : Cond.code Lib.Math.max.name Lib.Math.max.code 2 (some .int) ∈ lw_g) (hd : decode Y.2.1 pc.toNat = .ok (.invokestatic idx, 3)) (hp : 0 ≤ pc) (hf : 1 ≤ Y.2.2.2.2.frames) (hlo : 21 ≤ Y.2.2.2.2.locals) (hrest : rest.length ≤ 4)
    (k : J_ Y T0 P bc bs (pc + 3) ls (vI (if a < b then b else a) :: rest) T) : J_ Y T0 P bc bs pc ls (vI b :: vI a :: rest) T := by
  intro l p e s m args below meth c D cA ad0 A X ad H locs cells slots lsC hc hs hR hS hB hT hL hl hln
  have ab : -2147483648 ≤ b ∧ b ≤ 2147483647 := ok_head hL
  have aa : -2147483648 ≤ a ∧ a ≤ 2147483647 := ok_head (ok_tail hL)
  have w := X.2.2.2.2.2.1
  have sm := en_sum (ad := ad) rest
  have kk := k l p e s m args below meth c D cA ad0 A X ad H locs cells slots lsC hc hs hR hS hB hT (ok_push (show ok_v T (vI (if a < b then b else a)) from (by split; exact ab; exact aa)) (ok_tail (ok_tail hL))) hl hln
  refine va_mmax (x := Int32.ofInt a) (y := Int32.ofInt b) X.1 X.2.1 (X.2.2.1.trans hl.1.symm) X.2.2.2.2.2.2.1 (w _ hml) (w _ hst) (w _ hin) (w _ hco) hf (by omega) (by omega) (by omega) hd ?_
  have e1 : (if Int32.ofInt a < Int32.ofInt b then Int32.ofInt b else Int32.ofInt a) = Int32.ofInt (if a < b then b else a) := by
    by_cases z : a < b
    · rw [if_pos z, if_pos ((i3_lt aa ab).mpr z)]
    · rw [if_neg z, if_neg (fun q => z ((i3_lt aa ab).mp q))]
  rw [e1]
  rw [show (pc + 3).toNat = pc.toNat + 3 by omega] at kk
  exact kk
end J2
section J3
variable {Y : Zm} {T0 T : Zt} {P : Zt → Option Zv → Prop} {bc bs : Nat} {pc : Int} {ls : Zl} {rest : List Zv}
theorem j_mn {idx : Nat} {a b : Int} (hml : Cond.methodLink Y.1 idx Lib.Math.min.name ∈ lw_g) (hst : Cond.static Lib.Math.min.name ∈ lw_g) (hin : Cond.initialized "java/lang/Math" ∈ lw_g) (hco : Cond.code Lib.Math.min.name Lib.Math.min.code 2 (some .int) ∈ lw_g) (hd : decode Y.2.1 pc.toNat = .ok (.invokestatic idx, 3)) (hp : 0 ≤ pc) (hf : 1 ≤ Y.2.2.2.2.frames) (hlo : 21 ≤ Y.2.2.2.2.locals) (hrest : rest.length ≤ 4)
    (k : J_ Y T0 P bc bs (pc + 3) ls (vI (if b < a then b else a) :: rest) T) : J_ Y T0 P bc bs pc ls (vI b :: vI a :: rest) T := by
  intro l p e s m args below meth c D cA ad0 A X ad H locs cells slots lsC hc hs hR hS hB hT hL hl hln
  have ab : -2147483648 ≤ b ∧ b ≤ 2147483647 := ok_head hL
  have aa : -2147483648 ≤ a ∧ a ≤ 2147483647 := ok_head (ok_tail hL)
  have w := X.2.2.2.2.2.1
  have sm := en_sum (ad := ad) rest
  have kk := k l p e s m args below meth c D cA ad0 A X ad H locs cells slots lsC hc hs hR hS hB hT (ok_push (show ok_v T (vI (if b < a then b else a)) from (by split; exact ab; exact aa)) (ok_tail (ok_tail hL))) hl hln
  refine va_mmin (x := Int32.ofInt a) (y := Int32.ofInt b) X.1 X.2.1 (X.2.2.1.trans hl.1.symm) X.2.2.2.2.2.2.1 (w _ hml) (w _ hst) (w _ hin) (w _ hco) hf (by omega) (by omega) (by omega) hd ?_
  have e1 : (if Int32.ofInt b < Int32.ofInt a then Int32.ofInt b else Int32.ofInt a) = Int32.ofInt (if b < a then b else a) := by
    by_cases z : b < a
    · rw [if_pos z, if_pos ((i3_lt ab aa).mpr z)]
    · rw [if_neg z, if_neg (fun q => z ((i3_lt ab aa).mp q))]
  rw [e1]
  rw [show (pc + 3).toNat = pc.toNat + 3 by omega] at kk
  exact kk
theorem j_ab {idx : Nat} {a : Int} (ha : -2147483647 ≤ a) (hml : Cond.methodLink Y.1 idx Lib.Math.abs.name ∈ lw_g) (hst : Cond.static Lib.Math.abs.name ∈ lw_g) (hin : Cond.initialized "java/lang/Math" ∈ lw_g) (hco : Cond.code Lib.Math.abs.name Lib.Math.abs.code 1 (some .int) ∈ lw_g) (hd : decode Y.2.1 pc.toNat = .ok (.invokestatic idx, 3)) (hp : 0 ≤ pc) (hf : 1 ≤ Y.2.2.2.2.frames) (hlo : 21 ≤ Y.2.2.2.2.locals) (hrest : rest.length ≤ 4)
    (k : J_ Y T0 P bc bs (pc + 3) ls (vI (if 0 ≤ a then a else -a) :: rest) T) : J_ Y T0 P bc bs pc ls (vI a :: rest) T := by
  intro l p e s m args below meth c D cA ad0 A X ad H locs cells slots lsC hc hs hR hS hB hT hL hl hln
  have aa : -2147483648 ≤ a ∧ a ≤ 2147483647 := ok_head hL
  have w := X.2.2.2.2.2.1
  have sm := en_sum (ad := ad) rest
  have kk := k l p e s m args below meth c D cA ad0 A X ad H locs cells slots lsC hc hs hR hS hB hT (ok_push (show ok_v T (vI (if 0 ≤ a then a else -a)) from (by split; exact aa; exact ⟨by omega, by omega⟩)) (ok_tail hL)) hl hln
  refine va_mabs (x := Int32.ofInt a) X.1 X.2.1 (X.2.2.1.trans hl.1.symm) X.2.2.2.2.2.2.1 (w _ hml) (w _ hst) (w _ hin) (w _ hco) hf (by omega) (by omega) (by omega) hd ?_
  have e1 : (if 0 ≤ Int32.ofInt a then Int32.ofInt a else 0 - Int32.ofInt a) = Int32.ofInt (if 0 ≤ a then a else -a) := by
    have z0 : (0 : Int32) ≤ Int32.ofInt a ↔ 0 ≤ a := by
      rw [Int32.le_iff_toInt_le, i3_t aa.1 aa.2]; exact Iff.rfl
    by_cases z : 0 ≤ a
    · rw [if_pos z, if_pos (z0.mpr z)]
    · rw [if_neg z, if_neg (fun q => z (z0.mp q)), Int32.ofInt_neg]; exact Int32.zero_sub _
  rw [e1]
  rw [show (pc + 3).toNat = pc.toNat + 3 by omega] at kk
  exact kk
end J3
-- a static call of the nest's host: SportsHouse.isSide, out of Play
section J4
variable {Y Yc : Zm} {T0 T : Zt} {P : Zt → Option Zv → Prop} {bc bs : Nat} {pc : Int} {ls : Zl} {rest : List Zv} {Qp : Zt → Option Zv → Prop}
abbrev yN_ : MethodName := ⟨"SportsHouse", "isSide", "(I)Z"⟩
def cn_ (Yc : Zm) (n : Nat) : Prop := GoodIn lw_g (.code yN_ Yc.2.1 Yc.2.2.1 Yc.2.2.2.1 :: lw_g) ∧ Cond.static yN_ ∈ lw_g ∧ Cond.initialized "SportsHouse" ∈ lw_g ∧ (yN_.cls ≠ "java/lang/invoke/MethodHandle" ∧ yN_.cls ≠ "java/lang/invoke/VarHandle" ∧ (parseMethodDescriptor yN_.desc).map (fun d => d.parameters.length) = some n)
theorem j_callN {n : Nat} (as : List Zv) (hY1 : Y.1 = "SportsHouse$Play") (hC : Ct_ yN_ Yc T as Qp) (hcv : cn_ Yc n) (hd : decode Y.2.1 pc.toNat = .ok (.invokestatic 89, 3)) (hp : 0 ≤ pc) (hn : as.length = n) (hrm : rf_ Yc Y = true) (hrest : rest.length ≤ 4) (hmc : Yc.2.2.2.2.cells ≤ bc) (hms : Yc.2.2.2.2.slots ≤ bs) {st0 : List Zv} (hst : st0 = as.reverse ++ rest) (kk : ∀ (T' : Zt) (r : Option Zv), Qp T' r → J_ Y T0 P (bc - Yc.2.2.2.2.cells) (bs - Yc.2.2.2.2.slots) (pc + 3) ls (r.toList ++ rest) T') : J_ Y T0 P bc bs pc ls st0 T := by
  subst hst
  intro l p e s m args below meth c D cA ad0 A X ad H locs cells slots lsC hc hs hR hS hB hT hL hl hln
  obtain ⟨hG, hst, hini, hdd⟩ := hcv
  simp only [rf_, Bool.and_eq_true, decide_eq_true_eq] at hrm
  have hLr : ok_l T ls rest := ⟨hL.1, fun v hv => hL.2 v (by simp [hv])⟩
  have hAA : ∀ q, A_ ad T H.size q → A q := by
    rintro q (⟨k, i, ha, rfl⟩ | h)
    · exact Rp_in hR ha
    · exact X.2.2.2.2.2.2.2.2.2.1 q (Nat.le_trans hS.1 h)
  have w := X.2.2.2.2.2.1
  have hN : va_Nw (.methodLinkNest Y.1 89 yN_ "SportsHouse") s := by
    rw [hY1]
    exact X.2.2.2.2.2.2.2.2.1.2.2.2.2.2
  refine j_back X hc hs hR hS hB hLr hl hln hp hmc hms (va_runSN (host := "SportsHouse") (As := as.map (en_v ad)) (rest := rest.map (en_v ad)) ⟨X.1, X.2.1, X.2.2.1, X.2.2.2.2.2.2.1, X.2.2.2.2.2.1⟩ (hC l D cA ad H.size) ⟨va_cnB n w hG rfl rfl rfl hN (w _ hini) hdd hrm, w _ hst, trivial⟩ ⟨pc_blind, fun U hU hW => ⟨rfl, by rw [hU], by rw [hU]; exact Rp_A hR (fun _ _ _ _ => trivial), va_K.moved hW.alike X.2.2.2.2.2.2.2.1, ex_warm hW X.2.2.2.2.2.2.2.2.1, se_call X.2.2.2.2.2.2.2.2.2.2.1 hS hAA hU hW (fun k i hk => hB.2 k i (Or.inl hk)), hT, fun v hv => hL.2 v (by simp [hv])⟩⟩ rfl (by rw [List.length_map]; exact hn) (hl.1) ?_ (lv_room ?_) hd ⟨by omega, by omega⟩) (fun T' r h => kk T' r h)
  · show List.map (en_v ad) (as.reverse ++ rest) = _
    rw [List.map_append, List.map_reverse]
  · have := en_sum (ad := ad) rest
    omega
end J4
-- a reference put into a field (contest): the picture keeps the index and one
section J5
variable {Y : Zm} {T0 T : Zt} {P : Zt → Option Zv → Prop} {bc bs : Nat} {pc : Int} {ls : Zl} {st : List Zv}
theorem ok_upR {T : Zt} (hT : ok_T T) {k j k1 c0 : Nat} {lo hi : Int} (hf : (tf_ k)[j]? = some (c0, k1, lo, hi)) {i x : Int} (h1 : lo ≤ x) (h2 : x ≤ hi) (hv : ok_v T (fv_ c0 k1 x i)) : ok_T (up_ T k i (j : Int) x) := by
  obtain ⟨a1, a2, a3, a4, a5, a6, a7, a8, a9⟩ := hT
  have hal := al_up (T := T) (k := k) (i := i) (j := (j : Int)) (x := x) (by omega)
  have hk := tf_lt hf
  refine ⟨fun k' t' n' lo' hi' h i' x' hx => ?_, fun k' j' c k'' lo' hi' h i' => ?_, fun i' => ?_, fun k' i' hl j' c k'' lo' hi' h => ?_, fun i' x' hx' h => ?_, fun i' x' hx' h => ?_, fun k' i' h q => ?_, fun k' i' o h q => (a8 k' i' o h ((hal _ _).mp q)).imp (hal _ _).mpr (hal _ _).mpr, fun i' h q => a9 i' (by rw [up_n (fun e => by omega)] at h; exact h) ((hal _ _).mp q)⟩
  · rw [up_n (fun e => by rw [e.1, tf_ta hf] at h; cases h)]
    exact a1 k' t' n' lo' hi' h i' x' hx
  · by_cases e : k' = k ∧ i' = i ∧ (j' : Int) = (j : Int)
    · obtain ⟨rfl, rfl, e3⟩ := e
      have e3 : j' = j := by omega
      subst e3
      rw [hf] at h
      cases h
      rw [up_s]
      exact ⟨h1, h2⟩
    · rw [up_n e]
      exact a2 k' j' c k'' lo' hi' h i'
  · rw [up_n (fun e => by omega)]
    exact a3 i'
  · by_cases e : k' = k ∧ i' = i ∧ (j' : Int) = (j : Int)
    · obtain ⟨rfl, rfl, e3⟩ := e
      have e3 : j' = j := by omega
      subst e3
      rw [hf] at h
      cases h
      rw [up_s]
      exact okv_mono (fun k i => (hal k i).mpr) hv
    · rw [up_n e]
      exact okv_mono (fun k i => (hal k i).mpr) (a4 k' i' ((hal k' i').mp hl) j' c k'' lo' hi' h)
  · rw [up_n (fun e => by omega)] at h
    exact (hal _ _).mpr (a5 i' x' hx' h)
  · rw [up_n (fun e => by omega)] at h
    exact (hal _ _).mpr (a6 i' x' hx' h)
  · exact a7 k' i' h ((hal _ _).mp q)
-- cells
def fr5_ (own : String) (idx ci j : Nat) : Prop := ∃ (C : String) (Tb : u_T) (N : Nat), vwCl[ci]? = some (C, Tb, N) ∧ j < N ∧ N = (tf_ (100 + ci)).length ∧ Cond.fieldLink own idx (Tb j).1 (Tb j).2.1 (Tb j).2.2.1 ∈ lw_g ∧ (Tb j).2.2.2 = false ∧ ∀ a : Nat, ∃ ty, parseFieldDescriptor (Tb j).2.2.1 = some ty ∧ narrow ty (.ref a) = .ref a ∧ fits ty (.ref a) = true
/-- a reference is put into a field that holds an index and one -/
theorem j_putR {ci j k' idx : Nat} {lo hi i x : Int} (hp : 0 ≤ pc) (hf : fr5_ Y.1 idx ci j) (ht : (tf_ (100 + ci))[j]? = some (5, k', lo, hi)) (hd : decode Y.2.1 pc.toNat = .ok (.putfield idx, 3)) (h0 : 0 ≤ x) (h1 : lo ≤ x + 1) (h2 : x + 1 ≤ hi) (k : J_ Y T0 P bc bs (pc + 3) ls st (up_ T (100 + ci) i (j : Int) (x + 1))) : J_ Y T0 P bc bs pc ls (vR k' x :: vR (100 + ci) i :: st) T := by
  intro l p e s m args below meth c0 D cA ad0 A X ad H locs cells slots lsC hc hs hR hS hB hT hL hl hn
  have hal : al_ T (100 + ci) i := ok_al (v := none) (by omega) (ok_head (ok_tail hL))
  have hup := al_up (T := T) (k := 100 + ci) (i := i) (j := (j : Int)) (x := x + 1) (by omega)
  obtain ⟨ids, q0, hq, hids, hP, hD⟩ := rp_at hR hal
  obtain ⟨C, Tb, N, hC, hjN, hN, hlk, hfin, hds⟩ := hf
  obtain ⟨hin, ⟨ty0, hty⟩, hnm⟩ := cl_in hC
  have hw := wd_get (cA := cA) (ad := ad) (T := T) hq
  rw [ce_ob (cl_lt hC)] at hw
  obtain ⟨ty, hty1, hnar, hfit⟩ := hds (ad k' x)
  have ev : fv_ 5 k' (x + 1) i = vR k' x := by
    show (if x + 1 = 0 then vN else vR k' (x + 1 - 1)) = _
    rw [if_neg (by omega), show x + 1 - 1 = x by omega]
  refine va_put (D := D) (ci := ci) (C := C) (T := Tb) (N := N) (own := Y.1) (ref := (Tb j).1) (index := idx) (ty := ty) (v := .ref (ad k' x)) X.1 X.2.1 X.2.2.2.2.2.1 hin ty0 hty hnm X.2.2.2.2.2.2.1 X.2.2.2.2.2.2.2.1 hP hD hS q0 hw hC j hjN (X.2.2.2.2.2.1 _ hlk) (fun _ h => h) hfin hty1 hnar hfit (by rw [List.length_map, List.length_zipIdx, ← hN]; exact hjN) hd (fun H1 locs1 hP1 hD1 hS1 => ?_)
  have e1 : ((tf_ (100 + ci)).zipIdx.map fun q => en_v ad (fv_ q.1.1 q.1.2.1 (T (100 + ci) i (q.2 : Int)) i)).set j (.ref (ad k' x)) = (tf_ (100 + ci)).zipIdx.map fun q => en_v ad (fv_ q.1.1 q.1.2.1 (up_ T (100 + ci) i (j : Int) (x + 1) (100 + ci) i (q.2 : Int)) i) := by
    apply List.ext_getElem?
    intro n
    rw [List.getElem?_set]
    by_cases en : j = n
    · subst en
      rw [if_pos rfl, if_pos (by rw [List.length_map, List.length_zipIdx, ← hN]; exact hjN), fs_at (T := up_ T (100 + ci) i (j : Int) (x + 1)) ht, up_s, ev]
      rfl
    · rw [if_neg en, List.getElem?_map, List.getElem?_map, List.getElem?_zipIdx]
      cases hn9 : (tf_ (100 + ci))[n]? with
      | none => rfl
      | some q =>
        simp only [Option.map_some]
        rw [up_n (fun q => by omega)]
  have e2 : (wd_ cA ad T ids).set q0 (ad (100 + ci) i, .inr (ci, ((tf_ (100 + ci)).zipIdx.map fun q => en_v ad (fv_ q.1.1 q.1.2.1 (T (100 + ci) i (q.2 : Int)) i)).set j (.ref (ad k' x)))) = wd_ cA ad (up_ T (100 + ci) i (j : Int) (x + 1)) ids := by
    rw [e1, ← ce_ob (cl_lt hC) (T := up_ T (100 + ci) i (j : Int) (x + 1)) (cA := cA)]
    exact wd_set hD hq (fun k' i' h => up_o h)
  rw [e2] at hP1 hD1
  have k2 := k l p e s m args below meth c0 D cA ad0 A X ad H1 locs1 cells slots lsC hc hs ⟨ids, fun k i => (hup k i).trans (hids k i), hP1, hD1⟩ hS1 ⟨fun k i h => (hup k i).mpr (hB.1 k i h), hB.2⟩ (ok_upR hT ht h1 h2 (by rw [ev]; exact ok_head hL)) ⟨fun k9 v h => okv_mono (fun k i => (hup k i).mpr) (hL.1 k9 v h), fun v h => okv_mono (fun k i => (hup k i).mpr) ((ok_tail (ok_tail hL)).2 v h)⟩ hl hn
  rw [show (pc + 3).toNat = pc.toNat + 3 by omega] at k2
  exact k2
theorem j_nm {U : Zt} (h : ∀ V, V = U → J_ Y T0 P bc bs pc ls st V) : J_ Y T0 P bc bs pc ls st U := h U rfl
end J5
abbrev cX10_isBelow : ByteArray := prog_1_method_51_code
def yX10_isBelow : MethodName := ⟨RX10, "isBelow", "(II)Z"⟩
def zX10_isBelow : Zm := (RX10, cX10_isBelow, 2, (some .boolean), { frames := 0, cells := 0, slots := 0, locals := 0 })
theorem bk_X10_isBelow_0 : ck_ fX10 (some .boolean) cX10_isBelow 0 [.iload 0, .ifCond .lt 13, .iload 0, .iload 1, .if_icmp .ge 13, .iconst 1, .goto 14] 13 = true := qck_r (nn_ _) (by decide +kernel)
theorem bs_X10_isBelow_0 {P : Zt → Option Zv → Prop} (K : Int → Zl → List Zv → Zt → Prop) : sx_ K P [.iload 0, .ifCond .lt 13, .iload 0, .iload 1, .if_icmp .ge 13, .iconst 1, .goto 14] 13 = x_iload 0 (x_ifCond .lt 13 K (x_iload 0 (x_iload 1 (x_if_icmp .ge 13 K (x_iconst 1 (x_goto 14 K)))))) := ((xe_iload 0).trans (congrArg (x_iload 0) ((xe_ifCond .lt 13).trans (congrArg (x_ifCond .lt 13 K) ((xe_iload 0).trans (congrArg (x_iload 0) ((xe_iload 1).trans (congrArg (x_iload 1) ((xe_if_icmp .ge 13).trans (congrArg (x_if_icmp .ge 13 K) ((xe_iconst 1).trans (congrArg (x_iconst 1) (xe_goto 14)))))))))))))
theorem bk_X10_isBelow_13 : ck_ fX10 (some .boolean) cX10_isBelow 13 [.iconst 0, .ireturn] 15 = true := qck_r (nn_ _) (by decide +kernel)
theorem bs_X10_isBelow_13 {P : Zt → Option Zv → Prop} (K : Int → Zl → List Zv → Zt → Prop) : sx_ K P [.iconst 0, .ireturn] 15 = x_iconst 0 (x_ireturn P) := ((xe_iconst 0).trans (congrArg (x_iconst 0) (xe_ireturn)))
theorem bk_X10_isBelow_14 : ck_ fX10 (some .boolean) cX10_isBelow 14 [.ireturn] 15 = true := qck_r (nn_ _) (by decide +kernel)
theorem bs_X10_isBelow_14 {P : Zt → Option Zv → Prop} (K : Int → Zl → List Zv → Zt → Prop) : sx_ K P [.ireturn] 15 = x_ireturn P := (xe_ireturn)
abbrev po_X10_isBelow (T : Zt) (v n : Int) : Zt → Option Zv → Prop := fun T' r => T = T' ∧ ∃ x : Int, r = some (vI x) ∧ ((x = 1 ∧ 0 ≤ v ∧ v < n) ∨ (x = 0 ∧ ¬ (0 ≤ v ∧ v < n)))
set_option maxHeartbeats 4000000 in
theorem ct_X10_isBelow {T : Zt} {v n : Int} : Ct_ yX10_isBelow zX10_isBelow T [vI v, vI n] (po_X10_isBelow T v n) := by
  refine ct_of pn_10 rfl rfl (Nat.le_of_ble_eq_true rfl) (fun hT hav => ?_)
  have hr_v : -2147483648 ≤ v ∧ v ≤ 2147483647 := hav (vI v) List.mem_cons_self
  have hr_n : -2147483648 ≤ n ∧ n ≤ 2147483647 := hav (vI n) (List.mem_cons_of_mem _ List.mem_cons_self)
  have hz : zX10_isBelow.2.2.2.1 = some .boolean → ∀ (T' : Zt) (x : Int), po_X10_isBelow T v n T' (some (vI x)) → 0 ≤ x ∧ x ≤ 1 := fun _ T' x h => by obtain ⟨-, y, e, hy⟩ := h; cases e; omega
  show J_ zX10_isBelow T (po_X10_isBelow T v n) 0 0 0 [some (vI v), some (vI n)] [] T
  refine j_blx (F := fX10) tb_X10 (nn_ _) bk_X10_isBelow_0 bs_X10_isBelow_0 hz (fun K hK => ?_)
  refine And.intro (fun c1 => ?_) (fun c1 => ?_)
  · refine hK 13 _ [] T ?_
    refine j_blx (F := fX10) tb_X10 (nn_ _) bk_X10_isBelow_13 bs_X10_isBelow_13 hz (fun K hK => ?_)
    refine (show po_X10_isBelow T v n T (some (vI 0)) from ?_)
    exact ⟨rfl, _, rfl, Or.inr ⟨rfl, by omega⟩⟩
  · refine And.intro (fun c2 => ?_) (fun c2 => ?_)
    · refine hK 13 _ [] T ?_
      refine j_blx (F := fX10) tb_X10 (nn_ _) bk_X10_isBelow_13 bs_X10_isBelow_13 hz (fun K hK => ?_)
      refine (show po_X10_isBelow T v n T (some (vI 0)) from ?_)
      exact ⟨rfl, _, rfl, Or.inr ⟨rfl, by omega⟩⟩
    · refine hK 14 _ [vI 1] T ?_
      refine j_blx (F := fX10) tb_X10 (nn_ _) bk_X10_isBelow_14 bs_X10_isBelow_14 hz (fun K hK => ?_)
      refine (show po_X10_isBelow T v n T (some (vI 1)) from ?_)
      exact ⟨rfl, _, rfl, Or.inl ⟨rfl, by omega⟩⟩
abbrev cX10_isDay : ByteArray := prog_1_method_49_code
def yX10_isDay : MethodName := ⟨RX10, "isDay", "(I)Z"⟩
def zX10_isDay : Zm := (RX10, cX10_isDay, 1, (some .boolean), { frames := 0, cells := 0, slots := 0, locals := 0 })
theorem bk_X10_isDay_0 : ck_ fX10 (some .boolean) cX10_isDay 0 [.iload 0, .ifCond .lt 15, .iload 0, .iconst 999, .if_icmp .gt 15, .iconst 1, .goto 16] 15 = true := qck_r (nn_ _) (by decide +kernel)
theorem bs_X10_isDay_0 {P : Zt → Option Zv → Prop} (K : Int → Zl → List Zv → Zt → Prop) : sx_ K P [.iload 0, .ifCond .lt 15, .iload 0, .iconst 999, .if_icmp .gt 15, .iconst 1, .goto 16] 15 = x_iload 0 (x_ifCond .lt 15 K (x_iload 0 (x_iconst 999 (x_if_icmp .gt 15 K (x_iconst 1 (x_goto 16 K)))))) := ((xe_iload 0).trans (congrArg (x_iload 0) ((xe_ifCond .lt 15).trans (congrArg (x_ifCond .lt 15 K) ((xe_iload 0).trans (congrArg (x_iload 0) ((xe_iconst 999).trans (congrArg (x_iconst 999) ((xe_if_icmp .gt 15).trans (congrArg (x_if_icmp .gt 15 K) ((xe_iconst 1).trans (congrArg (x_iconst 1) (xe_goto 16)))))))))))))
theorem bk_X10_isDay_15 : ck_ fX10 (some .boolean) cX10_isDay 15 [.iconst 0, .ireturn] 17 = true := qck_r (nn_ _) (by decide +kernel)
theorem bs_X10_isDay_15 {P : Zt → Option Zv → Prop} (K : Int → Zl → List Zv → Zt → Prop) : sx_ K P [.iconst 0, .ireturn] 17 = x_iconst 0 (x_ireturn P) := ((xe_iconst 0).trans (congrArg (x_iconst 0) (xe_ireturn)))
theorem bk_X10_isDay_16 : ck_ fX10 (some .boolean) cX10_isDay 16 [.ireturn] 17 = true := qck_r (nn_ _) (by decide +kernel)
theorem bs_X10_isDay_16 {P : Zt → Option Zv → Prop} (K : Int → Zl → List Zv → Zt → Prop) : sx_ K P [.ireturn] 17 = x_ireturn P := (xe_ireturn)
abbrev po_X10_isDay (T : Zt) (d : Int) : Zt → Option Zv → Prop := fun T' r => T = T' ∧ ∃ x : Int, r = some (vI x) ∧ ((x = 1 ∧ 0 ≤ d ∧ d ≤ 999) ∨ (x = 0 ∧ ¬ (0 ≤ d ∧ d ≤ 999)))
set_option maxHeartbeats 4000000 in
theorem ct_X10_isDay {T : Zt} {d : Int} : Ct_ yX10_isDay zX10_isDay T [vI d] (po_X10_isDay T d) := by
  refine ct_of pn_10 rfl rfl (Nat.le_of_ble_eq_true rfl) (fun hT hav => ?_)
  have hr_d : -2147483648 ≤ d ∧ d ≤ 2147483647 := hav (vI d) List.mem_cons_self
  have hz : zX10_isDay.2.2.2.1 = some .boolean → ∀ (T' : Zt) (x : Int), po_X10_isDay T d T' (some (vI x)) → 0 ≤ x ∧ x ≤ 1 := fun _ T' x h => by obtain ⟨-, y, e, hy⟩ := h; cases e; omega
  show J_ zX10_isDay T (po_X10_isDay T d) 0 0 0 [some (vI d)] [] T
  refine j_blx (F := fX10) tb_X10 (nn_ _) bk_X10_isDay_0 bs_X10_isDay_0 hz (fun K hK => ?_)
  refine And.intro (fun c1 => ?_) (fun c1 => ?_)
  · refine hK 15 _ [] T ?_
    refine j_blx (F := fX10) tb_X10 (nn_ _) bk_X10_isDay_15 bs_X10_isDay_15 hz (fun K hK => ?_)
    refine (show po_X10_isDay T d T (some (vI 0)) from ?_)
    exact ⟨rfl, _, rfl, Or.inr ⟨rfl, by omega⟩⟩
  · refine And.intro (fun c2 => ?_) (fun c2 => ?_)
    · refine hK 15 _ [] T ?_
      refine j_blx (F := fX10) tb_X10 (nn_ _) bk_X10_isDay_15 bs_X10_isDay_15 hz (fun K hK => ?_)
      refine (show po_X10_isDay T d T (some (vI 0)) from ?_)
      exact ⟨rfl, _, rfl, Or.inr ⟨rfl, by omega⟩⟩
    · refine hK 16 _ [vI 1] T ?_
      refine j_blx (F := fX10) tb_X10 (nn_ _) bk_X10_isDay_16 bs_X10_isDay_16 hz (fun K hK => ?_)
      refine (show po_X10_isDay T d T (some (vI 1)) from ?_)
      exact ⟨rfl, _, rfl, Or.inl ⟨rfl, by omega⟩⟩
abbrev cX10_isSide : ByteArray := prog_1_method_50_code
def yX10_isSide : MethodName := ⟨RX10, "isSide", "(I)Z"⟩
def zX10_isSide : Zm := (RX10, cX10_isSide, 1, (some .boolean), { frames := 0, cells := 0, slots := 0, locals := 0 })
theorem bk_X10_isSide_0 : ck_ fX10 (some .boolean) cX10_isSide 0 [.iload 0, .ifCond .eq 9, .iload 0, .iconst 1, .if_icmp .ne 13, .iconst 1, .goto 14] 13 = true := qck_r (nn_ _) (by decide +kernel)
theorem bs_X10_isSide_0 {P : Zt → Option Zv → Prop} (K : Int → Zl → List Zv → Zt → Prop) : sx_ K P [.iload 0, .ifCond .eq 9, .iload 0, .iconst 1, .if_icmp .ne 13, .iconst 1, .goto 14] 13 = x_iload 0 (x_ifCond .eq 9 K (x_iload 0 (x_iconst 1 (x_if_icmp .ne 13 K (x_iconst 1 (x_goto 14 K)))))) := ((xe_iload 0).trans (congrArg (x_iload 0) ((xe_ifCond .eq 9).trans (congrArg (x_ifCond .eq 9 K) ((xe_iload 0).trans (congrArg (x_iload 0) ((xe_iconst 1).trans (congrArg (x_iconst 1) ((xe_if_icmp .ne 13).trans (congrArg (x_if_icmp .ne 13 K) ((xe_iconst 1).trans (congrArg (x_iconst 1) (xe_goto 14)))))))))))))
theorem bk_X10_isSide_9 : ck_ fX10 (some .boolean) cX10_isSide 9 [.iconst 1, .goto 14] 13 = true := qck_r (nn_ _) (by decide +kernel)
theorem bs_X10_isSide_9 {P : Zt → Option Zv → Prop} (K : Int → Zl → List Zv → Zt → Prop) : sx_ K P [.iconst 1, .goto 14] 13 = x_iconst 1 (x_goto 14 K) := ((xe_iconst 1).trans (congrArg (x_iconst 1) (xe_goto 14)))
theorem bk_X10_isSide_14 : ck_ fX10 (some .boolean) cX10_isSide 14 [.ireturn] 15 = true := qck_r (nn_ _) (by decide +kernel)
theorem bs_X10_isSide_14 {P : Zt → Option Zv → Prop} (K : Int → Zl → List Zv → Zt → Prop) : sx_ K P [.ireturn] 15 = x_ireturn P := (xe_ireturn)
theorem bk_X10_isSide_13 : ck_ fX10 (some .boolean) cX10_isSide 13 [.iconst 0, .ireturn] 15 = true := qck_r (nn_ _) (by decide +kernel)
theorem bs_X10_isSide_13 {P : Zt → Option Zv → Prop} (K : Int → Zl → List Zv → Zt → Prop) : sx_ K P [.iconst 0, .ireturn] 15 = x_iconst 0 (x_ireturn P) := ((xe_iconst 0).trans (congrArg (x_iconst 0) (xe_ireturn)))
abbrev po_X10_isSide (T : Zt) (s : Int) : Zt → Option Zv → Prop := fun T' r => T = T' ∧ ∃ x : Int, r = some (vI x) ∧ ((x = 1 ∧ 0 ≤ s ∧ s ≤ 1) ∨ (x = 0 ∧ ¬ (0 ≤ s ∧ s ≤ 1)))
set_option maxHeartbeats 4000000 in
theorem ct_X10_isSide {T : Zt} {s : Int} : Ct_ yX10_isSide zX10_isSide T [vI s] (po_X10_isSide T s) := by
  refine ct_of pn_10 rfl rfl (Nat.le_of_ble_eq_true rfl) (fun hT hav => ?_)
  have hr_s : -2147483648 ≤ s ∧ s ≤ 2147483647 := hav (vI s) List.mem_cons_self
  have hz : zX10_isSide.2.2.2.1 = some .boolean → ∀ (T' : Zt) (x : Int), po_X10_isSide T s T' (some (vI x)) → 0 ≤ x ∧ x ≤ 1 := fun _ T' x h => by obtain ⟨-, y, e, hy⟩ := h; cases e; omega
  show J_ zX10_isSide T (po_X10_isSide T s) 0 0 0 [some (vI s)] [] T
  refine j_blx (F := fX10) tb_X10 (nn_ _) bk_X10_isSide_0 bs_X10_isSide_0 hz (fun K hK => ?_)
  refine And.intro (fun c1 => ?_) (fun c1 => ?_)
  · refine hK 9 _ [] T ?_
    refine j_blx (F := fX10) tb_X10 (nn_ _) bk_X10_isSide_9 bs_X10_isSide_9 hz (fun K hK => ?_)
    refine hK 14 _ [vI 1] T ?_
    refine j_blx (F := fX10) tb_X10 (nn_ _) bk_X10_isSide_14 bs_X10_isSide_14 hz (fun K hK => ?_)
    refine (show po_X10_isSide T s T (some (vI 1)) from ?_)
    exact ⟨rfl, _, rfl, Or.inl ⟨rfl, by omega⟩⟩
  · refine And.intro (fun c2 => ?_) (fun c2 => ?_)
    · refine hK 13 _ [] T ?_
      refine j_blx (F := fX10) tb_X10 (nn_ _) bk_X10_isSide_13 bs_X10_isSide_13 hz (fun K hK => ?_)
      refine (show po_X10_isSide T s T (some (vI 0)) from ?_)
      exact ⟨rfl, _, rfl, Or.inr ⟨rfl, by omega⟩⟩
    · refine hK 14 _ [vI 1] T ?_
      refine j_blx (F := fX10) tb_X10 (nn_ _) bk_X10_isSide_14 bs_X10_isSide_14 hz (fun K hK => ?_)
      refine (show po_X10_isSide T s T (some (vI 1)) from ?_)
      exact ⟨rfl, _, rfl, Or.inl ⟨rfl, by omega⟩⟩
abbrev cX10_isClub : ByteArray := prog_1_method_46_code
def yX10_isClub : MethodName := ⟨RX10, "isClub", "(I)Z"⟩
def zX10_isClub : Zm := (RX10, cX10_isClub, 2, (some .boolean), { frames := 1, cells := 0, slots := 0, locals := 21 })
theorem bk_X10_isClub_0 : ck_ fX10 (some .boolean) cX10_isClub 0 [.iload 1, .aload 0, .tableswitch 0 10 1 #[], .tableswitch 0 8 2 #[]] 8 = true := qck_r (nn_ _) (by decide +kernel)
theorem bs_X10_isClub_0 {P : Zt → Option Zv → Prop} (K : Int → Zl → List Zv → Zt → Prop) : sx_ K P [.iload 1, .aload 0, .tableswitch 0 10 1 #[], .tableswitch 0 8 2 #[]] 8 = x_iload 1 (x_aload 0 (x_g1 110 108 (x_g0 108 2 0 12 (K 8)))) := ((xe_iload 1).trans (congrArg (x_iload 1) ((xe_aload 0).trans (congrArg (x_aload 0) ((xe_g1 (kk := 110) rfl tl_10_1).trans (congrArg (x_g1 110 108) ((xe_g0 (kk := 108) rfl tl_8_2).trans (congrArg (x_g0 108 2 0 12) xe_nil))))))))
set_option maxRecDepth 100000 in
theorem cl_X10_115 : cs_ RX10 115 yX10_isBelow zX10_isBelow 2 := ⟨gi_S (lwq_3 (dqc_m (dqc_m (dqc_m (dqc_m (dqa_m (dqa_m (List.mem_of_getElem? (i := 2) rfl))))))) rfl : Cond.methodLink RX10 115 yX10_isBelow ∈ lw_g) (lwq_3 (dqc_m (dqc_m (dqc_m (dqc_m (dqa_m (dqa_m (List.mem_of_getElem? (i := 3) rfl))))))) rfl : Cond.static yX10_isBelow ∈ lw_g) (lwq_1 (List.mem_of_getElem? (i := 1) rfl) rfl : Cond.initialized yX10_isBelow.cls ∈ lw_g) (lwq_3 (dqc_m (dqc_m (dqc_m (dqc_m (dqa_m (dqa_m (List.mem_of_getElem? (i := 4) rfl))))))) rfl : Cond.code yX10_isBelow cX10_isBelow 2 (some .boolean) ∈ lw_g), ⟨by decide, by decide, by decide +kernel⟩⟩
theorem bk_X10_isClub_11 : ck_ fX10 (some .boolean) cX10_isClub 11 [.ireturn] 12 = true := qck_r (nn_ _) (by decide +kernel)
theorem bs_X10_isClub_11 {P : Zt → Option Zv → Prop} (K : Int → Zl → List Zv → Zt → Prop) : sx_ K P [.ireturn] 12 = x_ireturn P := (xe_ireturn)
abbrev po_X10_isClub (T : Zt) (v : Int) : Zt → Option Zv → Prop := fun T' r => T = T' ∧ ∃ x : Int, r = some (vI x) ∧ ((x = 1 ∧ 0 ≤ v ∧ v < T 108 0 2) ∨ (x = 0 ∧ ¬ (0 ≤ v ∧ v < T 108 0 2)))
set_option maxHeartbeats 4000000 in
theorem ct_X10_isClub {T : Zt} {v : Int} : Ct_ yX10_isClub zX10_isClub T [vR 110 0, vI v] (po_X10_isClub T v) := by
  refine ct_of pn_10 rfl rfl (Nat.le_of_ble_eq_true rfl) (fun hT hav => ?_)
  have hr_v : -2147483648 ≤ v ∧ v ≤ 2147483647 := hav (vI v) (List.mem_cons_of_mem _ List.mem_cons_self)
  have hz : zX10_isClub.2.2.2.1 = some .boolean → ∀ (T' : Zt) (x : Int), po_X10_isClub T v T' (some (vI x)) → 0 ≤ x ∧ x ≤ 1 := fun _ T' x h => by obtain ⟨-, y, e, hy⟩ := h; cases e; omega
  show J_ zX10_isClub T (po_X10_isClub T v) 0 0 0 [some (vR 110 0), some (vI v)] [] T
  refine j_blx (F := fX10) tb_X10 (nn_ _) bk_X10_isClub_0 bs_X10_isClub_0 hz (fun K hK => ?_)
  intro b1 b1b
  refine hK 8 _ [vI (T 108 0 2), vI v] T ?_
  refine j_callS (y := yX10_isBelow) (Yc := zX10_isBelow) (rest := []) [vI v, vI (T 108 0 2)] (ct_X10_isBelow (T := T)) cl_X10_115 (qd_c (by decide +kernel)) (nn_ _) rfl (rf_of rfl) (Nat.le_of_ble_eq_true rfl) (Nat.le_of_ble_eq_true rfl) (Nat.le_of_ble_eq_true rfl) rfl ?_
  rintro _ _ ⟨rfl, x2, rfl, hx2⟩
  show J_ zX10_isClub T (po_X10_isClub T v) 0 0 11 _ [vI x2] T
  refine j_blx (F := fX10) tb_X10 (nn_ _) bk_X10_isClub_11 bs_X10_isClub_11 hz (fun K hK => ?_)
  refine (show po_X10_isClub T v T (some (vI x2)) from ?_)
  exact ⟨rfl, _, rfl, by omega⟩
abbrev cX10_isPerson : ByteArray := prog_1_method_47_code
def yX10_isPerson : MethodName := ⟨RX10, "isPerson", "(I)Z"⟩
def zX10_isPerson : Zm := (RX10, cX10_isPerson, 2, (some .boolean), { frames := 1, cells := 0, slots := 0, locals := 21 })
theorem bk_X10_isPerson_0 : ck_ fX10 (some .boolean) cX10_isPerson 0 [.iload 1, .aload 0, .tableswitch 0 10 1 #[], .tableswitch 0 8 3 #[]] 8 = true := qck_r (nn_ _) (by decide +kernel)
theorem bs_X10_isPerson_0 {P : Zt → Option Zv → Prop} (K : Int → Zl → List Zv → Zt → Prop) : sx_ K P [.iload 1, .aload 0, .tableswitch 0 10 1 #[], .tableswitch 0 8 3 #[]] 8 = x_iload 1 (x_aload 0 (x_g1 110 108 (x_g0 108 3 0 200 (K 8)))) := ((xe_iload 1).trans (congrArg (x_iload 1) ((xe_aload 0).trans (congrArg (x_aload 0) ((xe_g1 (kk := 110) rfl tl_10_1).trans (congrArg (x_g1 110 108) ((xe_g0 (kk := 108) rfl tl_8_3).trans (congrArg (x_g0 108 3 0 200) xe_nil))))))))
theorem bk_X10_isPerson_11 : ck_ fX10 (some .boolean) cX10_isPerson 11 [.ireturn] 12 = true := qck_r (nn_ _) (by decide +kernel)
theorem bs_X10_isPerson_11 {P : Zt → Option Zv → Prop} (K : Int → Zl → List Zv → Zt → Prop) : sx_ K P [.ireturn] 12 = x_ireturn P := (xe_ireturn)
abbrev po_X10_isPerson (T : Zt) (v : Int) : Zt → Option Zv → Prop := fun T' r => T = T' ∧ ∃ x : Int, r = some (vI x) ∧ ((x = 1 ∧ 0 ≤ v ∧ v < T 108 0 3) ∨ (x = 0 ∧ ¬ (0 ≤ v ∧ v < T 108 0 3)))
set_option maxHeartbeats 4000000 in
theorem ct_X10_isPerson {T : Zt} {v : Int} : Ct_ yX10_isPerson zX10_isPerson T [vR 110 0, vI v] (po_X10_isPerson T v) := by
  refine ct_of pn_10 rfl rfl (Nat.le_of_ble_eq_true rfl) (fun hT hav => ?_)
  have hr_v : -2147483648 ≤ v ∧ v ≤ 2147483647 := hav (vI v) (List.mem_cons_of_mem _ List.mem_cons_self)
  have hz : zX10_isPerson.2.2.2.1 = some .boolean → ∀ (T' : Zt) (x : Int), po_X10_isPerson T v T' (some (vI x)) → 0 ≤ x ∧ x ≤ 1 := fun _ T' x h => by obtain ⟨-, y, e, hy⟩ := h; cases e; omega
  show J_ zX10_isPerson T (po_X10_isPerson T v) 0 0 0 [some (vR 110 0), some (vI v)] [] T
  refine j_blx (F := fX10) tb_X10 (nn_ _) bk_X10_isPerson_0 bs_X10_isPerson_0 hz (fun K hK => ?_)
  intro b1 b1b
  refine hK 8 _ [vI (T 108 0 3), vI v] T ?_
  refine j_callS (y := yX10_isBelow) (Yc := zX10_isBelow) (rest := []) [vI v, vI (T 108 0 3)] (ct_X10_isBelow (T := T)) cl_X10_115 (qd_c (by decide +kernel)) (nn_ _) rfl (rf_of rfl) (Nat.le_of_ble_eq_true rfl) (Nat.le_of_ble_eq_true rfl) (Nat.le_of_ble_eq_true rfl) rfl ?_
  rintro _ _ ⟨rfl, x2, rfl, hx2⟩
  show J_ zX10_isPerson T (po_X10_isPerson T v) 0 0 11 _ [vI x2] T
  refine j_blx (F := fX10) tb_X10 (nn_ _) bk_X10_isPerson_11 bs_X10_isPerson_11 hz (fun K hK => ?_)
  refine (show po_X10_isPerson T v T (some (vI x2)) from ?_)
  exact ⟨rfl, _, rfl, by omega⟩
abbrev cX10_isMatch : ByteArray := prog_1_method_48_code
def yX10_isMatch : MethodName := ⟨RX10, "isMatch", "(I)Z"⟩
def zX10_isMatch : Zm := (RX10, cX10_isMatch, 2, (some .boolean), { frames := 1, cells := 0, slots := 0, locals := 21 })
theorem bk_X10_isMatch_0 : ck_ fX10 (some .boolean) cX10_isMatch 0 [.iload 1, .aload 0, .tableswitch 0 10 2 #[], .tableswitch 0 6 4 #[]] 8 = true := qck_r (nn_ _) (by decide +kernel)
theorem bs_X10_isMatch_0 {P : Zt → Option Zv → Prop} (K : Int → Zl → List Zv → Zt → Prop) : sx_ K P [.iload 1, .aload 0, .tableswitch 0 10 2 #[], .tableswitch 0 6 4 #[]] 8 = x_iload 1 (x_aload 0 (x_g1 110 106 (x_g0 106 4 0 400 (K 8)))) := ((xe_iload 1).trans (congrArg (x_iload 1) ((xe_aload 0).trans (congrArg (x_aload 0) ((xe_g1 (kk := 110) rfl tl_10_2).trans (congrArg (x_g1 110 106) ((xe_g0 (kk := 106) rfl tl_6_4).trans (congrArg (x_g0 106 4 0 400) xe_nil))))))))
theorem bk_X10_isMatch_11 : ck_ fX10 (some .boolean) cX10_isMatch 11 [.ireturn] 12 = true := qck_r (nn_ _) (by decide +kernel)
theorem bs_X10_isMatch_11 {P : Zt → Option Zv → Prop} (K : Int → Zl → List Zv → Zt → Prop) : sx_ K P [.ireturn] 12 = x_ireturn P := (xe_ireturn)
abbrev po_X10_isMatch (T : Zt) (v : Int) : Zt → Option Zv → Prop := fun T' r => T = T' ∧ ∃ x : Int, r = some (vI x) ∧ ((x = 1 ∧ 0 ≤ v ∧ v < T 106 0 4) ∨ (x = 0 ∧ ¬ (0 ≤ v ∧ v < T 106 0 4)))
set_option maxHeartbeats 4000000 in
theorem ct_X10_isMatch {T : Zt} {v : Int} : Ct_ yX10_isMatch zX10_isMatch T [vR 110 0, vI v] (po_X10_isMatch T v) := by
  refine ct_of pn_10 rfl rfl (Nat.le_of_ble_eq_true rfl) (fun hT hav => ?_)
  have hr_v : -2147483648 ≤ v ∧ v ≤ 2147483647 := hav (vI v) (List.mem_cons_of_mem _ List.mem_cons_self)
  have hz : zX10_isMatch.2.2.2.1 = some .boolean → ∀ (T' : Zt) (x : Int), po_X10_isMatch T v T' (some (vI x)) → 0 ≤ x ∧ x ≤ 1 := fun _ T' x h => by obtain ⟨-, y, e, hy⟩ := h; cases e; omega
  show J_ zX10_isMatch T (po_X10_isMatch T v) 0 0 0 [some (vR 110 0), some (vI v)] [] T
  refine j_blx (F := fX10) tb_X10 (nn_ _) bk_X10_isMatch_0 bs_X10_isMatch_0 hz (fun K hK => ?_)
  intro b1 b1b
  refine hK 8 _ [vI (T 106 0 4), vI v] T ?_
  refine j_callS (y := yX10_isBelow) (Yc := zX10_isBelow) (rest := []) [vI v, vI (T 106 0 4)] (ct_X10_isBelow (T := T)) cl_X10_115 (qd_c (by decide +kernel)) (nn_ _) rfl (rf_of rfl) (Nat.le_of_ble_eq_true rfl) (Nat.le_of_ble_eq_true rfl) (Nat.le_of_ble_eq_true rfl) rfl ?_
  rintro _ _ ⟨rfl, x2, rfl, hx2⟩
  show J_ zX10_isMatch T (po_X10_isMatch T v) 0 0 11 _ [vI x2] T
  refine j_blx (F := fX10) tb_X10 (nn_ _) bk_X10_isMatch_11 bs_X10_isMatch_11 hz (fun K hK => ?_)
  refine (show po_X10_isMatch T v T (some (vI x2)) from ?_)
  exact ⟨rfl, _, rfl, by omega⟩
abbrev cX10_isCompetition : ByteArray := prog_1_method_45_code
def yX10_isCompetition : MethodName := ⟨RX10, "isCompetition", "(I)Z"⟩
def zX10_isCompetition : Zm := (RX10, cX10_isCompetition, 2, (some .boolean), { frames := 1, cells := 0, slots := 0, locals := 21 })
theorem bk_X10_isCompetition_0 : ck_ fX10 (some .boolean) cX10_isCompetition 0 [.iload 1, .aload 0, .tableswitch 0 10 2 #[], .tableswitch 0 6 2 #[]] 8 = true := qck_r (nn_ _) (by decide +kernel)
theorem bs_X10_isCompetition_0 {P : Zt → Option Zv → Prop} (K : Int → Zl → List Zv → Zt → Prop) : sx_ K P [.iload 1, .aload 0, .tableswitch 0 10 2 #[], .tableswitch 0 6 2 #[]] 8 = x_iload 1 (x_aload 0 (x_g1 110 106 (x_g0 106 2 0 4 (K 8)))) := ((xe_iload 1).trans (congrArg (x_iload 1) ((xe_aload 0).trans (congrArg (x_aload 0) ((xe_g1 (kk := 110) rfl tl_10_2).trans (congrArg (x_g1 110 106) ((xe_g0 (kk := 106) rfl tl_6_2).trans (congrArg (x_g0 106 2 0 4) xe_nil))))))))
theorem bk_X10_isCompetition_11 : ck_ fX10 (some .boolean) cX10_isCompetition 11 [.ireturn] 12 = true := qck_r (nn_ _) (by decide +kernel)
theorem bs_X10_isCompetition_11 {P : Zt → Option Zv → Prop} (K : Int → Zl → List Zv → Zt → Prop) : sx_ K P [.ireturn] 12 = x_ireturn P := (xe_ireturn)
abbrev po_X10_isCompetition (T : Zt) (v : Int) : Zt → Option Zv → Prop := fun T' r => T = T' ∧ ∃ x : Int, r = some (vI x) ∧ ((x = 1 ∧ 0 ≤ v ∧ v < T 106 0 2) ∨ (x = 0 ∧ ¬ (0 ≤ v ∧ v < T 106 0 2)))
set_option maxHeartbeats 4000000 in
theorem ct_X10_isCompetition {T : Zt} {v : Int} : Ct_ yX10_isCompetition zX10_isCompetition T [vR 110 0, vI v] (po_X10_isCompetition T v) := by
  refine ct_of pn_10 rfl rfl (Nat.le_of_ble_eq_true rfl) (fun hT hav => ?_)
  have hr_v : -2147483648 ≤ v ∧ v ≤ 2147483647 := hav (vI v) (List.mem_cons_of_mem _ List.mem_cons_self)
  have hz : zX10_isCompetition.2.2.2.1 = some .boolean → ∀ (T' : Zt) (x : Int), po_X10_isCompetition T v T' (some (vI x)) → 0 ≤ x ∧ x ≤ 1 := fun _ T' x h => by obtain ⟨-, y, e, hy⟩ := h; cases e; omega
  show J_ zX10_isCompetition T (po_X10_isCompetition T v) 0 0 0 [some (vR 110 0), some (vI v)] [] T
  refine j_blx (F := fX10) tb_X10 (nn_ _) bk_X10_isCompetition_0 bs_X10_isCompetition_0 hz (fun K hK => ?_)
  intro b1 b1b
  refine hK 8 _ [vI (T 106 0 2), vI v] T ?_
  refine j_callS (y := yX10_isBelow) (Yc := zX10_isBelow) (rest := []) [vI v, vI (T 106 0 2)] (ct_X10_isBelow (T := T)) cl_X10_115 (qd_c (by decide +kernel)) (nn_ _) rfl (rf_of rfl) (Nat.le_of_ble_eq_true rfl) (Nat.le_of_ble_eq_true rfl) (Nat.le_of_ble_eq_true rfl) rfl ?_
  rintro _ _ ⟨rfl, x2, rfl, hx2⟩
  show J_ zX10_isCompetition T (po_X10_isCompetition T v) 0 0 11 _ [vI x2] T
  refine j_blx (F := fX10) tb_X10 (nn_ _) bk_X10_isCompetition_11 bs_X10_isCompetition_11 hz (fun K hK => ?_)
  refine (show po_X10_isCompetition T v T (some (vI x2)) from ?_)
  exact ⟨rfl, _, rfl, by omega⟩
abbrev cX10_person : ByteArray := prog_1_method_8_code
def yX10_person : MethodName := ⟨RX10, "person", "()I"⟩
def zX10_person : Zm := (RX10, cX10_person, 2, (some .int), { frames := 0, cells := 0, slots := 0, locals := 0 })
theorem bk_X10_person_0 : ck_ fX10 (some .int) cX10_person 0 [.aload 0, .tableswitch 0 10 1 #[], .tableswitch 0 8 3 #[], .iconst 200, .if_icmp .lt 16, .iconst (-5), .ireturn] 16 = true := qck_r (nn_ _) (by decide +kernel)
theorem bs_X10_person_0 {P : Zt → Option Zv → Prop} (K : Int → Zl → List Zv → Zt → Prop) : sx_ K P [.aload 0, .tableswitch 0 10 1 #[], .tableswitch 0 8 3 #[], .iconst 200, .if_icmp .lt 16, .iconst (-5), .ireturn] 16 = x_aload 0 (x_g1 110 108 (x_g0 108 3 0 200 (x_iconst 200 (x_if_icmp .lt 16 K (x_iconst (-5) (x_ireturn P)))))) := ((xe_aload 0).trans (congrArg (x_aload 0) ((xe_g1 (kk := 110) rfl tl_10_1).trans (congrArg (x_g1 110 108) ((xe_g0 (kk := 108) rfl tl_8_3).trans (congrArg (x_g0 108 3 0 200) ((xe_iconst 200).trans (congrArg (x_iconst 200) ((xe_if_icmp .lt 16).trans (congrArg (x_if_icmp .lt 16 K) ((xe_iconst (-5)).trans (congrArg (x_iconst (-5)) (xe_ireturn)))))))))))))
theorem bk_X10_person_16 : ck_ fX10 (some .int) cX10_person 16 [.aload 0, .tableswitch 0 10 1 #[], .tableswitch 0 8 3 #[], .istore 1, .aload 0, .tableswitch 0 10 1 #[], .tableswitch 0 8 4 #[], .iload 1, .iconst (-1), .iastore, .aload 0, .tableswitch 0 10 1 #[], .dup, .tableswitch 0 8 3 #[], .iconst 1, .iadd, .tableswitch 1 8 3 #[], .iload 1, .ireturn] 49 = true := qck_r (nn_ _) (by decide +kernel)
theorem bs_X10_person_16 {P : Zt → Option Zv → Prop} (K : Int → Zl → List Zv → Zt → Prop) : sx_ K P [.aload 0, .tableswitch 0 10 1 #[], .tableswitch 0 8 3 #[], .istore 1, .aload 0, .tableswitch 0 10 1 #[], .tableswitch 0 8 4 #[], .iload 1, .iconst (-1), .iastore, .aload 0, .tableswitch 0 10 1 #[], .dup, .tableswitch 0 8 3 #[], .iconst 1, .iadd, .tableswitch 1 8 3 #[], .iload 1, .ireturn] 49 = x_aload 0 (x_g1 110 108 (x_g0 108 3 0 200 (x_istore 1 (x_aload 0 (x_g1 110 108 (x_g1 108 564 (x_iload 1 (x_iconst (-1) (x_iastore (x_aload 0 (x_g1 110 108 (x_dup (x_g0 108 3 0 200 (x_iconst 1 (x_iadd (x_p 108 3 0 200 (x_iload 1 (x_ireturn P)))))))))))))))))) := ((xe_aload 0).trans (congrArg (x_aload 0) ((xe_g1 (kk := 110) rfl tl_10_1).trans (congrArg (x_g1 110 108) ((xe_g0 (kk := 108) rfl tl_8_3).trans (congrArg (x_g0 108 3 0 200) ((xe_istore 1).trans (congrArg (x_istore 1) ((xe_aload 0).trans (congrArg (x_aload 0) ((xe_g1 (kk := 110) rfl tl_10_1).trans (congrArg (x_g1 110 108) ((xe_g1 (kk := 108) rfl tl_8_4).trans (congrArg (x_g1 108 564) ((xe_iload 1).trans (congrArg (x_iload 1) ((xe_iconst (-1)).trans (congrArg (x_iconst (-1)) ((xe_iastore).trans (congrArg (x_iastore) ((xe_aload 0).trans (congrArg (x_aload 0) ((xe_g1 (kk := 110) rfl tl_10_1).trans (congrArg (x_g1 110 108) ((xe_dup).trans (congrArg (x_dup) ((xe_g0 (kk := 108) rfl tl_8_3).trans (congrArg (x_g0 108 3 0 200) ((xe_iconst 1).trans (congrArg (x_iconst 1) ((xe_iadd).trans (congrArg (x_iadd) ((xe_p (kk := 108) rfl tl_8_3).trans (congrArg (x_p 108 3 0 200) ((xe_iload 1).trans (congrArg (x_iload 1) (xe_ireturn)))))))))))))))))))))))))))))))))))))
abbrev po_X10_person (T : Zt) : Zt → Option Zv → Prop := fun T' r => ∃ x : Int, r = some (vI x) ∧ fr_ [(108, [3]), (564, [])] T T' ∧ ((x = -3 ∧ ¬ (0 = (0 : Int)) ∧ T' 108 0 3 = T 108 0 3) ∨ ((0 = (0 : Int)) ∧ T 108 0 3 = 200 ∧ x = -5 ∧ T' 108 0 3 = T 108 0 3) ∨ ((0 = (0 : Int)) ∧ T 108 0 3 < 200 ∧ x = T 108 0 3 ∧ T' 108 0 3 = T 108 0 3 + 1))
abbrev cX10_club : ByteArray := prog_1_method_7_code
def yX10_club : MethodName := ⟨RX10, "club", "(II)I"⟩
def zX10_club : Zm := (RX10, cX10_club, 4, (some .int), { frames := 1, cells := 0, slots := 0, locals := 21 })
abbrev po_X10_club (T : Zt) (s c : Int) : Zt → Option Zv → Prop := fun T' r => ∃ x : Int, r = some (vI x) ∧ fr_ [(108, [2]), (560, []), (561, [])] T T' ∧ ((x = -3 ∧ ¬ (0 ≤ s ∧ s ≤ 11 ∧ 0 ≤ c ∧ c ≤ 7) ∧ T' 108 0 2 = T 108 0 2) ∨ ((0 ≤ s ∧ s ≤ 11 ∧ 0 ≤ c ∧ c ≤ 7) ∧ T 108 0 2 = 12 ∧ x = -5 ∧ T' 108 0 2 = T 108 0 2) ∨ ((0 ≤ s ∧ s ≤ 11 ∧ 0 ≤ c ∧ c ≤ 7) ∧ T 108 0 2 < 12 ∧ x = T 108 0 2 ∧ T' 108 0 2 = T 108 0 2 + 1))
abbrev cX10_official : ByteArray := prog_1_method_10_code
def yX10_official : MethodName := ⟨RX10, "official", "(II)I"⟩
def zX10_official : Zm := (RX10, cX10_official, 4, (some .int), { frames := 1, cells := 0, slots := 0, locals := 21 })
abbrev po_X10_official (T : Zt) (s c : Int) : Zt → Option Zv → Prop := fun T' r => ∃ x : Int, r = some (vI x) ∧ fr_ [(108, [12]), (570, []), (571, [])] T T' ∧ ((x = -3 ∧ ¬ (0 ≤ s ∧ s ≤ 11 ∧ 0 ≤ c ∧ c ≤ 7) ∧ T' 108 0 12 = T 108 0 12) ∨ ((0 ≤ s ∧ s ≤ 11 ∧ 0 ≤ c ∧ c ≤ 7) ∧ T 108 0 12 = 8 ∧ x = -5 ∧ T' 108 0 12 = T 108 0 12) ∨ ((0 ≤ s ∧ s ≤ 11 ∧ 0 ≤ c ∧ c ≤ 7) ∧ T 108 0 12 < 8 ∧ x = T 108 0 12 ∧ T' 108 0 12 = T 108 0 12 + 1))
abbrev cX10_day : ByteArray := prog_1_method_11_code
def yX10_day : MethodName := ⟨RX10, "day", "(I)I"⟩
def zX10_day : Zm := (RX10, cX10_day, 3, (some .int), { frames := 1, cells := 0, slots := 0, locals := 20 })
theorem bk_X10_day_0 : ck_ fX10 (some .int) cX10_day 0 [.iload 1] 1 = true := qck_r (nn_ _) (by decide +kernel)
theorem bs_X10_day_0 {P : Zt → Option Zv → Prop} (K : Int → Zl → List Zv → Zt → Prop) : sx_ K P [.iload 1] 1 = x_iload 1 (K 1) := ((xe_iload 1).trans (congrArg (x_iload 1) xe_nil))
set_option maxRecDepth 100000 in
theorem cl_X10_140 : cs_ RX10 140 yX10_isDay zX10_isDay 1 := ⟨gi_S (lwq_3 (dqc_m (dqc_m (dqc_m (dqc_m (dqc_m (dqa_m (List.mem_of_getElem? (i := 1) rfl))))))) rfl : Cond.methodLink RX10 140 yX10_isDay ∈ lw_g) (lwq_3 (dqc_m (dqc_m (dqc_m (dqc_m (dqc_m (dqa_m (List.mem_of_getElem? (i := 2) rfl))))))) rfl : Cond.static yX10_isDay ∈ lw_g) (lwq_1 (List.mem_of_getElem? (i := 1) rfl) rfl : Cond.initialized yX10_isDay.cls ∈ lw_g) (lwq_3 (dqc_m (dqc_m (dqc_m (dqc_m (dqc_m (dqa_m (List.mem_of_getElem? (i := 3) rfl))))))) rfl : Cond.code yX10_isDay cX10_isDay 1 (some .boolean) ∈ lw_g), ⟨by decide, by decide, by decide +kernel⟩⟩
theorem bk_X10_day_4 : ck_ fX10 (some .int) cX10_day 4 [.ifCond .eq 18, .iload 1, .aload 0, .tableswitch 0 10 1 #[], .tableswitch 0 8 13 #[], .if_icmp .gt 21, .iconst (-3), .ireturn] 21 = true := qck_r (nn_ _) (by decide +kernel)
theorem bs_X10_day_4 {P : Zt → Option Zv → Prop} (K : Int → Zl → List Zv → Zt → Prop) : sx_ K P [.ifCond .eq 18, .iload 1, .aload 0, .tableswitch 0 10 1 #[], .tableswitch 0 8 13 #[], .if_icmp .gt 21, .iconst (-3), .ireturn] 21 = x_ifCond .eq 18 K (x_iload 1 (x_aload 0 (x_g1 110 108 (x_g0 108 13 0 999 (x_if_icmp .gt 21 K (x_iconst (-3) (x_ireturn P))))))) := ((xe_ifCond .eq 18).trans (congrArg (x_ifCond .eq 18 K) ((xe_iload 1).trans (congrArg (x_iload 1) ((xe_aload 0).trans (congrArg (x_aload 0) ((xe_g1 (kk := 110) rfl tl_10_1).trans (congrArg (x_g1 110 108) ((xe_g0 (kk := 108) rfl tl_8_13).trans (congrArg (x_g0 108 13 0 999) ((xe_if_icmp .gt 21).trans (congrArg (x_if_icmp .gt 21 K) ((xe_iconst (-3)).trans (congrArg (x_iconst (-3)) (xe_ireturn)))))))))))))))
theorem bk_X10_day_18 : ck_ fX10 (some .int) cX10_day 18 [.iconst (-3), .ireturn] 21 = true := qck_r (nn_ _) (by decide +kernel)
theorem bs_X10_day_18 {P : Zt → Option Zv → Prop} (K : Int → Zl → List Zv → Zt → Prop) : sx_ K P [.iconst (-3), .ireturn] 21 = x_iconst (-3) (x_ireturn P) := ((xe_iconst (-3)).trans (congrArg (x_iconst (-3)) (xe_ireturn)))
theorem bk_X10_day_21 : ck_ fX10 (some .int) cX10_day 21 [.aload 0, .tableswitch 0 10 1 #[], .tableswitch 0 8 13 #[], .istore 2, .aload 0, .tableswitch 0 10 1 #[], .iload 1, .tableswitch 1 8 13 #[], .iload 2, .ireturn] 39 = true := qck_r (nn_ _) (by decide +kernel)
theorem bs_X10_day_21 {P : Zt → Option Zv → Prop} (K : Int → Zl → List Zv → Zt → Prop) : sx_ K P [.aload 0, .tableswitch 0 10 1 #[], .tableswitch 0 8 13 #[], .istore 2, .aload 0, .tableswitch 0 10 1 #[], .iload 1, .tableswitch 1 8 13 #[], .iload 2, .ireturn] 39 = x_aload 0 (x_g1 110 108 (x_g0 108 13 0 999 (x_istore 2 (x_aload 0 (x_g1 110 108 (x_iload 1 (x_p 108 13 0 999 (x_iload 2 (x_ireturn P))))))))) := ((xe_aload 0).trans (congrArg (x_aload 0) ((xe_g1 (kk := 110) rfl tl_10_1).trans (congrArg (x_g1 110 108) ((xe_g0 (kk := 108) rfl tl_8_13).trans (congrArg (x_g0 108 13 0 999) ((xe_istore 2).trans (congrArg (x_istore 2) ((xe_aload 0).trans (congrArg (x_aload 0) ((xe_g1 (kk := 110) rfl tl_10_1).trans (congrArg (x_g1 110 108) ((xe_iload 1).trans (congrArg (x_iload 1) ((xe_p (kk := 108) rfl tl_8_13).trans (congrArg (x_p 108 13 0 999) ((xe_iload 2).trans (congrArg (x_iload 2) (xe_ireturn)))))))))))))))))))
abbrev po_X10_day (T : Zt) (d : Int) : Zt → Option Zv → Prop := fun T' r => ∃ x : Int, r = some (vI x) ∧ fr_ [(108, [13])] T T' ∧ ((x = -3 ∧ ¬ (T 108 0 13 < d ∧ d ≤ 999) ∧ T' 108 0 13 = T 108 0 13) ∨ (T 108 0 13 < d ∧ d ≤ 999 ∧ x = T 108 0 13 ∧ T' 108 0 13 = d))
set_option maxHeartbeats 4000000 in
theorem ct_X10_day {T : Zt} {d : Int} : Ct_ yX10_day zX10_day T [vR 110 0, vI d] (po_X10_day T d) := by
  refine ct_of pn_10 rfl rfl (Nat.le_of_ble_eq_true rfl) (fun hT hav => ?_)
  have hr_d : -2147483648 ≤ d ∧ d ≤ 2147483647 := hav (vI d) (List.mem_cons_of_mem _ List.mem_cons_self)
  have hz : zX10_day.2.2.2.1 = some .boolean → ∀ (T' : Zt) (x : Int), po_X10_day T d T' (some (vI x)) → 0 ≤ x ∧ x ≤ 1 := fun h => by cases h
  have hb_today : 0 ≤ T 108 0 13 ∧ T 108 0 13 ≤ 999 := bd_f hT 108 13 tl_8_13 0
  show J_ zX10_day T (po_X10_day T d) 0 0 0 [some (vR 110 0), some (vI d), none] [] T
  refine j_blx (F := fX10) tb_X10 (nn_ _) bk_X10_day_0 bs_X10_day_0 hz (fun K hK => ?_)
  refine hK 1 _ [vI d] T ?_
  refine j_callS (y := yX10_isDay) (Yc := zX10_isDay) (rest := []) [vI d] (ct_X10_isDay (T := T)) cl_X10_140 (qd_c (by decide +kernel)) (nn_ _) rfl (rf_of rfl) (Nat.le_of_ble_eq_true rfl) (Nat.le_of_ble_eq_true rfl) (Nat.le_of_ble_eq_true rfl) rfl ?_
  rintro _ _ ⟨rfl, x1, rfl, hx1⟩
  show J_ zX10_day T (po_X10_day T d) 0 0 4 _ [vI x1] T
  refine j_blx (F := fX10) tb_X10 (nn_ _) bk_X10_day_4 bs_X10_day_4 hz (fun K hK => ?_)
  refine And.intro (fun c2 => ?_) (fun c2 => ?_)
  · replace hx1 := hx1.resolve_left (fun z => absurd (c2.symm.trans z.1) (by decide))
    clear c2
    refine hK 18 _ [] T ?_
    refine j_blx (F := fX10) tb_X10 (nn_ _) bk_X10_day_18 bs_X10_day_18 hz (fun K hK => ?_)
    refine (show po_X10_day T d T (some (vI (-3))) from ?_)
    exact ⟨_, rfl, fr_0 _ _, by omega⟩
  · replace hx1 := hx1.resolve_right (fun z => c2 z.1)
    clear c2
    intro b3 b3b
    refine And.intro (fun c4 => ?_) (fun c4 => ?_)
    · refine hK 21 _ [] T ?_
      refine j_blx (F := fX10) tb_X10 (nn_ _) bk_X10_day_21 bs_X10_day_21 hz (fun K hK => ?_)
      intro b5 b5b
      refine bd_i (by omega) ?_
      refine x_nm (fun U6 hU6 => ?_)
      have e7 := up_f hU6
      refine (show po_X10_day T d U6 (some (vI (T 108 0 13))) from ?_)
      have e8 : U6 108 0 13 = d := up_f hU6
      exact ⟨_, rfl, fr_u (fr_0 _ _) hU6 rfl, by omega⟩
    · refine (show po_X10_day T d T (some (vI (-3))) from ?_)
      exact ⟨_, rfl, fr_0 _ _, by omega⟩
abbrev cX10_count : ByteArray := prog_1_method_44_code
def yX10_count : MethodName := ⟨RX10, "count", "(I)I"⟩
def zX10_count : Zm := (RX10, cX10_count, 2, (some .int), { frames := 0, cells := 0, slots := 0, locals := 0 })
theorem ds_X10_count_1 : decode cX10_count 1 = .ok (.tableswitch 111 0 7 #[47, 55, 63, 71, 79, 87, 95, 103], 47) := by decide +kernel
abbrev cX10_cut : ByteArray := prog_1_method_34_code
def yX10_cut : MethodName := ⟨RX10, "cut", "()I"⟩
def zX10_cut : Zm := (RX10, cX10_cut, 1, (some .int), { frames := 0, cells := 0, slots := 0, locals := 0 })
theorem bk_X10_cut_0 : ck_ fX10 (some .int) cX10_cut 0 [.aload 0, .tableswitch 0 10 4 #[], .tableswitch 0 9 3 #[], .ireturn] 8 = true := qck_r (nn_ _) (by decide +kernel)
theorem bs_X10_cut_0 {P : Zt → Option Zv → Prop} (K : Int → Zl → List Zv → Zt → Prop) : sx_ K P [.aload 0, .tableswitch 0 10 4 #[], .tableswitch 0 9 3 #[], .ireturn] 8 = x_aload 0 (x_g1 110 109 (x_g0 109 3 0 4095 (x_ireturn P))) := ((xe_aload 0).trans (congrArg (x_aload 0) ((xe_g1 (kk := 110) rfl tl_10_4).trans (congrArg (x_g1 110 109) ((xe_g0 (kk := 109) rfl tl_9_3).trans (congrArg (x_g0 109 3 0 4095) (xe_ireturn)))))))
abbrev po_X10_cut (T : Zt) : Zt → Option Zv → Prop := fun T' r => T = T' ∧ ∃ x : Int, r = some (vI x) ∧ (True)
set_option maxHeartbeats 4000000 in
theorem ct_X10_cut {T : Zt} : Ct_ yX10_cut zX10_cut T [vR 110 0] (po_X10_cut T) := by
  refine ct_of pn_10 rfl rfl (Nat.le_of_ble_eq_true rfl) (fun hT hav => ?_)
  have hz : zX10_cut.2.2.2.1 = some .boolean → ∀ (T' : Zt) (x : Int), po_X10_cut T T' (some (vI x)) → 0 ≤ x ∧ x ≤ 1 := fun h => by cases h
  show J_ zX10_cut T (po_X10_cut T) 0 0 0 [some (vR 110 0)] [] T
  refine j_blx (F := fX10) tb_X10 (nn_ _) bk_X10_cut_0 bs_X10_cut_0 hz (fun K hK => ?_)
  intro b1 b1b
  refine (show po_X10_cut T T (some (vI (T 109 0 3))) from ?_)
  exact ⟨rfl, _, rfl, by trivial⟩
abbrev cX10_fault : ByteArray := prog_1_method_5_code
def yX10_fault : MethodName := ⟨RX10, "fault", "()I"⟩
def zX10_fault : Zm := (RX10, cX10_fault, 1, (some .int), { frames := 0, cells := 0, slots := 0, locals := 0 })
abbrev cX10_sign : ByteArray := prog_1_method_2_code
def yX10_sign : MethodName := ⟨RX10, "sign", "(I)I"⟩
def zX10_sign : Zm := (RX10, cX10_sign, 2, (some .int), { frames := 0, cells := 0, slots := 0, locals := 0 })
abbrev po_X10_sign (T : Zt) (c : Int) : Zt → Option Zv → Prop := fun T' r => ∃ x : Int, r = some (vI x) ∧ fr_ [(105, [1]), (500, [])] T T' ∧ ((x = -3 ∧ T' 105 0 1 = T 105 0 1 ∧ ¬ (c = 10 ∨ 32 ≤ c ∧ c ≤ 126)) ∨ ((c = 10 ∨ 32 ≤ c ∧ c ≤ 126) ∧ (T 105 0 1 = 400 ∧ x = -5 ∧ T' 105 0 1 = 400 ∨ T 105 0 1 < 400 ∧ x = T 105 0 1 + 1 ∧ T' 105 0 1 = x)))
abbrev cX10_wipe : ByteArray := prog_1_method_3_code
def yX10_wipe : MethodName := ⟨RX10, "wipe", "()I"⟩
def zX10_wipe : Zm := (RX10, cX10_wipe, 2, (some .int), { frames := 0, cells := 0, slots := 0, locals := 0 })
theorem bk_X10_wipe_0 : ck_ fX10 (some .int) cX10_wipe 0 [.aload 0, .tableswitch 0 10 0 #[], .tableswitch 0 5 1 #[], .istore 1, .aload 0, .tableswitch 0 10 0 #[], .iconst 0, .tableswitch 1 5 1 #[], .iload 1, .ireturn] 18 = true := qck_r (nn_ _) (by decide +kernel)
theorem bs_X10_wipe_0 {P : Zt → Option Zv → Prop} (K : Int → Zl → List Zv → Zt → Prop) : sx_ K P [.aload 0, .tableswitch 0 10 0 #[], .tableswitch 0 5 1 #[], .istore 1, .aload 0, .tableswitch 0 10 0 #[], .iconst 0, .tableswitch 1 5 1 #[], .iload 1, .ireturn] 18 = x_aload 0 (x_g1 110 105 (x_g0 105 1 0 400 (x_istore 1 (x_aload 0 (x_g1 110 105 (x_iconst 0 (x_p 105 1 0 400 (x_iload 1 (x_ireturn P))))))))) := ((xe_aload 0).trans (congrArg (x_aload 0) ((xe_g1 (kk := 110) rfl tl_10_0).trans (congrArg (x_g1 110 105) ((xe_g0 (kk := 105) rfl tl_5_1).trans (congrArg (x_g0 105 1 0 400) ((xe_istore 1).trans (congrArg (x_istore 1) ((xe_aload 0).trans (congrArg (x_aload 0) ((xe_g1 (kk := 110) rfl tl_10_0).trans (congrArg (x_g1 110 105) ((xe_iconst 0).trans (congrArg (x_iconst 0) ((xe_p (kk := 105) rfl tl_5_1).trans (congrArg (x_p 105 1 0 400) ((xe_iload 1).trans (congrArg (x_iload 1) (xe_ireturn)))))))))))))))))))
abbrev po_X10_wipe (T : Zt) : Zt → Option Zv → Prop := fun T' r => ∃ x : Int, r = some (vI x) ∧ fr_ [(105, [1])] T T' ∧ (T' 105 0 1 = 0 ∧ x = T 105 0 1)
set_option maxHeartbeats 4000000 in
theorem ct_X10_wipe {T : Zt} : Ct_ yX10_wipe zX10_wipe T [vR 110 0] (po_X10_wipe T) := by
  refine ct_of pn_10 rfl rfl (Nat.le_of_ble_eq_true rfl) (fun hT hav => ?_)
  have hz : zX10_wipe.2.2.2.1 = some .boolean → ∀ (T' : Zt) (x : Int), po_X10_wipe T T' (some (vI x)) → 0 ≤ x ∧ x ≤ 1 := fun h => by cases h
  show J_ zX10_wipe T (po_X10_wipe T) 0 0 0 [some (vR 110 0), none] [] T
  refine j_blx (F := fX10) tb_X10 (nn_ _) bk_X10_wipe_0 bs_X10_wipe_0 hz (fun K hK => ?_)
  intro b1 b1b
  refine bd_i (by omega) ?_
  refine x_nm (fun U2 hU2 => ?_)
  have e3 := up_f hU2
  refine (show po_X10_wipe T U2 (some (vI (T 105 0 1))) from ?_)
  have e4 : U2 105 0 1 = 0 := up_f hU2
  exact ⟨_, rfl, fr_u (fr_0 _ _) hU2 rfl, by omega⟩
abbrev cX8_isRegisteredWithin : ByteArray := prog_10_method_2_code
def yX8_isRegisteredWithin : MethodName := ⟨RX8, "isRegisteredWithin", "(III)Z"⟩
def zX8_isRegisteredWithin : Zm := (RX8, cX8_isRegisteredWithin, 6, (some .boolean), { frames := 0, cells := 0, slots := 0, locals := 0 })
theorem bk_X8_isRegisteredWithin_11 : ck_ fX8 (some .boolean) cX8_isRegisteredWithin 11 [.iload 4, .iconst (-1), .if_icmp .eq 64, .iload 5, .iconst 300, .if_icmp .ge 64, .aload 0, .tableswitch 0 8 7 #[], .iload 4, .iaload, .iload 3, .if_icmp .gt 49, .iload 2, .aload 0, .tableswitch 0 8 8 #[], .iload 4, .iaload, .if_icmp .gt 49, .iconst 1, .ireturn] 49 = true := qck_r (nn_ _) (by decide +kernel)
theorem bs_X8_isRegisteredWithin_11 {P : Zt → Option Zv → Prop} (K : Int → Zl → List Zv → Zt → Prop) : sx_ K P [.iload 4, .iconst (-1), .if_icmp .eq 64, .iload 5, .iconst 300, .if_icmp .ge 64, .aload 0, .tableswitch 0 8 7 #[], .iload 4, .iaload, .iload 3, .if_icmp .gt 49, .iload 2, .aload 0, .tableswitch 0 8 8 #[], .iload 4, .iaload, .if_icmp .gt 49, .iconst 1, .ireturn] 49 = x_iload 4 (x_iconst (-1) (x_if_icmp .eq 64 K (x_iload 5 (x_iconst 300 (x_if_icmp .ge 64 K (x_aload 0 (x_g1 108 567 (x_iload 4 (x_iaload (x_iload 3 (x_if_icmp .gt 49 K (x_iload 2 (x_aload 0 (x_g1 108 568 (x_iload 4 (x_iaload (x_if_icmp .gt 49 K (x_iconst 1 (x_ireturn P))))))))))))))))))) := ((xe_iload 4).trans (congrArg (x_iload 4) ((xe_iconst (-1)).trans (congrArg (x_iconst (-1)) ((xe_if_icmp .eq 64).trans (congrArg (x_if_icmp .eq 64 K) ((xe_iload 5).trans (congrArg (x_iload 5) ((xe_iconst 300).trans (congrArg (x_iconst 300) ((xe_if_icmp .ge 64).trans (congrArg (x_if_icmp .ge 64 K) ((xe_aload 0).trans (congrArg (x_aload 0) ((xe_g1 (kk := 108) rfl tl_8_7).trans (congrArg (x_g1 108 567) ((xe_iload 4).trans (congrArg (x_iload 4) ((xe_iaload).trans (congrArg (x_iaload) ((xe_iload 3).trans (congrArg (x_iload 3) ((xe_if_icmp .gt 49).trans (congrArg (x_if_icmp .gt 49 K) ((xe_iload 2).trans (congrArg (x_iload 2) ((xe_aload 0).trans (congrArg (x_aload 0) ((xe_g1 (kk := 108) rfl tl_8_8).trans (congrArg (x_g1 108 568) ((xe_iload 4).trans (congrArg (x_iload 4) ((xe_iaload).trans (congrArg (x_iaload) ((xe_if_icmp .gt 49).trans (congrArg (x_if_icmp .gt 49 K) ((xe_iconst 1).trans (congrArg (x_iconst 1) (xe_ireturn)))))))))))))))))))))))))))))))))))))))
theorem bk_X8_isRegisteredWithin_64 : ck_ fX8 (some .boolean) cX8_isRegisteredWithin 64 [.iconst 0, .ireturn] 66 = true := qck_r (nn_ _) (by decide +kernel)
theorem bs_X8_isRegisteredWithin_64 {P : Zt → Option Zv → Prop} (K : Int → Zl → List Zv → Zt → Prop) : sx_ K P [.iconst 0, .ireturn] 66 = x_iconst 0 (x_ireturn P) := ((xe_iconst 0).trans (congrArg (x_iconst 0) (xe_ireturn)))
theorem bk_X8_isRegisteredWithin_49 : ck_ fX8 (some .boolean) cX8_isRegisteredWithin 49 [.aload 0, .tableswitch 0 8 9 #[], .iload 4, .iaload, .istore 4, .iinc 5 1, .goto 11] 64 = true := qck_r (nn_ _) (by decide +kernel)
theorem bs_X8_isRegisteredWithin_49 {P : Zt → Option Zv → Prop} (K : Int → Zl → List Zv → Zt → Prop) : sx_ K P [.aload 0, .tableswitch 0 8 9 #[], .iload 4, .iaload, .istore 4, .iinc 5 1, .goto 11] 64 = x_aload 0 (x_g1 108 569 (x_iload 4 (x_iaload (x_istore 4 (x_iinc 5 1 (x_goto 11 K)))))) := ((xe_aload 0).trans (congrArg (x_aload 0) ((xe_g1 (kk := 108) rfl tl_8_9).trans (congrArg (x_g1 108 569) ((xe_iload 4).trans (congrArg (x_iload 4) ((xe_iaload).trans (congrArg (x_iaload) ((xe_istore 4).trans (congrArg (x_istore 4) ((xe_iinc 5 1).trans (congrArg (x_iinc 5 1) (xe_goto 11)))))))))))))
theorem bk_X8_isRegisteredWithin_0 : ck_ fX8 (some .boolean) cX8_isRegisteredWithin 0 [.aload 0, .tableswitch 0 8 4 #[], .iload 1, .iaload, .istore 4, .iconst 0, .istore 5] 11 = true := qck_r (nn_ _) (by decide +kernel)
theorem bs_X8_isRegisteredWithin_0 {P : Zt → Option Zv → Prop} (K : Int → Zl → List Zv → Zt → Prop) : sx_ K P [.aload 0, .tableswitch 0 8 4 #[], .iload 1, .iaload, .istore 4, .iconst 0, .istore 5] 11 = x_aload 0 (x_g1 108 564 (x_iload 1 (x_iaload (x_istore 4 (x_iconst 0 (x_istore 5 (K 11))))))) := ((xe_aload 0).trans (congrArg (x_aload 0) ((xe_g1 (kk := 108) rfl tl_8_4).trans (congrArg (x_g1 108 564) ((xe_iload 1).trans (congrArg (x_iload 1) ((xe_iaload).trans (congrArg (x_iaload) ((xe_istore 4).trans (congrArg (x_istore 4) ((xe_iconst 0).trans (congrArg (x_iconst 0) ((xe_istore 5).trans (congrArg (x_istore 5) xe_nil))))))))))))))
abbrev cX8_clubOn : ByteArray := prog_10_method_4_code
def yX8_clubOn : MethodName := ⟨RX8, "clubOn", "(II)I"⟩
def zX8_clubOn : Zm := (RX8, cX8_clubOn, 5, (some .int), { frames := 0, cells := 0, slots := 0, locals := 0 })
abbrev cX8_addSpan : ByteArray := prog_10_method_3_code
def yX8_addSpan : MethodName := ⟨RX8, "addSpan", "(IIII)V"⟩
def zX8_addSpan : Zm := (RX8, cX8_addSpan, 5, none, { frames := 0, cells := 0, slots := 0, locals := 0 })
theorem bk_X8_addSpan_0 : ck_ fX8 none cX8_addSpan 0 [.aload 0, .tableswitch 0 8 6 #[], .aload 0, .tableswitch 0 8 5 #[], .iload 2, .iastore, .aload 0, .tableswitch 0 8 7 #[], .aload 0, .tableswitch 0 8 5 #[], .iload 3, .iastore, .aload 0, .tableswitch 0 8 8 #[], .aload 0, .tableswitch 0 8 5 #[], .iload 4, .iastore, .aload 0, .tableswitch 0 8 9 #[], .aload 0, .tableswitch 0 8 5 #[], .aload 0, .tableswitch 0 8 4 #[], .iload 1, .iaload, .iastore, .aload 0, .tableswitch 0 8 4 #[], .iload 1, .aload 0, .tableswitch 0 8 5 #[], .iastore, .aload 0, .dup, .tableswitch 0 8 5 #[], .iconst 1, .iadd, .tableswitch 1 8 5 #[], .return_] 67 = true := qck_r (nn_ _) (by decide +kernel)
theorem bs_X8_addSpan_0 {P : Zt → Option Zv → Prop} (K : Int → Zl → List Zv → Zt → Prop) : sx_ K P [.aload 0, .tableswitch 0 8 6 #[], .aload 0, .tableswitch 0 8 5 #[], .iload 2, .iastore, .aload 0, .tableswitch 0 8 7 #[], .aload 0, .tableswitch 0 8 5 #[], .iload 3, .iastore, .aload 0, .tableswitch 0 8 8 #[], .aload 0, .tableswitch 0 8 5 #[], .iload 4, .iastore, .aload 0, .tableswitch 0 8 9 #[], .aload 0, .tableswitch 0 8 5 #[], .aload 0, .tableswitch 0 8 4 #[], .iload 1, .iaload, .iastore, .aload 0, .tableswitch 0 8 4 #[], .iload 1, .aload 0, .tableswitch 0 8 5 #[], .iastore, .aload 0, .dup, .tableswitch 0 8 5 #[], .iconst 1, .iadd, .tableswitch 1 8 5 #[], .return_] 67 = x_aload 0 (x_g1 108 566 (x_aload 0 (x_g0 108 5 0 300 (x_iload 2 (x_iastore (x_aload 0 (x_g1 108 567 (x_aload 0 (x_g0 108 5 0 300 (x_iload 3 (x_iastore (x_aload 0 (x_g1 108 568 (x_aload 0 (x_g0 108 5 0 300 (x_iload 4 (x_iastore (x_aload 0 (x_g1 108 569 (x_aload 0 (x_g0 108 5 0 300 (x_aload 0 (x_g1 108 564 (x_iload 1 (x_iaload (x_iastore (x_aload 0 (x_g1 108 564 (x_iload 1 (x_aload 0 (x_g0 108 5 0 300 (x_iastore (x_aload 0 (x_dup (x_g0 108 5 0 300 (x_iconst 1 (x_iadd (x_p 108 5 0 300 (x_return_ P))))))))))))))))))))))))))))))))))))))) := ((xe_aload 0).trans (congrArg (x_aload 0) ((xe_g1 (kk := 108) rfl tl_8_6).trans (congrArg (x_g1 108 566) ((xe_aload 0).trans (congrArg (x_aload 0) ((xe_g0 (kk := 108) rfl tl_8_5).trans (congrArg (x_g0 108 5 0 300) ((xe_iload 2).trans (congrArg (x_iload 2) ((xe_iastore).trans (congrArg (x_iastore) ((xe_aload 0).trans (congrArg (x_aload 0) ((xe_g1 (kk := 108) rfl tl_8_7).trans (congrArg (x_g1 108 567) ((xe_aload 0).trans (congrArg (x_aload 0) ((xe_g0 (kk := 108) rfl tl_8_5).trans (congrArg (x_g0 108 5 0 300) ((xe_iload 3).trans (congrArg (x_iload 3) ((xe_iastore).trans (congrArg (x_iastore) ((xe_aload 0).trans (congrArg (x_aload 0) ((xe_g1 (kk := 108) rfl tl_8_8).trans (congrArg (x_g1 108 568) ((xe_aload 0).trans (congrArg (x_aload 0) ((xe_g0 (kk := 108) rfl tl_8_5).trans (congrArg (x_g0 108 5 0 300) ((xe_iload 4).trans (congrArg (x_iload 4) ((xe_iastore).trans (congrArg (x_iastore) ((xe_aload 0).trans (congrArg (x_aload 0) ((xe_g1 (kk := 108) rfl tl_8_9).trans (congrArg (x_g1 108 569) ((xe_aload 0).trans (congrArg (x_aload 0) ((xe_g0 (kk := 108) rfl tl_8_5).trans (congrArg (x_g0 108 5 0 300) ((xe_aload 0).trans (congrArg (x_aload 0) ((xe_g1 (kk := 108) rfl tl_8_4).trans (congrArg (x_g1 108 564) ((xe_iload 1).trans (congrArg (x_iload 1) ((xe_iaload).trans (congrArg (x_iaload) ((xe_iastore).trans (congrArg (x_iastore) ((xe_aload 0).trans (congrArg (x_aload 0) ((xe_g1 (kk := 108) rfl tl_8_4).trans (congrArg (x_g1 108 564) ((xe_iload 1).trans (congrArg (x_iload 1) ((xe_aload 0).trans (congrArg (x_aload 0) ((xe_g0 (kk := 108) rfl tl_8_5).trans (congrArg (x_g0 108 5 0 300) ((xe_iastore).trans (congrArg (x_iastore) ((xe_aload 0).trans (congrArg (x_aload 0) ((xe_dup).trans (congrArg (x_dup) ((xe_g0 (kk := 108) rfl tl_8_5).trans (congrArg (x_g0 108 5 0 300) ((xe_iconst 1).trans (congrArg (x_iconst 1) ((xe_iadd).trans (congrArg (x_iadd) ((xe_p (kk := 108) rfl tl_8_5).trans (congrArg (x_p 108 5 0 300) (xe_return_)))))))))))))))))))))))))))))))))))))))))))))))))))))))))))))))))))))))))))))))
abbrev cX10_register : ByteArray := prog_1_method_9_code
def yX10_register : MethodName := ⟨RX10, "register", "(IIII)I"⟩
def zX10_register : Zm := (RX10, cX10_register, 5, (some .int), { frames := 2, cells := 0, slots := 0, locals := 42 })
theorem bk_X10_register_0 : ck_ fX10 (some .int) cX10_register 0 [.aload 0, .iload 1] 2 = true := qck_r (nn_ _) (by decide +kernel)
theorem bs_X10_register_0 {P : Zt → Option Zv → Prop} (K : Int → Zl → List Zv → Zt → Prop) : sx_ K P [.aload 0, .iload 1] 2 = x_aload 0 (x_iload 1 (K 2)) := ((xe_aload 0).trans (congrArg (x_aload 0) ((xe_iload 1).trans (congrArg (x_iload 1) xe_nil))))
set_option maxRecDepth 100000 in
theorem cl_X10_134 : cv_ RX10 134 yX10_isPerson zX10_isPerson 10 1 := ⟨gi_V (lwq_3 (dqc_m (dqc_m (dqc_m (dqc_m (dqc_m (List.mem_of_getElem? (i := 1) rfl)))))) rfl : Cond.methodLink RX10 134 yX10_isPerson ∈ lw_g) (lwq_3 (dqc_m (dqc_m (dqc_m (dqc_m (dqc_m (List.mem_of_getElem? (i := 3) rfl)))))) rfl : Cond.instanceMethod yX10_isPerson ∈ lw_g) (lw_sel 3 rfl : Cond.selects yX10_isPerson.cls yX10_isPerson yX10_isPerson ∈ lw_g) (lwq_1 (List.mem_of_getElem? (i := 1) rfl) rfl : Cond.initialized yX10_isPerson.cls ∈ lw_g) (lwq_3 (dqc_m (dqc_m (dqc_m (dqc_m (dqc_m (List.mem_of_getElem? (i := 4) rfl)))))) rfl : Cond.code yX10_isPerson cX10_isPerson 2 (some .boolean) ∈ lw_g), ⟨nmh_0.1, nmh_0.2, pdq_7⟩, ⟨_, _, rfl⟩⟩
theorem bk_X10_register_5 : ck_ fX10 (some .int) cX10_register 5 [.ifCond .eq 16, .aload 0, .iload 2] 10 = true := qck_r (nn_ _) (by decide +kernel)
theorem bs_X10_register_5 {P : Zt → Option Zv → Prop} (K : Int → Zl → List Zv → Zt → Prop) : sx_ K P [.ifCond .eq 16, .aload 0, .iload 2] 10 = x_ifCond .eq 16 K (x_aload 0 (x_iload 2 (K 10))) := ((xe_ifCond .eq 16).trans (congrArg (x_ifCond .eq 16 K) ((xe_aload 0).trans (congrArg (x_aload 0) ((xe_iload 2).trans (congrArg (x_iload 2) xe_nil))))))
theorem bk_X10_register_16 : ck_ fX10 (some .int) cX10_register 16 [.iconst (-2), .ireturn] 19 = true := qck_r (nn_ _) (by decide +kernel)
theorem bs_X10_register_16 {P : Zt → Option Zv → Prop} (K : Int → Zl → List Zv → Zt → Prop) : sx_ K P [.iconst (-2), .ireturn] 19 = x_iconst (-2) (x_ireturn P) := ((xe_iconst (-2)).trans (congrArg (x_iconst (-2)) (xe_ireturn)))
set_option maxRecDepth 100000 in
theorem cl_X10_137 : cv_ RX10 137 yX10_isClub zX10_isClub 10 1 := ⟨gi_V (lwq_3 (dqc_m (dqc_m (dqc_m (dqc_m (dqc_m (List.mem_of_getElem? (i := 5) rfl)))))) rfl : Cond.methodLink RX10 137 yX10_isClub ∈ lw_g) (lwq_3 (dqc_m (dqc_m (dqc_m (dqc_m (dqc_m (List.mem_of_getElem? (i := 7) rfl)))))) rfl : Cond.instanceMethod yX10_isClub ∈ lw_g) (lw_sel 0 rfl : Cond.selects yX10_isClub.cls yX10_isClub yX10_isClub ∈ lw_g) (lwq_1 (List.mem_of_getElem? (i := 1) rfl) rfl : Cond.initialized yX10_isClub.cls ∈ lw_g) (lwq_3 (dqc_m (dqc_m (dqc_m (dqc_m (dqc_m (dqa_m (List.mem_of_getElem? (i := 0) rfl))))))) rfl : Cond.code yX10_isClub cX10_isClub 2 (some .boolean) ∈ lw_g), ⟨nmh_0.1, nmh_0.2, pdq_7⟩, ⟨_, _, rfl⟩⟩
theorem bk_X10_register_13 : ck_ fX10 (some .int) cX10_register 13 [.ifCond .ne 19, .iconst (-2), .ireturn] 19 = true := qck_r (nn_ _) (by decide +kernel)
theorem bs_X10_register_13 {P : Zt → Option Zv → Prop} (K : Int → Zl → List Zv → Zt → Prop) : sx_ K P [.ifCond .ne 19, .iconst (-2), .ireturn] 19 = x_ifCond .ne 19 K (x_iconst (-2) (x_ireturn P)) := ((xe_ifCond .ne 19).trans (congrArg (x_ifCond .ne 19 K) ((xe_iconst (-2)).trans (congrArg (x_iconst (-2)) (xe_ireturn)))))
theorem bk_X10_register_19 : ck_ fX10 (some .int) cX10_register 19 [.iload 3] 20 = true := qck_r (nn_ _) (by decide +kernel)
theorem bs_X10_register_19 {P : Zt → Option Zv → Prop} (K : Int → Zl → List Zv → Zt → Prop) : sx_ K P [.iload 3] 20 = x_iload 3 (K 20) := ((xe_iload 3).trans (congrArg (x_iload 3) xe_nil))
theorem bk_X10_register_23 : ck_ fX10 (some .int) cX10_register 23 [.ifCond .eq 40, .iload 4] 28 = true := qck_r (nn_ _) (by decide +kernel)
theorem bs_X10_register_23 {P : Zt → Option Zv → Prop} (K : Int → Zl → List Zv → Zt → Prop) : sx_ K P [.ifCond .eq 40, .iload 4] 28 = x_ifCond .eq 40 K (x_iload 4 (K 28)) := ((xe_ifCond .eq 40).trans (congrArg (x_ifCond .eq 40 K) ((xe_iload 4).trans (congrArg (x_iload 4) xe_nil))))
theorem bk_X10_register_40 : ck_ fX10 (some .int) cX10_register 40 [.iconst (-3), .ireturn] 43 = true := qck_r (nn_ _) (by decide +kernel)
theorem bs_X10_register_40 {P : Zt → Option Zv → Prop} (K : Int → Zl → List Zv → Zt → Prop) : sx_ K P [.iconst (-3), .ireturn] 43 = x_iconst (-3) (x_ireturn P) := ((xe_iconst (-3)).trans (congrArg (x_iconst (-3)) (xe_ireturn)))
theorem bk_X10_register_31 : ck_ fX10 (some .int) cX10_register 31 [.ifCond .eq 40, .iload 4, .iload 3, .if_icmp .ge 43, .iconst (-3), .ireturn] 43 = true := qck_r (nn_ _) (by decide +kernel)
theorem bs_X10_register_31 {P : Zt → Option Zv → Prop} (K : Int → Zl → List Zv → Zt → Prop) : sx_ K P [.ifCond .eq 40, .iload 4, .iload 3, .if_icmp .ge 43, .iconst (-3), .ireturn] 43 = x_ifCond .eq 40 K (x_iload 4 (x_iload 3 (x_if_icmp .ge 43 K (x_iconst (-3) (x_ireturn P))))) := ((xe_ifCond .eq 40).trans (congrArg (x_ifCond .eq 40 K) ((xe_iload 4).trans (congrArg (x_iload 4) ((xe_iload 3).trans (congrArg (x_iload 3) ((xe_if_icmp .ge 43).trans (congrArg (x_if_icmp .ge 43 K) ((xe_iconst (-3)).trans (congrArg (x_iconst (-3)) (xe_ireturn)))))))))))
theorem bk_X10_register_43 : ck_ fX10 (some .int) cX10_register 43 [.aload 0, .tableswitch 0 10 1 #[], .iload 1, .iload 3, .iload 4] 51 = true := qck_r (nn_ _) (by decide +kernel)
theorem bs_X10_register_43 {P : Zt → Option Zv → Prop} (K : Int → Zl → List Zv → Zt → Prop) : sx_ K P [.aload 0, .tableswitch 0 10 1 #[], .iload 1, .iload 3, .iload 4] 51 = x_aload 0 (x_g1 110 108 (x_iload 1 (x_iload 3 (x_iload 4 (K 51))))) := ((xe_aload 0).trans (congrArg (x_aload 0) ((xe_g1 (kk := 110) rfl tl_10_1).trans (congrArg (x_g1 110 108) ((xe_iload 1).trans (congrArg (x_iload 1) ((xe_iload 3).trans (congrArg (x_iload 3) ((xe_iload 4).trans (congrArg (x_iload 4) xe_nil))))))))))
set_option maxRecDepth 100000 in
theorem cl_X10_143 : cv_ RX10 143 yX8_isRegisteredWithin zX8_isRegisteredWithin 8 3 := ⟨gi_V (lwq_3 (dqc_m (dqc_m (dqc_m (dqc_m (dqc_m (dqa_m (List.mem_of_getElem? (i := 4) rfl))))))) rfl : Cond.methodLink RX10 143 yX8_isRegisteredWithin ∈ lw_g) (lwq_3 (dqc_m (dqc_m (dqc_m (dqc_m (dqc_m (dqa_m (List.mem_of_getElem? (i := 5) rfl))))))) rfl : Cond.instanceMethod yX8_isRegisteredWithin ∈ lw_g) (lwq_3 (dqc_m (dqc_m (dqc_m (dqc_m (dqc_m (dqa_m (List.mem_of_getElem? (i := 6) rfl))))))) rfl : Cond.selects yX8_isRegisteredWithin.cls yX8_isRegisteredWithin yX8_isRegisteredWithin ∈ lw_g) (lwq_1 (List.mem_of_getElem? (i := 3) rfl) rfl : Cond.initialized yX8_isRegisteredWithin.cls ∈ lw_g) (lwq_3 (dqc_m (dqc_m (dqc_m (dqc_m (dqc_m (dqa_m (List.mem_of_getElem? (i := 7) rfl))))))) rfl : Cond.code yX8_isRegisteredWithin cX8_isRegisteredWithin 6 (some .boolean) ∈ lw_g), ⟨nmh_9.1, nmh_9.2, pdq_11⟩, ⟨_, _, rfl⟩⟩
theorem bk_X10_register_54 : ck_ fX10 (some .int) cX10_register 54 [.ifCond .eq 60, .iconst (-4), .ireturn] 60 = true := qck_r (nn_ _) (by decide +kernel)
theorem bs_X10_register_54 {P : Zt → Option Zv → Prop} (K : Int → Zl → List Zv → Zt → Prop) : sx_ K P [.ifCond .eq 60, .iconst (-4), .ireturn] 60 = x_ifCond .eq 60 K (x_iconst (-4) (x_ireturn P)) := ((xe_ifCond .eq 60).trans (congrArg (x_ifCond .eq 60 K) ((xe_iconst (-4)).trans (congrArg (x_iconst (-4)) (xe_ireturn)))))
theorem bk_X10_register_60 : ck_ fX10 (some .int) cX10_register 60 [.aload 0, .tableswitch 0 10 1 #[], .tableswitch 0 8 5 #[], .iconst 300, .if_icmp .lt 76, .iconst (-5), .ireturn] 76 = true := qck_r (nn_ _) (by decide +kernel)
theorem bs_X10_register_60 {P : Zt → Option Zv → Prop} (K : Int → Zl → List Zv → Zt → Prop) : sx_ K P [.aload 0, .tableswitch 0 10 1 #[], .tableswitch 0 8 5 #[], .iconst 300, .if_icmp .lt 76, .iconst (-5), .ireturn] 76 = x_aload 0 (x_g1 110 108 (x_g0 108 5 0 300 (x_iconst 300 (x_if_icmp .lt 76 K (x_iconst (-5) (x_ireturn P)))))) := ((xe_aload 0).trans (congrArg (x_aload 0) ((xe_g1 (kk := 110) rfl tl_10_1).trans (congrArg (x_g1 110 108) ((xe_g0 (kk := 108) rfl tl_8_5).trans (congrArg (x_g0 108 5 0 300) ((xe_iconst 300).trans (congrArg (x_iconst 300) ((xe_if_icmp .lt 76).trans (congrArg (x_if_icmp .lt 76 K) ((xe_iconst (-5)).trans (congrArg (x_iconst (-5)) (xe_ireturn)))))))))))))
theorem bk_X10_register_76 : ck_ fX10 (some .int) cX10_register 76 [.aload 0, .tableswitch 0 10 1 #[], .iload 1, .iload 2, .iload 3, .iload 4] 85 = true := qck_r (nn_ _) (by decide +kernel)
theorem bs_X10_register_76 {P : Zt → Option Zv → Prop} (K : Int → Zl → List Zv → Zt → Prop) : sx_ K P [.aload 0, .tableswitch 0 10 1 #[], .iload 1, .iload 2, .iload 3, .iload 4] 85 = x_aload 0 (x_g1 110 108 (x_iload 1 (x_iload 2 (x_iload 3 (x_iload 4 (K 85)))))) := ((xe_aload 0).trans (congrArg (x_aload 0) ((xe_g1 (kk := 110) rfl tl_10_1).trans (congrArg (x_g1 110 108) ((xe_iload 1).trans (congrArg (x_iload 1) ((xe_iload 2).trans (congrArg (x_iload 2) ((xe_iload 3).trans (congrArg (x_iload 3) ((xe_iload 4).trans (congrArg (x_iload 4) xe_nil))))))))))))
set_option maxRecDepth 100000 in
theorem cl_X10_150 : cv_ RX10 150 yX8_addSpan zX8_addSpan 8 4 := ⟨gi_V (lwq_3 (dqc_m (dqc_m (dqc_m (dqc_m (dqc_m (dqa_m (dqa_m (List.mem_of_getElem? (i := 0) rfl)))))))) rfl : Cond.methodLink RX10 150 yX8_addSpan ∈ lw_g) (lwq_3 (dqc_m (dqc_m (dqc_m (dqc_m (dqc_m (dqa_m (dqa_m (List.mem_of_getElem? (i := 1) rfl)))))))) rfl : Cond.instanceMethod yX8_addSpan ∈ lw_g) (lwq_3 (dqc_m (dqc_m (dqc_m (dqc_m (dqc_m (dqa_m (dqa_m (List.mem_of_getElem? (i := 2) rfl)))))))) rfl : Cond.selects yX8_addSpan.cls yX8_addSpan yX8_addSpan ∈ lw_g) (lwq_1 (List.mem_of_getElem? (i := 3) rfl) rfl : Cond.initialized yX8_addSpan.cls ∈ lw_g) (lwq_3 (dqc_m (dqc_m (dqc_m (dqc_m (dqc_m (dqa_m (dqa_m (List.mem_of_getElem? (i := 3) rfl)))))))) rfl : Cond.code yX8_addSpan cX8_addSpan 5 none ∈ lw_g), ⟨nmh_9.1, nmh_9.2, pdq_12⟩, ⟨_, _, rfl⟩⟩
theorem bk_X10_register_88 : ck_ fX10 (some .int) cX10_register 88 [.aload 0, .tableswitch 0 10 1 #[], .tableswitch 0 8 5 #[], .ireturn] 96 = true := qck_r (nn_ _) (by decide +kernel)
theorem bs_X10_register_88 {P : Zt → Option Zv → Prop} (K : Int → Zl → List Zv → Zt → Prop) : sx_ K P [.aload 0, .tableswitch 0 10 1 #[], .tableswitch 0 8 5 #[], .ireturn] 96 = x_aload 0 (x_g1 110 108 (x_g0 108 5 0 300 (x_ireturn P))) := ((xe_aload 0).trans (congrArg (x_aload 0) ((xe_g1 (kk := 110) rfl tl_10_1).trans (congrArg (x_g1 110 108) ((xe_g0 (kk := 108) rfl tl_8_5).trans (congrArg (x_g0 108 5 0 300) (xe_ireturn)))))))
abbrev po_X10_register (T : Zt) (p cl a b : Int) : Zt → Option Zv → Prop := fun T' r => ∃ x : Int, r = some (vI x) ∧ fr_ [(108, [5]), (566, []), (567, []), (568, []), (569, []), (564, [])] T T' ∧ (x = x)
abbrev cX10_moved : ByteArray := prog_1_method_17_code
def yX10_moved : MethodName := ⟨RX10, "moved", "(I)I"⟩
def zX10_moved : Zm := (RX10, cX10_moved, 2, (some .int), { frames := 1, cells := 0, slots := 0, locals := 21 })
abbrev cX10_witness : ByteArray := prog_1_method_33_code
def yX10_witness : MethodName := ⟨RX10, "witness", "(I)I"⟩
def zX10_witness : Zm := (RX10, cX10_witness, 2, (some .int), { frames := 2, cells := 0, slots := 0, locals := 42 })
theorem bk_X10_witness_0 : ck_ fX10 (some .int) cX10_witness 0 [.aload 0, .iload 1] 2 = true := qck_r (nn_ _) (by decide +kernel)
theorem bs_X10_witness_0 {P : Zt → Option Zv → Prop} (K : Int → Zl → List Zv → Zt → Prop) : sx_ K P [.aload 0, .iload 1] 2 = x_aload 0 (x_iload 1 (K 2)) := ((xe_aload 0).trans (congrArg (x_aload 0) ((xe_iload 1).trans (congrArg (x_iload 1) xe_nil))))
set_option maxRecDepth 100000 in
theorem cl_X10_195 : cv_ RX10 195 yX10_isMatch zX10_isMatch 10 1 := ⟨gi_V (lwq_4 (dqc_m (dqa_m (dqa_m (List.mem_of_getElem? (i := 5) rfl)))) rfl : Cond.methodLink RX10 195 yX10_isMatch ∈ lw_g) (lwq_4 (dqc_m (dqa_m (dqa_m (List.mem_of_getElem? (i := 7) rfl)))) rfl : Cond.instanceMethod yX10_isMatch ∈ lw_g) (lw_sel 2 rfl : Cond.selects yX10_isMatch.cls yX10_isMatch yX10_isMatch ∈ lw_g) (lwq_1 (List.mem_of_getElem? (i := 1) rfl) rfl : Cond.initialized yX10_isMatch.cls ∈ lw_g) (lwq_4 (dqc_m (dqa_m (dqa_m (dqa_m (List.mem_of_getElem? (i := 0) rfl))))) rfl : Cond.code yX10_isMatch cX10_isMatch 2 (some .boolean) ∈ lw_g), ⟨nmh_0.1, nmh_0.2, pdq_7⟩, ⟨_, _, rfl⟩⟩
theorem bk_X10_witness_5 : ck_ fX10 (some .int) cX10_witness 5 [.ifCond .ne 11, .iconst (-2), .ireturn] 11 = true := qck_r (nn_ _) (by decide +kernel)
theorem bs_X10_witness_5 {P : Zt → Option Zv → Prop} (K : Int → Zl → List Zv → Zt → Prop) : sx_ K P [.ifCond .ne 11, .iconst (-2), .ireturn] 11 = x_ifCond .ne 11 K (x_iconst (-2) (x_ireturn P)) := ((xe_ifCond .ne 11).trans (congrArg (x_ifCond .ne 11 K) ((xe_iconst (-2)).trans (congrArg (x_iconst (-2)) (xe_ireturn)))))
theorem bk_X10_witness_11 : ck_ fX10 (some .int) cX10_witness 11 [.aload 0, .tableswitch 0 10 4 #[], .tableswitch 0 9 2 #[], .iconst 1, .if_icmp .ne 34, .aload 0, .tableswitch 0 10 4 #[], .tableswitch 0 9 4 #[], .iload 1, .iaload, .goto 35] 34 = true := qck_r (nn_ _) (by decide +kernel)
theorem bs_X10_witness_11 {P : Zt → Option Zv → Prop} (K : Int → Zl → List Zv → Zt → Prop) : sx_ K P [.aload 0, .tableswitch 0 10 4 #[], .tableswitch 0 9 2 #[], .iconst 1, .if_icmp .ne 34, .aload 0, .tableswitch 0 10 4 #[], .tableswitch 0 9 4 #[], .iload 1, .iaload, .goto 35] 34 = x_aload 0 (x_g1 110 109 (x_g0 109 2 (-1) 2 (x_iconst 1 (x_if_icmp .ne 34 K (x_aload 0 (x_g1 110 109 (x_g1 109 584 (x_iload 1 (x_iaload (x_goto 35 K)))))))))) := ((xe_aload 0).trans (congrArg (x_aload 0) ((xe_g1 (kk := 110) rfl tl_10_4).trans (congrArg (x_g1 110 109) ((xe_g0 (kk := 109) rfl tl_9_2).trans (congrArg (x_g0 109 2 (-1) 2) ((xe_iconst 1).trans (congrArg (x_iconst 1) ((xe_if_icmp .ne 34).trans (congrArg (x_if_icmp .ne 34 K) ((xe_aload 0).trans (congrArg (x_aload 0) ((xe_g1 (kk := 110) rfl tl_10_4).trans (congrArg (x_g1 110 109) ((xe_g1 (kk := 109) rfl tl_9_4).trans (congrArg (x_g1 109 584) ((xe_iload 1).trans (congrArg (x_iload 1) ((xe_iaload).trans (congrArg (x_iaload) (xe_goto 35)))))))))))))))))))))
theorem bk_X10_witness_34 : ck_ fX10 (some .int) cX10_witness 34 [.iconst (-1), .ireturn] 36 = true := qck_r (nn_ _) (by decide +kernel)
theorem bs_X10_witness_34 {P : Zt → Option Zv → Prop} (K : Int → Zl → List Zv → Zt → Prop) : sx_ K P [.iconst (-1), .ireturn] 36 = x_iconst (-1) (x_ireturn P) := ((xe_iconst (-1)).trans (congrArg (x_iconst (-1)) (xe_ireturn)))
theorem bk_X10_witness_35 : ck_ fX10 (some .int) cX10_witness 35 [.ireturn] 36 = true := qck_r (nn_ _) (by decide +kernel)
theorem bs_X10_witness_35 {P : Zt → Option Zv → Prop} (K : Int → Zl → List Zv → Zt → Prop) : sx_ K P [.ireturn] 36 = x_ireturn P := (xe_ireturn)
abbrev po_X10_witness (T : Zt) (m : Int) : Zt → Option Zv → Prop := fun T' r => T = T' ∧ ∃ x : Int, r = some (vI x) ∧ (True)
set_option maxHeartbeats 4000000 in
theorem ct_X10_witness {T : Zt} {m : Int} : Ct_ yX10_witness zX10_witness T [vR 110 0, vI m] (po_X10_witness T m) := by
  refine ct_of pn_10 rfl rfl (Nat.le_of_ble_eq_true rfl) (fun hT hav => ?_)
  have hr_m : -2147483648 ≤ m ∧ m ≤ 2147483647 := hav (vI m) (List.mem_cons_of_mem _ List.mem_cons_self)
  have hz : zX10_witness.2.2.2.1 = some .boolean → ∀ (T' : Zt) (x : Int), po_X10_witness T m T' (some (vI x)) → 0 ≤ x ∧ x ≤ 1 := fun h => by cases h
  have hb_matchCount : 0 ≤ T 106 0 4 ∧ T 106 0 4 ≤ 400 := bd_f hT 106 4 tl_6_4 0
  show J_ zX10_witness T (po_X10_witness T m) 0 0 0 [some (vR 110 0), some (vI m)] [] T
  refine j_blx (F := fX10) tb_X10 (nn_ _) bk_X10_witness_0 bs_X10_witness_0 hz (fun K hK => ?_)
  refine hK 2 _ [vI m, vR 110 0] T ?_
  refine j_callV (y := yX10_isMatch) (Yc := zX10_isMatch) (rest := []) [vI m] (ct_X10_isMatch (T := T)) cl_X10_195 (qd_c (by decide +kernel)) (nn_ _) rfl (rf_of rfl) (Nat.le_of_ble_eq_true rfl) (Nat.le_of_ble_eq_true rfl) (Nat.le_of_ble_eq_true rfl) rfl ?_
  rintro _ _ ⟨rfl, x1, rfl, hx1⟩
  show J_ zX10_witness T (po_X10_witness T m) 0 0 5 _ [vI x1] T
  refine j_blx (F := fX10) tb_X10 (nn_ _) bk_X10_witness_5 bs_X10_witness_5 hz (fun K hK => ?_)
  refine And.intro (fun c2 => ?_) (fun c2 => ?_)
  · replace hx1 := hx1.resolve_right (fun z => c2 z.1)
    clear c2
    refine hK 11 _ [] T ?_
    refine j_blx (F := fX10) tb_X10 (nn_ _) bk_X10_witness_11 bs_X10_witness_11 hz (fun K hK => ?_)
    intro b3 b3b
    refine And.intro (fun c4 => ?_) (fun c4 => ?_)
    · refine hK 34 _ [] T ?_
      refine j_blx (F := fX10) tb_X10 (nn_ _) bk_X10_witness_34 bs_X10_witness_34 hz (fun K hK => ?_)
      refine (show po_X10_witness T m T (some (vI (-1))) from ?_)
      exact ⟨rfl, _, rfl, by trivial⟩
    · refine ix_i (by omega) ?_
      intro b5 b5b
      refine hK 35 _ [vI (T 584 0 m)] T ?_
      refine j_blx (F := fX10) tb_X10 (nn_ _) bk_X10_witness_35 bs_X10_witness_35 hz (fun K hK => ?_)
      refine (show po_X10_witness T m T (some (vI (T 584 0 m))) from ?_)
      exact ⟨rfl, _, rfl, by trivial⟩
  · replace hx1 := hx1.resolve_left (fun z => absurd (c2.symm.trans z.1) (by decide))
    clear c2
    refine (show po_X10_witness T m T (some (vI (-2))) from ?_)
    exact ⟨rfl, _, rfl, by trivial⟩
abbrev cX10_drawn : ByteArray := prog_1_method_41_code
def yX10_drawn : MethodName := ⟨RX10, "drawn", "(I)I"⟩
def zX10_drawn : Zm := (RX10, cX10_drawn, 2, (some .int), { frames := 2, cells := 0, slots := 0, locals := 42 })
abbrev cX6_addDeduction : ByteArray := prog_8_method_12_code
def yX6_addDeduction : MethodName := ⟨RX6, "addDeduction", "(III)V"⟩
def zX6_addDeduction : Zm := (RX6, cX6_addDeduction, 4, none, { frames := 0, cells := 0, slots := 0, locals := 0 })
abbrev cX6_deductedUpTo : ByteArray := prog_8_method_13_code
def yX6_deductedUpTo : MethodName := ⟨RX6, "deductedUpTo", "(III)I"⟩
def zX6_deductedUpTo : Zm := (RX6, cX6_deductedUpTo, 6, (some .int), { frames := 0, cells := 0, slots := 0, locals := 0 })
theorem bk_X6_deductedUpTo_6 : ck_ fX6 (some .int) cX6_deductedUpTo 6 [.iload 5, .aload 0, .tableswitch 0 6 6 #[], .if_icmp .ge 66, .aload 0, .tableswitch 0 6 7 #[], .iload 5, .iaload, .iload 2, .if_icmp .ne 60, .aload 0, .tableswitch 0 6 8 #[], .iload 5, .iaload, .iload 3, .if_icmp .ne 60, .aload 0, .tableswitch 0 6 10 #[], .iload 5, .iaload, .iload 1, .if_icmp .gt 60, .iload 4, .aload 0, .tableswitch 0 6 9 #[], .iload 5, .iaload, .iadd, .istore 4, .iinc 5 1, .goto 6] 66 = true := qck_r (nn_ _) (by decide +kernel)
theorem bs_X6_deductedUpTo_6 {P : Zt → Option Zv → Prop} (K : Int → Zl → List Zv → Zt → Prop) : sx_ K P [.iload 5, .aload 0, .tableswitch 0 6 6 #[], .if_icmp .ge 66, .aload 0, .tableswitch 0 6 7 #[], .iload 5, .iaload, .iload 2, .if_icmp .ne 60, .aload 0, .tableswitch 0 6 8 #[], .iload 5, .iaload, .iload 3, .if_icmp .ne 60, .aload 0, .tableswitch 0 6 10 #[], .iload 5, .iaload, .iload 1, .if_icmp .gt 60, .iload 4, .aload 0, .tableswitch 0 6 9 #[], .iload 5, .iaload, .iadd, .istore 4, .iinc 5 1, .goto 6] 66 = x_iload 5 (x_aload 0 (x_g0 106 6 0 50 (x_if_icmp .ge 66 K (x_aload 0 (x_g1 106 527 (x_iload 5 (x_iaload (x_iload 2 (x_if_icmp .ne 60 K (x_aload 0 (x_g1 106 528 (x_iload 5 (x_iaload (x_iload 3 (x_if_icmp .ne 60 K (x_aload 0 (x_g1 106 530 (x_iload 5 (x_iaload (x_iload 1 (x_if_icmp .gt 60 K (x_iload 4 (x_aload 0 (x_g1 106 529 (x_iload 5 (x_iaload (x_iadd (x_istore 4 (x_iinc 5 1 (x_goto 6 K)))))))))))))))))))))))))))))) := ((xe_iload 5).trans (congrArg (x_iload 5) ((xe_aload 0).trans (congrArg (x_aload 0) ((xe_g0 (kk := 106) rfl tl_6_6).trans (congrArg (x_g0 106 6 0 50) ((xe_if_icmp .ge 66).trans (congrArg (x_if_icmp .ge 66 K) ((xe_aload 0).trans (congrArg (x_aload 0) ((xe_g1 (kk := 106) rfl tl_6_7).trans (congrArg (x_g1 106 527) ((xe_iload 5).trans (congrArg (x_iload 5) ((xe_iaload).trans (congrArg (x_iaload) ((xe_iload 2).trans (congrArg (x_iload 2) ((xe_if_icmp .ne 60).trans (congrArg (x_if_icmp .ne 60 K) ((xe_aload 0).trans (congrArg (x_aload 0) ((xe_g1 (kk := 106) rfl tl_6_8).trans (congrArg (x_g1 106 528) ((xe_iload 5).trans (congrArg (x_iload 5) ((xe_iaload).trans (congrArg (x_iaload) ((xe_iload 3).trans (congrArg (x_iload 3) ((xe_if_icmp .ne 60).trans (congrArg (x_if_icmp .ne 60 K) ((xe_aload 0).trans (congrArg (x_aload 0) ((xe_g1 (kk := 106) rfl tl_6_10).trans (congrArg (x_g1 106 530) ((xe_iload 5).trans (congrArg (x_iload 5) ((xe_iaload).trans (congrArg (x_iaload) ((xe_iload 1).trans (congrArg (x_iload 1) ((xe_if_icmp .gt 60).trans (congrArg (x_if_icmp .gt 60 K) ((xe_iload 4).trans (congrArg (x_iload 4) ((xe_aload 0).trans (congrArg (x_aload 0) ((xe_g1 (kk := 106) rfl tl_6_9).trans (congrArg (x_g1 106 529) ((xe_iload 5).trans (congrArg (x_iload 5) ((xe_iaload).trans (congrArg (x_iaload) ((xe_iadd).trans (congrArg (x_iadd) ((xe_istore 4).trans (congrArg (x_istore 4) ((xe_iinc 5 1).trans (congrArg (x_iinc 5 1) (xe_goto 6)))))))))))))))))))))))))))))))))))))))))))))))))))))))))))))
theorem bk_X6_deductedUpTo_66 : ck_ fX6 (some .int) cX6_deductedUpTo 66 [.iload 4, .ireturn] 69 = true := qck_r (nn_ _) (by decide +kernel)
theorem bs_X6_deductedUpTo_66 {P : Zt → Option Zv → Prop} (K : Int → Zl → List Zv → Zt → Prop) : sx_ K P [.iload 4, .ireturn] 69 = x_iload 4 (x_ireturn P) := ((xe_iload 4).trans (congrArg (x_iload 4) (xe_ireturn)))
theorem bk_X6_deductedUpTo_60 : ck_ fX6 (some .int) cX6_deductedUpTo 60 [.iinc 5 1, .goto 6] 66 = true := qck_r (nn_ _) (by decide +kernel)
theorem bs_X6_deductedUpTo_60 {P : Zt → Option Zv → Prop} (K : Int → Zl → List Zv → Zt → Prop) : sx_ K P [.iinc 5 1, .goto 6] 66 = x_iinc 5 1 (x_goto 6 K) := ((xe_iinc 5 1).trans (congrArg (x_iinc 5 1) (xe_goto 6)))
theorem bk_X6_deductedUpTo_0 : ck_ fX6 (some .int) cX6_deductedUpTo 0 [.iconst 0, .istore 4, .iconst 0, .istore 5] 6 = true := qck_r (nn_ _) (by decide +kernel)
theorem bs_X6_deductedUpTo_0 {P : Zt → Option Zv → Prop} (K : Int → Zl → List Zv → Zt → Prop) : sx_ K P [.iconst 0, .istore 4, .iconst 0, .istore 5] 6 = x_iconst 0 (x_istore 4 (x_iconst 0 (x_istore 5 (K 6)))) := ((xe_iconst 0).trans (congrArg (x_iconst 0) ((xe_istore 4).trans (congrArg (x_istore 4) ((xe_iconst 0).trans (congrArg (x_iconst 0) ((xe_istore 5).trans (congrArg (x_istore 5) xe_nil))))))))
abbrev po_X6_deductedUpTo (T : Zt) (d c cl : Int) : Zt → Option Zv → Prop := fun T' r => T = T' ∧ ∃ x : Int, r = some (vI x) ∧ (0 ≤ x ∧ x ≤ 4950)
set_option maxHeartbeats 4000000 in
theorem ct_X6_deductedUpTo {T : Zt} {d c cl : Int} : Ct_ yX6_deductedUpTo zX6_deductedUpTo T [vR 106 0, vI d, vI c, vI cl] (po_X6_deductedUpTo T d c cl) := by
  refine ct_of pn_6 rfl rfl (Nat.le_of_ble_eq_true rfl) (fun hT hav => ?_)
  have hr_d : -2147483648 ≤ d ∧ d ≤ 2147483647 := hav (vI d) (List.mem_cons_of_mem _ List.mem_cons_self)
  have hr_c : -2147483648 ≤ c ∧ c ≤ 2147483647 := hav (vI c) (List.mem_cons_of_mem _ (List.mem_cons_of_mem _ List.mem_cons_self))
  have hr_cl : -2147483648 ≤ cl ∧ cl ≤ 2147483647 := hav (vI cl) (List.mem_cons_of_mem _ (List.mem_cons_of_mem _ (List.mem_cons_of_mem _ List.mem_cons_self)))
  have hz : zX6_deductedUpTo.2.2.2.1 = some .boolean → ∀ (T' : Zt) (x : Int), po_X6_deductedUpTo T d c cl T' (some (vI x)) → 0 ≤ x ∧ x ≤ 1 := fun h => by cases h
  have hb_deductions : 0 ≤ T 106 0 6 ∧ T 106 0 6 ≤ 50 := bd_f hT 106 6 tl_6_6 0
  show J_ zX6_deductedUpTo T (po_X6_deductedUpTo T d c cl) 0 0 0 [some (vR 106 0), some (vI d), some (vI c), some (vI cl), none, none] [] T
  have c_6 : ∀ (nn : Nat) (u : Int) (i : Int), ((50 - i).toNat) ≤ nn → (0 ≤ i ∧ i ≤ 50 ∧ 0 ≤ u ∧ u ≤ 99 * i) → J_ zX6_deductedUpTo T (po_X6_deductedUpTo T d c cl) 0 0 6 [some (vR 106 0), some (vI d), some (vI c), some (vI cl), some (vI u), some (vI i)] [] T := by
    intro nn
    induction nn using Nat.strongRecOn with
    | _ nn ih_6 =>
      intro u i hm_6 i1
      replace hm_6 := fun (_ : Unit) => hm_6
      refine j_blx (F := fX6) tb_X6 (nn_ _) bk_X6_deductedUpTo_6 bs_X6_deductedUpTo_6 hz (fun K hK => ?_)
      intro b1 b1b
      refine And.intro (fun c2 => ?_) (fun c2 => ?_)
      · refine hK 66 _ [] T ?_
        refine j_blx (F := fX6) tb_X6 (nn_ _) bk_X6_deductedUpTo_66 bs_X6_deductedUpTo_66 hz (fun K hK => ?_)
        refine (show po_X6_deductedUpTo T d c cl T (some (vI u)) from ?_)
        exact ⟨rfl, _, rfl, by omega⟩
      · refine ix_i (by omega) ?_
        intro b3 b3b
        refine And.intro (fun c4 => ?_) (fun c4 => ?_)
        · refine hK 60 _ [] T ?_
          refine j_blx (F := fX6) tb_X6 (nn_ _) bk_X6_deductedUpTo_60 bs_X6_deductedUpTo_60 hz (fun K hK => ?_)
          refine rg_i (by omega) ?_
          refine hK 6 [some (vR 106 0), some (vI d), some (vI c), some (vI cl), some (vI u), some (vI (i + 1))] [] T ?_
          refine ih_6 _ ?_ u (i + 1) (Nat.le_refl _) ?_
          · have hm_6 := hm_6 (); omega
          · omega
        · refine ix_i (by omega) ?_
          intro b5 b5b
          refine And.intro (fun c6 => ?_) (fun c6 => ?_)
          · refine hK 60 [some (vR 106 0), some (vI d), some (vI c), some (vI cl), some (vI u), some (vI i)] [] T ?_
            refine j_blx (F := fX6) tb_X6 (nn_ _) bk_X6_deductedUpTo_60 bs_X6_deductedUpTo_60 hz (fun K hK => ?_)
            refine rg_i (by omega) ?_
            refine hK 6 [some (vR 106 0), some (vI d), some (vI c), some (vI cl), some (vI u), some (vI (i + 1))] [] T ?_
            refine ih_6 _ ?_ u (i + 1) (Nat.le_refl _) ?_
            · have hm_6 := hm_6 (); omega
            · omega
          · refine ix_i (by omega) ?_
            intro b7 b7b
            refine And.intro (fun c8 => ?_) (fun c8 => ?_)
            · refine hK 60 [some (vR 106 0), some (vI d), some (vI c), some (vI cl), some (vI u), some (vI i)] [] T ?_
              refine j_blx (F := fX6) tb_X6 (nn_ _) bk_X6_deductedUpTo_60 bs_X6_deductedUpTo_60 hz (fun K hK => ?_)
              refine rg_i (by omega) ?_
              refine hK 6 [some (vR 106 0), some (vI d), some (vI c), some (vI cl), some (vI u), some (vI (i + 1))] [] T ?_
              refine ih_6 _ ?_ u (i + 1) (Nat.le_refl _) ?_
              · have hm_6 := hm_6 (); omega
              · omega
            · refine ix_i (by omega) ?_
              intro b9 b9b
              refine rg_i (by omega) ?_
              refine rg_i (by omega) ?_
              refine hK 6 [some (vR 106 0), some (vI d), some (vI c), some (vI cl), some (vI (u + (T 529 0 i))), some (vI (i + 1))] [] T ?_
              refine ih_6 _ ?_ (u + (T 529 0 i)) (i + 1) (Nat.le_refl _) ?_
              · have hm_6 := hm_6 (); omega
              · omega
  refine j_blx (F := fX6) tb_X6 (nn_ _) bk_X6_deductedUpTo_0 bs_X6_deductedUpTo_0 hz (fun K hK => ?_)
  refine hK 6 [some (vR 106 0), some (vI d), some (vI c), some (vI cl), some (vI 0), some (vI 0)] [] T ?_
  refine c_6 _ 0 0 (Nat.le_refl _) ?_
  · omega
def KA_ (T : Zt) : Prop := (∀ i : Int, 0 ≤ i → i < T 106 0 2 → T 521 0 i ≠ 0) ∧ (∀ i : Int, 0 ≤ i → i < T 106 0 4 → T 523 0 i ≠ 0)
theorem KA__f {ws : List (Nat × List Int)} {T T' : Zt} (h : KA_ T) (f : fr_ ws T T') (w : (∀ j, fw_ ws 521 j = false) ∧ (∀ j, fw_ ws 523 j = false) ∧ fw_ ws 106 2 = false ∧ fw_ ws 106 4 = false ∧ True) : KA_ T' := by
  have e0 : ∀ i j, T' 521 i j = T 521 i j := fun i j => f 521 i j (w.1 j)
  have e1 : ∀ i j, T' 523 i j = T 523 i j := fun i j => f 523 i j (w.2.1 j)
  have e2 : ∀ i, T' 106 i 2 = T 106 i 2 := fun i => f 106 i 2 w.2.2.1
  have e3 : ∀ i, T' 106 i 4 = T 106 i 4 := fun i => f 106 i 4 w.2.2.2.1
  simp only [KA_, e0, e1, e2, e3] at h ⊢
  exact h
abbrev cX10_officialOf : ByteArray := prog_1_method_43_code
def yX10_officialOf : MethodName := ⟨RX10, "officialOf", "(I)I"⟩
def zX10_officialOf : Zm := (RX10, cX10_officialOf, 2, (some .int), { frames := 2, cells := 0, slots := 0, locals := 42 })
theorem bk_X10_officialOf_0 : ck_ fX10 (some .int) cX10_officialOf 0 [.aload 0, .iload 1] 2 = true := qck_r (nn_ _) (by decide +kernel)
theorem bs_X10_officialOf_0 {P : Zt → Option Zv → Prop} (K : Int → Zl → List Zv → Zt → Prop) : sx_ K P [.aload 0, .iload 1] 2 = x_aload 0 (x_iload 1 (K 2)) := ((xe_aload 0).trans (congrArg (x_aload 0) ((xe_iload 1).trans (congrArg (x_iload 1) xe_nil))))
theorem bk_X10_officialOf_5 : ck_ fX10 (some .int) cX10_officialOf 5 [.ifCond .eq 23, .aload 0, .tableswitch 0 10 2 #[], .tableswitch 0 6 3 #[], .iload 1, .aaload, .tableswitch 0 2 7 #[], .goto 25] 23 = true := qck_r (nn_ _) (by decide +kernel)
theorem bs_X10_officialOf_5 {P : Zt → Option Zv → Prop} (K : Int → Zl → List Zv → Zt → Prop) : sx_ K P [.ifCond .eq 23, .aload 0, .tableswitch 0 10 2 #[], .tableswitch 0 6 3 #[], .iload 1, .aaload, .tableswitch 0 2 7 #[], .goto 25] 23 = x_ifCond .eq 23 K (x_aload 0 (x_g1 110 106 (x_g1 106 523 (x_iload 1 (x_aaload (x_g0 102 7 (-1) 7 (x_goto 25 K))))))) := ((xe_ifCond .eq 23).trans (congrArg (x_ifCond .eq 23 K) ((xe_aload 0).trans (congrArg (x_aload 0) ((xe_g1 (kk := 110) rfl tl_10_2).trans (congrArg (x_g1 110 106) ((xe_g1 (kk := 106) rfl tl_6_3).trans (congrArg (x_g1 106 523) ((xe_iload 1).trans (congrArg (x_iload 1) ((xe_aaload).trans (congrArg (x_aaload) ((xe_g0 (kk := 102) rfl tl_2_7).trans (congrArg (x_g0 102 7 (-1) 7) (xe_goto 25)))))))))))))))
theorem bk_X10_officialOf_23 : ck_ fX10 (some .int) cX10_officialOf 23 [.iconst (-2), .ireturn] 26 = true := qck_r (nn_ _) (by decide +kernel)
theorem bs_X10_officialOf_23 {P : Zt → Option Zv → Prop} (K : Int → Zl → List Zv → Zt → Prop) : sx_ K P [.iconst (-2), .ireturn] 26 = x_iconst (-2) (x_ireturn P) := ((xe_iconst (-2)).trans (congrArg (x_iconst (-2)) (xe_ireturn)))
theorem bk_X10_officialOf_25 : ck_ fX10 (some .int) cX10_officialOf 25 [.ireturn] 26 = true := qck_r (nn_ _) (by decide +kernel)
theorem bs_X10_officialOf_25 {P : Zt → Option Zv → Prop} (K : Int → Zl → List Zv → Zt → Prop) : sx_ K P [.ireturn] 26 = x_ireturn P := (xe_ireturn)
abbrev po_X10_officialOf (T : Zt) (m : Int) : Zt → Option Zv → Prop := fun T' r => T = T' ∧ ∃ x : Int, r = some (vI x) ∧ (True)
set_option maxHeartbeats 4000000 in
theorem ct_X10_officialOf {T : Zt} {m : Int} (hka : KA_ T) : Ct_ yX10_officialOf zX10_officialOf T [vR 110 0, vI m] (po_X10_officialOf T m) := by
  refine ct_of pn_10 rfl rfl (Nat.le_of_ble_eq_true rfl) (fun hT hav => ?_)
  have hr_m : -2147483648 ≤ m ∧ m ≤ 2147483647 := hav (vI m) (List.mem_cons_of_mem _ List.mem_cons_self)
  have hz : zX10_officialOf.2.2.2.1 = some .boolean → ∀ (T' : Zt) (x : Int), po_X10_officialOf T m T' (some (vI x)) → 0 ≤ x ∧ x ≤ 1 := fun h => by cases h
  have hb_matchCount : 0 ≤ T 106 0 4 ∧ T 106 0 4 ≤ 400 := bd_f hT 106 4 tl_6_4 0
  show J_ zX10_officialOf T (po_X10_officialOf T m) 0 0 0 [some (vR 110 0), some (vI m)] [] T
  refine j_blx (F := fX10) tb_X10 (nn_ _) bk_X10_officialOf_0 bs_X10_officialOf_0 hz (fun K hK => ?_)
  refine hK 2 _ [vI m, vR 110 0] T ?_
  refine j_callV (y := yX10_isMatch) (Yc := zX10_isMatch) (rest := []) [vI m] (ct_X10_isMatch (T := T)) cl_X10_195 (qd_c (by decide +kernel)) (nn_ _) rfl (rf_of rfl) (Nat.le_of_ble_eq_true rfl) (Nat.le_of_ble_eq_true rfl) (Nat.le_of_ble_eq_true rfl) rfl ?_
  rintro _ _ ⟨rfl, x1, rfl, hx1⟩
  show J_ zX10_officialOf T (po_X10_officialOf T m) 0 0 5 _ [vI x1] T
  refine j_blx (F := fX10) tb_X10 (nn_ _) bk_X10_officialOf_5 bs_X10_officialOf_5 hz (fun K hK => ?_)
  refine And.intro (fun c2 => ?_) (fun c2 => ?_)
  · replace hx1 := hx1.resolve_left (fun z => absurd (c2.symm.trans z.1) (by decide))
    clear c2
    refine hK 23 _ [] T ?_
    refine j_blx (F := fX10) tb_X10 (nn_ _) bk_X10_officialOf_23 bs_X10_officialOf_23 hz (fun K hK => ?_)
    refine (show po_X10_officialOf T m T (some (vI (-2))) from ?_)
    exact ⟨rfl, _, rfl, by trivial⟩
  · replace hx1 := hx1.resolve_right (fun z => c2 z.1)
    clear c2
    refine ix_i (by omega) ?_
    refine And.intro (fun c3 => ?_) (fun c3 => ?_)
    · exact absurd c3 (hka.2 m (by omega) (by omega))
    · intro b4 b4b
      refine hK 25 _ [vI (T 102 m 7)] T ?_
      refine j_blx (F := fX10) tb_X10 (nn_ _) bk_X10_officialOf_25 bs_X10_officialOf_25 hz (fun K hK => ?_)
      refine (show po_X10_officialOf T m T (some (vI (T 102 m 7))) from ?_)
      exact ⟨rfl, _, rfl, by trivial⟩
abbrev cX10_rule : ByteArray := prog_1_method_6_code
def yX10_rule : MethodName := ⟨RX10, "rule", "(II)I"⟩
def zX10_rule : Zm := (RX10, cX10_rule, 5, (some .int), { frames := 2, cells := 0, slots := 0, locals := 42 })
set_option maxRecDepth 100000 in
theorem cl_X10_107 : cv_ RX10 107 yX10_isCompetition zX10_isCompetition 10 1 := ⟨gi_V (lwq_3 (dqc_m (dqc_m (dqc_m (dqc_m (dqa_m (List.mem_of_getElem? (i := 6) rfl)))))) rfl : Cond.methodLink RX10 107 yX10_isCompetition ∈ lw_g) (lwq_3 (dqc_m (dqc_m (dqc_m (dqc_m (dqa_m (dqa_m (List.mem_of_getElem? (i := 0) rfl))))))) rfl : Cond.instanceMethod yX10_isCompetition ∈ lw_g) (lw_sel 1 rfl : Cond.selects yX10_isCompetition.cls yX10_isCompetition yX10_isCompetition ∈ lw_g) (lwq_1 (List.mem_of_getElem? (i := 1) rfl) rfl : Cond.initialized yX10_isCompetition.cls ∈ lw_g) (lwq_3 (dqc_m (dqc_m (dqc_m (dqc_m (dqa_m (dqa_m (List.mem_of_getElem? (i := 1) rfl))))))) rfl : Cond.code yX10_isCompetition cX10_isCompetition 2 (some .boolean) ∈ lw_g), ⟨nmh_0.1, nmh_0.2, pdq_7⟩, ⟨_, _, rfl⟩⟩
abbrev cX10_deduct : ByteArray := prog_1_method_18_code
def yX10_deduct : MethodName := ⟨RX10, "deduct", "(III)I"⟩
def zX10_deduct : Zm := (RX10, cX10_deduct, 4, (some .int), { frames := 2, cells := 0, slots := 0, locals := 42 })
set_option maxRecDepth 100000 in
theorem cl_X10_247 : cv_ RX10 247 yX6_addDeduction zX6_addDeduction 6 3 := ⟨gi_V (lwq_4 (dqc_m (dqc_m (dqc_m (dqa_m (dqa_m (dqa_m (List.mem_of_getElem? (i := 7) rfl))))))) rfl : Cond.methodLink RX10 247 yX6_addDeduction ∈ lw_g) (lwq_4 (dqc_m (dqc_m (dqc_m (dqc_m (List.mem_of_getElem? (i := 0) rfl))))) rfl : Cond.instanceMethod yX6_addDeduction ∈ lw_g) (lwq_4 (dqc_m (dqc_m (dqc_m (dqc_m (List.mem_of_getElem? (i := 1) rfl))))) rfl : Cond.selects yX6_addDeduction.cls yX6_addDeduction yX6_addDeduction ∈ lw_g) (lwq_1 (List.mem_of_getElem? (i := 4) rfl) rfl : Cond.initialized yX6_addDeduction.cls ∈ lw_g) (lwq_4 (dqc_m (dqc_m (dqc_m (dqc_m (List.mem_of_getElem? (i := 2) rfl))))) rfl : Cond.code yX6_addDeduction cX6_addDeduction 4 none ∈ lw_g), ⟨nmh_6.1, nmh_6.2, pdq_3⟩, ⟨_, _, rfl⟩⟩
abbrev po_X10_deduct (T : Zt) (c cl p : Int) : Zt → Option Zv → Prop := fun T' r => ∃ x : Int, r = some (vI x) ∧ fr_ [(106, [6]), (527, []), (528, []), (529, []), (530, [])] T T' ∧ (x = x)
