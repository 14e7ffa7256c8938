-- static rows and texts, which no method writes
section JS
variable {Y Yc : Zm} {T0 T : Zt} {P : Zt → Option Zv → Prop} {bc bs : Nat} {pc : Int} {ls : Zl} {st rest : List Zv} {y : MethodName} {Qp : Zt → Option Zv → Prop}
theorem sa_b : ∀ i, i < 3 → ∀ x, x < 16 → 0 ≤ (sa_ i).getD x 0 ∧ (sa_ i).getD x 0 ≤ 999 := by decide
theorem j_gs81 {idx i : Nat} (hp : 0 ≤ pc) (hi : i < 3) (hlk : Cond.fieldLink Y.1 idx "SportsHouse$RuleText" (sn_ i) "[I" ∈ lw_g) (hd : decode Y.2.1 pc.toNat = .ok (.getstatic idx, 3)) (kk : J_ Y T0 P bc bs (pc + 3) ls (vR 81 (i : Int) :: st) T) : J_ Y T0 P bc bs pc ls st T := by
  intro l p e s m args below meth c D cA ad0 A X ad H locs cells slots lsC hc hs hR hS hB hT hL hl hln
  have hz := (X.2.2.2.2.2.2.2.2.2.2.1.1 i hi).1
  have k2 := kk l p e s m args below meth c D cA ad0 A X ad H locs cells slots lsC hc hs hR hS hB hT (ok_push (Or.inl (by omega)) hL) hl hln
  rw [show (pc + 3).toNat = pc.toNat + 3 by omega] at k2
  have ea : ad 81 (i : Int) = ad0 81 (i : Int) := hB.2 81 _ (Or.inl (by omega))
  refine va_gets X.1 X.2.1 hz hS X.2.2.2.2.2.2.1 (X.2.2.2.2.2.1 _ hlk) (fun _ h => h) hd ?_
  rw [← ea]
  exact k2
theorem j_ld81 {i : Nat} {x : Int} (hp : 0 ≤ pc) (hi : i < 3) (h1 : 0 ≤ x) (h2 : x < 16) (hd : decode Y.2.1 pc.toNat = .ok (.iaload, 1)) (kk : J_ Y T0 P bc bs (pc + 1) ls (vI ((sa_ i).getD x.toNat 0) :: st) T) : J_ Y T0 P bc bs pc ls (vI x :: vR 81 (i : Int) :: st) T := by
  intro l p e s m args below meth c D cA ad0 A X ad H locs cells slots lsC hc hs hR hS hB hT hL hl hln
  have hz := (X.2.2.2.2.2.2.2.2.2.2.1.1 i hi).2
  have hb := sa_b i hi x.toNat (by omega)
  have k2 := kk l p e s m args below meth c D cA ad0 A X ad H locs cells slots lsC hc hs hR hS hB hT (ok_push (show ok_v T (vI _) from ⟨by omega, by omega⟩) (ok_tail (ok_tail hL))) hl hln
  rw [show (pc + 1).toNat = pc.toNat + 1 by omega] at k2
  have ea : ad 81 (i : Int) = ad0 81 (i : Int) := hB.2 81 _ (Or.inl (by omega))
  have hcl := i3_cl h1 (show x ≤ 2147483647 by omega)
  rw [← ea] at hz
  refine va_ti X.1 X.2.1 hz hS (i3_in h1 (show x < 16 by omega) (by omega)) (v := .int (Int32.ofInt ((sa_ i).getD x.toNat 0))) (by rw [show (Int32.ofInt x).toNatClampNeg = x.toNat by omega]) hd ?_
  exact k2
theorem j_ldcS {idx i : Nat} (hp : 0 ≤ pc) (hY : Y.1 = "SportsHouse$RuleText") (hi : i < 3) (hx : (stx_ i).1 = idx) (hd : decode Y.2.1 pc.toNat = .ok (.ldc idx, 2)) (kk : J_ Y T0 P bc bs (pc + 2) ls (vR 82 (i : Int) :: st) T) : J_ Y T0 P bc bs pc ls st T := by
  intro l p e s m args below meth c D cA ad0 A X ad H locs cells slots lsC hc hs hR hS hB hT hL hl hln
  have hz := X.2.2.2.2.2.2.2.2.2.2.1.2.2.1 i hi
  have k2 := kk l p e s m args below meth c D cA ad0 A X ad H locs cells slots lsC hc hs hR hS hB hT (ok_push (Or.inl (by omega)) hL) hl hln
  rw [show (pc + 2).toNat = pc.toNat + 2 by omega] at k2
  have ea : ad 82 (i : Int) = ad0 82 (i : Int) := hB.2 82 _ (Or.inl (by omega))
  rw [← ea, hx] at hz
  have ho := X.2.2.2.2.2.2.1
  rw [hY] at ho
  exact va_ldcS X.1 X.2.1 ho hz hd k2
theorem j_gsC {idx : Nat} (hp : 0 ≤ pc) (hlk : Cond.fieldLink Y.1 idx "java/lang/String" "COMPACT_STRINGS" "Z" ∈ lw_g) (hd : decode Y.2.1 pc.toNat = .ok (.getstatic idx, 3)) (kk : J_ Y T0 P bc bs (pc + 3) ls (vI 1 :: st) T) : J_ Y T0 P bc bs pc ls st T := by
  intro l p e s m args below meth c D cA ad0 A X ad H locs cells slots lsC hc hs hR hS hB hT hL hl hln
  have k2 := kk l p e s m args below meth c D cA ad0 A X ad H locs cells slots lsC hc hs hR hS hB hT (ok_push (show ok_v T (vI 1) from ⟨by omega, by omega⟩) hL) hl hln
  rw [show (pc + 3).toNat = pc.toNat + 3 by omega] at k2
  exact va_gets X.1 X.2.1 X.2.2.2.2.2.2.2.2.2.2.1.2.2.2.1 hS X.2.2.2.2.2.2.1 (X.2.2.2.2.2.1 _ hlk) (fun _ h => h) hd k2
theorem j_gsF {idx : Nat} (hp : 0 ≤ pc) (hlk : Cond.fieldLink Y.1 idx "jdk/internal/util/Preconditions" "SIOOBE_FORMATTER" "Ljava/util/function/BiFunction;" ∈ lw_g) (hd : decode Y.2.1 pc.toNat = .ok (.getstatic idx, 3)) (k0 : J_ Y T0 P bc bs (pc + 3) ls (vN :: st) T) (k1 : J_ Y T0 P bc bs (pc + 3) ls (vR 84 0 :: st) T) : J_ Y T0 P bc bs pc ls st T := by
  intro l p e s m args below meth c D cA ad0 A X ad H locs cells slots lsC hc hs hR hS hB hT hL hl hln
  rcases X.2.2.2.2.2.2.2.2.2.2.1.2.2.2.2 with hz | hz
  · have k2 := k0 l p e s m args below meth c D cA ad0 A X ad H locs cells slots lsC hc hs hR hS hB hT (ok_push trivial hL) hl hln
    rw [show (pc + 3).toNat = pc.toNat + 3 by omega] at k2
    exact va_gets X.1 X.2.1 hz hS X.2.2.2.2.2.2.1 (X.2.2.2.2.2.1 _ hlk) (fun _ h => h) hd k2
  · have k2 := k1 l p e s m args below meth c D cA ad0 A X ad H locs cells slots lsC hc hs hR hS hB hT (ok_push (Or.inl (by omega)) hL) hl hln
    rw [show (pc + 3).toNat = pc.toNat + 3 by omega] at k2
    have ea : ad 84 0 = ad0 84 0 := hB.2 84 _ (Or.inl (by omega))
    refine va_gets X.1 X.2.1 hz hS X.2.2.2.2.2.2.1 (X.2.2.2.2.2.1 _ hlk) (fun _ h => h) hd ?_
    rw [← ea]
    exact k2
theorem j_gfC {idx i : Nat} (hp : 0 ≤ pc) (hi : i < 3) (hlk : Cond.fieldLink Y.1 idx "java/lang/String" "coder" "B" ∈ lw_g) (hd : decode Y.2.1 pc.toNat = .ok (.getfield idx, 3)) (kk : J_ Y T0 P bc bs (pc + 3) ls (vI 0 :: st) T) : J_ Y T0 P bc bs pc ls (vR 82 (i : Int) :: st) T := by
  intro l p e s m args below meth c D cA ad0 A X ad H locs cells slots lsC hc hs hR hS hB hT hL hl hln
  have hz := (X.2.2.2.2.2.2.2.2.2.2.1.2.1.1 i hi).2.1
  have k2 := kk l p e s m args below meth c D cA ad0 A X ad H locs cells slots lsC hc hs hR hS hB hT (ok_push (show ok_v T (vI 0) from ⟨by omega, by omega⟩) (ok_tail hL)) hl hln
  rw [show (pc + 3).toNat = pc.toNat + 3 by omega] at k2
  have ea : ad 82 (i : Int) = ad0 82 (i : Int) := hB.2 82 _ (Or.inl (by omega))
  dsimp only at hz
  rw [show ad0 82 (i : Int) = ad 82 (i : Int) from ea.symm] at hz
  exact vk_getf X.1 X.2.1 hz hS X.2.2.2.2.2.2.1 (X.2.2.2.2.2.1 _ hlk) (fun _ h => h) hd k2
theorem j_gfV {idx i : Nat} (hp : 0 ≤ pc) (hi : i < 3) (hlk : Cond.fieldLink Y.1 idx "java/lang/String" "value" "[B" ∈ lw_g) (hd : decode Y.2.1 pc.toNat = .ok (.getfield idx, 3)) (kk : J_ Y T0 P bc bs (pc + 3) ls (vR 83 (i : Int) :: st) T) : J_ Y T0 P bc bs pc ls (vR 82 (i : Int) :: st) T := by
  intro l p e s m args below meth c D cA ad0 A X ad H locs cells slots lsC hc hs hR hS hB hT hL hl hln
  have hz := (X.2.2.2.2.2.2.2.2.2.2.1.2.1.1 i hi).2.2.1
  have k2 := kk l p e s m args below meth c D cA ad0 A X ad H locs cells slots lsC hc hs hR hS hB hT (ok_push (Or.inl (by omega)) (ok_tail hL)) hl hln
  rw [show (pc + 3).toNat = pc.toNat + 3 by omega] at k2
  have ea : ad 82 (i : Int) = ad0 82 (i : Int) := hB.2 82 _ (Or.inl (by omega))
  have eb : ad 83 (i : Int) = ad0 83 (i : Int) := hB.2 83 _ (Or.inl (by omega))
  dsimp only at hz
  rw [show ad0 82 (i : Int) = ad 82 (i : Int) from ea.symm, show ad0 83 (i : Int) = ad 83 (i : Int) from eb.symm] at hz
  exact vk_getf X.1 X.2.1 hz hS X.2.2.2.2.2.2.1 (X.2.2.2.2.2.1 _ hlk) (fun _ h => h) hd k2
theorem j_len83 {i : Nat} {n : Int} (hp : 0 ≤ pc) (hi : i < 3) (hn : ((sle_.getD i 0 : Nat) : Int) = n) (hb : n ≤ 1000) (hd : decode Y.2.1 pc.toNat = .ok (.arraylength, 1)) (kk : J_ Y T0 P bc bs (pc + 1) ls (vI n :: st) T) : J_ Y T0 P bc bs pc ls (vR 83 (i : Int) :: st) T := by
  intro l p e s m args below meth c D cA ad0 A X ad H locs cells slots lsC hc hs hR hS hB hT hL hl hln
  have hz := (X.2.2.2.2.2.2.2.2.2.2.1.2.1.1 i hi).2.2.2
  have k2 := kk l p e s m args below meth c D cA ad0 A X ad H locs cells slots lsC hc hs hR hS hB hT (ok_push (show ok_v T (vI n) from ⟨by omega, by omega⟩) (ok_tail hL)) hl hln
  rw [show (pc + 1).toNat = pc.toNat + 1 by omega] at k2
  have eb : ad 83 (i : Int) = ad0 83 (i : Int) := hB.2 83 _ (Or.inl (by omega))
  dsimp only at hz
  rw [show ad0 83 (i : Int) = ad 83 (i : Int) from eb.symm] at hz
  refine va_tlen X.1 X.2.1 hz hS (v := Int32.ofInt n) ?_ hd k2
  rw [← hn]
  rfl
theorem j_ba83 {i : Nat} {x n : Int} (hp : 0 ≤ pc) (hi : i < 3) (hn : ((sle_.getD i 0 : Nat) : Int) = n) (h1 : 0 ≤ x) (h2 : x < n) (hb : n ≤ 1000) (hv : ∀ k, k < 1000 → Int32.ofInt (((sby_.getD i []).getD k 0).toInt) = (sby_.getD i []).getD k 0 ∧ 0 ≤ ((sby_.getD i []).getD k 0).toInt ∧ ((sby_.getD i []).getD k 0).toInt ≤ 127) (hd : decode Y.2.1 pc.toNat = .ok (.baload, 1)) (kk : J_ Y T0 P bc bs (pc + 1) ls (vI ((sby_.getD i []).getD x.toNat 0).toInt :: st) T) : J_ Y T0 P bc bs pc ls (vI x :: vR 83 (i : Int) :: st) T := by
  intro l p e s m args below meth c D cA ad0 A X ad H locs cells slots lsC hc hs hR hS hB hT hL hl hln
  have hz := (X.2.2.2.2.2.2.2.2.2.2.1.2.1.1 i hi).2.2.2
  have hw := hv x.toNat (by omega)
  have k2 := kk l p e s m args below meth c D cA ad0 A X ad H locs cells slots lsC hc hs hR hS hB hT (ok_push (show ok_v T (vI _) from ⟨by omega, by omega⟩) (ok_tail (ok_tail hL))) hl hln
  rw [show (pc + 1).toNat = pc.toNat + 1 by omega] at k2
  have eb : ad 83 (i : Int) = ad0 83 (i : Int) := hB.2 83 _ (Or.inl (by omega))
  have hcl := i3_cl h1 (show x ≤ 2147483647 by omega)
  dsimp only at hz
  rw [show ad0 83 (i : Int) = ad 83 (i : Int) from eb.symm] at hz
  have hin := i3_in h1 (show x < ((sle_.getD i 0 : Nat) : Int) by omega) (by omega)
  rw [Int.toNat_natCast] at hin
  refine va_tb X.1 X.2.1 hz hS hin (v := .int (Int32.ofInt (((sby_.getD i []).getD x.toNat 0).toInt))) (by rw [show (Int32.ofInt x).toNatClampNeg = x.toNat by omega, hw.1]) hd k2
theorem i2c_b : ∀ n : Nat, n < 128 → ((Int32.ofInt (n : Int)).toUInt32 % 65536).toInt32 = Int32.ofInt (n : Int) := by decide +kernel
theorem nar_b : ∀ n : Nat, n < 128 → narrow .char (.int (Int32.ofInt (n : Int))) = .int (Int32.ofInt (n : Int)) ∧ narrow .byte (.int (Int32.ofInt (n : Int))) = .int (Int32.ofInt (n : Int)) := by decide +kernel
theorem j_i2c {x : Int} (hp : 0 ≤ pc) (h : 0 ≤ x ∧ x ≤ 127) (hd : decode Y.2.1 pc.toNat = .ok (.i2c, 1)) (kk : J_ Y T0 P bc bs (pc + 1) ls (vI x :: st) T) : J_ Y T0 P bc bs pc ls (vI x :: st) T := by
  intro l p e s m args below meth c D cA ad0 A X ad H locs cells slots lsC hc hs hR hS hB hT hL hl hln
  have k2 := kk l p e s m args below meth c D cA ad0 A X ad H locs cells slots lsC hc hs hR hS hB hT hL hl hln
  rw [show (pc + 1).toNat = pc.toNat + 1 by omega] at k2
  have h1 := i2c_b x.toNat (by omega)
  rw [show ((x.toNat : Nat) : Int) = x by omega] at h1
  exact lv_i2c X.1 X.2.1 hd h1 k2
theorem j_iretN {x : Int} (hr : Y.2.2.2.1 = some .char ∨ Y.2.2.2.1 = some .byte) (h : 0 ≤ x ∧ x ≤ 127) (hd : decode Y.2.1 pc.toNat = .ok (.ireturn, 1)) (k : P T (some (vI x))) : J_ Y T0 P bc bs pc ls [vI x] T := by
  intro l p e' s m args below meth c D cA ad0 A X ad H locs cells slots lsC hc hs hR hS hB hT hL hl hn
  refine W.widen (k := Y.2.2.2.2.cells) (n := Y.2.2.2.2.slots) (by omega) (by omega) ?_
  have hq : ∀ t : State, t.heap = H → s.WarmedH t.vm → Qc_ D cA ad0 T0 A P args s (.returned (some (.int (Int32.ofInt x)))) t := fun t ht _ => ⟨⟨T, ad, some (vI x), rfl, k, hT, fun v hv => by cases hv; exact ok_head hL, by rw [ht]; exact hR, hB⟩, hS.F ht⟩
  have h1 := nar_b x.toNat (by omega)
  rw [show ((x.toNat : Nat) : Int) = x by omega] at h1
  rcases hr with hr | hr
  · exact W.zret (ty := .char) X.1 X.2.1 (X.2.2.2.1.trans hr) h1.1 hq hS.2.2 hd X.2.2.2.2.1
  · exact W.zret (ty := .byte) X.1 X.2.1 (X.2.2.2.1.trans hr) h1.2 hq hS.2.2 hd X.2.2.2.2.1
/-- a call of a text's method -/
def ck82_ (own : String) (idx : Nat) (y : MethodName) (Yc : Zm) (n : Nat) : Prop := GoodIn lw_g (wsV own idx y.cls y (.code y Yc.2.1 Yc.2.2.1 Yc.2.2.2.1 :: lw_g)) ∧ (y.cls ≠ "java/lang/invoke/MethodHandle" ∧ y.cls ≠ "java/lang/invoke/VarHandle" ∧ (parseMethodDescriptor y.desc).map (fun d => d.parameters.length) = some n) ∧ y.cls = "java/lang/String"
theorem j_callK {idx n i : Nat} (as : List Zv) (hi : i < 3) (hC : Ct_ y Yc T (vR 82 (i : Int) :: as) Qp) (hcv : ck82_ Y.1 idx y Yc n) (hd : decode Y.2.1 pc.toNat = .ok (.invokevirtual idx, 3)) (hp : 0 ≤ pc) (hn : as.length = n) (hrm : rf_ Yc Y = true) (hrest : rest.length ≤ 4) (hmc : Yc.2.2.2.2.cells ≤ bc) (hms : Yc.2.2.2.2.slots ≤ bs) {st0 : List Zv} (hst : st0 = as.reverse ++ vR 82 (i : Int) :: rest) (kk : ∀ (T' : Zt) (r : Option Zv), Qp T' r → J_ Y T0 P (bc - Yc.2.2.2.2.cells) (bs - Yc.2.2.2.2.slots) (pc + 3) ls (r.toList ++ rest) T') : J_ Y T0 P bc bs pc ls st0 T := by
  subst hst
  intro l p e s m args below meth c D cA ad0 A X ad H locs cells slots lsC hc hs hR hS hB hT hL hl hln
  obtain ⟨hG, hdd, hcs⟩ := hcv
  simp only [rf_, Bool.and_eq_true, decide_eq_true_eq] at hrm
  have hLr : ok_l T ls rest := ⟨hL.1, fun v hv => hL.2 v (by simp [hv])⟩
  have hAA : ∀ q, A_ ad T H.size q → A q := by
    rintro q (⟨k, i, ha, rfl⟩ | h)
    · exact Rp_in hR ha
    · exact X.2.2.2.2.2.2.2.2.2.1 q (Nat.le_trans hS.1 h)
  have hrc := vk_recv X.2.2.2.2.2.2.2.2.2.2.1.2.1 hi hS
  have ea : ad 82 (i : Int) = ad0 82 (i : Int) := hB.2 82 _ (Or.inl (by omega))
  rw [show ad0 82 (i : Int) = ad 82 (i : Int) from ea.symm, ← hcs] at hrc
  refine j_back X hc hs hR hS hB hLr hl hln hp hmc hms (va_runV (As := as.map (en_v ad)) (rest := rest.map (en_v ad)) (b := ad 82 (i : Int)) ⟨X.1, X.2.1, X.2.2.1, X.2.2.2.2.2.2.1, X.2.2.2.2.2.1⟩ (hC l D cA ad H.size) (cwV n X.2.2.2.2.2.1 hG rfl rfl rfl ⟨rfl, hdd⟩ hrm) ⟨pc_blind, hrc, fun U hU hW => ⟨rfl, by rw [hU], by rw [hU]; exact Rp_A hR (fun _ _ _ _ => trivial), va_K.moved hW.alike X.2.2.2.2.2.2.2.1, ex_warm hW X.2.2.2.2.2.2.2.2.1, se_call X.2.2.2.2.2.2.2.2.2.2.1 hS hAA hU hW (fun k i hk => hB.2 k i (Or.inl hk)), hT, fun v hv => hL.2 v ?_⟩⟩ rfl (by rw [List.length_map]; exact hn) (hl.1) ?_ (lv_room ?_) hd ⟨by omega, by omega⟩) (fun T' r h => kk T' r h)
  · rcases List.mem_cons.mp hv with rfl | h
    · simp
    · simp [h]
  · show List.map (en_v ad) (as.reverse ++ vR 82 (i : Int) :: rest) = _
    rw [List.map_append, List.map_reverse, List.map_cons]
    rfl
  · have := en_sum (ad := ad) rest
    omega
end JS

