-- static rows and texts, which no method writes
section JS
variable {Y Yc : Zm} {T0 T : Zt} {P : Zt → Option Zv → Prop} {bc bs : Nat} {pc : Int} {ls : Zl} {st rest : List Zv} {y : MethodName} {Qp : Zt → Option Zv → Prop}
theorem sa_b : ∀ i, i < 3 → ∀ x, x < 16 → 0 ≤ (sa_ i).getD x 0 ∧ (sa_ i).getD x 0 ≤ 999 := by decide
theorem j_gs81 {idx i : Nat} (hp : 0 ≤ pc) (hi : i < 3) (hlk : Cond.fieldLink Y.1 idx "SportsHouse$RuleText" (sn_ i) "[I" ∈ lw_g) (hd : decode Y.2.1 pc.toNat = .ok (.getstatic idx, 3)) (kk : J_ Y T0 P bc bs (pc + 3) ls (vR 81 (i : Int) :: st) T) : J_ Y T0 P bc bs pc ls st T := by
  intro l p e s m args below meth c D cA ad0 A X ad H locs cells slots lsC hc hs hR hS hB hT hL hl hln
  have hz := (X.2.2.2.2.2.2.2.2.2.2.1.1 i hi).1
  have k2 := kk l p e s m args below meth c D cA ad0 A X ad H locs cells slots lsC hc hs hR hS hB hT (ok_push (Or.inl (by omega)) hL) hl hln
  rw [show (pc + 3).toNat = pc.toNat + 3 by omega] at k2
  have ea : ad 81 (i : Int) = ad0 81 (i : Int) := hB.2 81 _ (Or.inl (by omega))
  refine va_gets X.1 X.2.1 hz hS X.2.2.2.2.2.2.1 (X.2.2.2.2.2.1 _ hlk) (fun _ h => h) hd ?_
  rw [← ea]
  exact k2
theorem j_ld81 {i : Nat} {x : Int} (hp : 0 ≤ pc) (hi : i < 3) (h1 : 0 ≤ x) (h2 : x < 16) (hd : decode Y.2.1 pc.toNat = .ok (.iaload, 1)) (kk : J_ Y T0 P bc bs (pc + 1) ls (vI ((sa_ i).getD x.toNat 0) :: st) T) : J_ Y T0 P bc bs pc ls (vI x :: vR 81 (i : Int) :: st) T := by
  intro l p e s m args below meth c D cA ad0 A X ad H locs cells slots lsC hc hs hR hS hB hT hL hl hln
  have hz := (X.2.2.2.2.2.2.2.2.2.2.1.1 i hi).2
  have hb := sa_b i hi x.toNat (by omega)
  have k2 := kk l p e s m args below meth c D cA ad0 A X ad H locs cells slots lsC hc hs hR hS hB hT (ok_push (show ok_v T (vI _) from ⟨by omega, by omega⟩) (ok_tail (ok_tail hL))) hl hln
  rw [show (pc + 1).toNat = pc.toNat + 1 by omega] at k2
  have ea : ad 81 (i : Int) = ad0 81 (i : Int) := hB.2 81 _ (Or.inl (by omega))
  have hcl := i3_cl h1 (show x ≤ 2147483647 by omega)
  rw [← ea] at hz
  refine va_ti X.1 X.2.1 hz hS (i3_in h1 (show x < 16 by omega) (by omega)) (v := .int (Int32.ofInt ((sa_ i).getD x.toNat 0))) (by rw [show (Int32.ofInt x).toNatClampNeg = x.toNat by omega]) hd ?_
  exact k2
theorem j_ldcS {idx i : Nat} (hp : 0 ≤ pc) (hY : Y.1 = "SportsHouse$RuleText") (hi : i < 3) (hx : (stx_ i).1 = idx) (hd : decode Y.2.1 pc.toNat = .ok (.ldc idx, 2)) (kk : J_ Y T0 P bc bs (pc + 2) ls (vR 82 (i : Int) :: st) T) : J_ Y T0 P bc bs pc ls st T := by
  intro l p e s m args below meth c D cA ad0 A X ad H locs cells slots lsC hc hs hR hS hB hT hL hl hln
  have hz := X.2.2.2.2.2.2.2.2.2.2.1.2.2.1 i hi
  have k2 := kk l p e s m args below meth c D cA ad0 A X ad H locs cells slots lsC hc hs hR hS hB hT (ok_push (Or.inl (by omega)) hL) hl hln
  rw [show (pc + 2).toNat = pc.toNat + 2 by omega] at k2
  have ea : ad 82 (i : Int) = ad0 82 (i : Int) := hB.2 82 _ (Or.inl (by omega))
  rw [← ea, hx] at hz
  have ho := X.2.2.2.2.2.2.1
  rw [hY] at ho
  exact va_ldcS X.1 X.2.1 ho hz hd k2
theorem j_gsC {idx : Nat} (hp : 0 ≤ pc) (hlk : Cond.fieldLink Y.1 idx "java/lang/String" "COMPACT_STRINGS" "Z" ∈ lw_g) (hd : decode Y.2.1 pc.toNat = .ok (.getstatic idx, 3)) (kk : J_ Y T0 P bc bs (pc + 3) ls (vI 1 :: st) T) : J_ Y T0 P bc bs pc ls st T := by
  intro l p e s m args below meth c D cA ad0 A X ad H locs cells slots lsC hc hs hR hS hB hT hL hl hln
  have k2 := kk l p e s m args below meth c D cA ad0 A X ad H locs cells slots lsC hc hs hR hS hB hT (ok_push (show ok_v T (vI 1) from ⟨by omega, by omega⟩) hL) hl hln
  rw [show (pc + 3).toNat = pc.toNat + 3 by omega] at k2
  exact va_gets X.1 X.2.1 X.2.2.2.2.2.2.2.2.2.2.1.2.2.2.1 hS X.2.2.2.2.2.2.1 (X.2.2.2.2.2.1 _ hlk) (fun _ h => h) hd k2
theorem j_gsF {idx : Nat} (hp : 0 ≤ pc) (hlk : Cond.fieldLink Y.1 idx "jdk/internal/util/Preconditions" "SIOOBE_FORMATTER" "Ljava/util/function/BiFunction;" ∈ lw_g) (hd : decode Y.2.1 pc.toNat = .ok (.getstatic idx, 3)) (k0 : J_ Y T0 P bc bs (pc + 3) ls (vN :: st) T) (k1 : J_ Y T0 P bc bs (pc + 3) ls (vR 84 0 :: st) T) : J_ Y T0 P bc bs pc ls st T := by
  intro l p e s m args below meth c D cA ad0 A X ad H locs cells slots lsC hc hs hR hS hB hT hL hl hln
  rcases X.2.2.2.2.2.2.2.2.2.2.1.2.2.2.2 with hz | hz
  · have k2 := k0 l p e s m args below meth c D cA ad0 A X ad H locs cells slots lsC hc hs hR hS hB hT (ok_push trivial hL) hl hln
    rw [show (pc + 3).toNat = pc.toNat + 3 by omega] at k2
    exact va_gets X.1 X.2.1 hz hS X.2.2.2.2.2.2.1 (X.2.2.2.2.2.1 _ hlk) (fun _ h => h) hd k2
  · have k2 := k1 l p e s m args below meth c D cA ad0 A X ad H locs cells slots lsC hc hs hR hS hB hT (ok_push (Or.inl (by omega)) hL) hl hln
    rw [show (pc + 3).toNat = pc.toNat + 3 by omega] at k2
    have ea : ad 84 0 = ad0 84 0 := hB.2 84 _ (Or.inl (by omega))
    refine va_gets X.1 X.2.1 hz hS X.2.2.2.2.2.2.1 (X.2.2.2.2.2.1 _ hlk) (fun _ h => h) hd ?_
    rw [← ea]
    exact k2
theorem j_gfC {idx i : Nat} (hp : 0 ≤ pc) (hi : i < 3) (hlk : Cond.fieldLink Y.1 idx "java/lang/String" "coder" "B" ∈ lw_g) (hd : decode Y.2.1 pc.toNat = .ok (.getfield idx, 3)) (kk : J_ Y T0 P bc bs (pc + 3) ls (vI 0 :: st) T) : J_ Y T0 P bc bs pc ls (vR 82 (i : Int) :: st) T := by
  intro l p e s m args below meth c D cA ad0 A X ad H locs cells slots lsC hc hs hR hS hB hT hL hl hln
  have hz := (X.2.2.2.2.2.2.2.2.2.2.1.2.1.1 i hi).2.1
  have k2 := kk l p e s m args below meth c D cA ad0 A X ad H locs cells slots lsC hc hs hR hS hB hT (ok_push (show ok_v T (vI 0) from ⟨by omega, by omega⟩) (ok_tail hL)) hl hln
  rw [show (pc + 3).toNat = pc.toNat + 3 by omega] at k2
  have ea : ad 82 (i : Int) = ad0 82 (i : Int) := hB.2 82 _ (Or.inl (by omega))
  dsimp only at hz
  rw [show ad0 82 (i : Int) = ad 82 (i : Int) from ea.symm] at hz
  exact vk_getf X.1 X.2.1 hz hS X.2.2.2.2.2.2.1 (X.2.2.2.2.2.1 _ hlk) (fun _ h => h) hd k2
theorem j_gfV {idx i : Nat} (hp : 0 ≤ pc) (hi : i < 3) (hlk : Cond.fieldLink Y.1 idx "java/lang/String" "value" "[B" ∈ lw_g) (hd : decode Y.2.1 pc.toNat = .ok (.getfield idx, 3)) (kk : J_ Y T0 P bc bs (pc + 3) ls (vR 83 (i : Int) :: st) T) : J_ Y T0 P bc bs pc ls (vR 82 (i : Int) :: st) T := by
  intro l p e s m args below meth c D cA ad0 A X ad H locs cells slots lsC hc hs hR hS hB hT hL hl hln
  have hz := (X.2.2.2.2.2.2.2.2.2.2.1.2.1.1 i hi).2.2.1
  have k2 := kk l p e s m args below meth c D cA ad0 A X ad H locs cells slots lsC hc hs hR hS hB hT (ok_push (Or.inl (by omega)) (ok_tail hL)) hl hln
  rw [show (pc + 3).toNat = pc.toNat + 3 by omega] at k2
  have ea : ad 82 (i : Int) = ad0 82 (i : Int) := hB.2 82 _ (Or.inl (by omega))
  have eb : ad 83 (i : Int) = ad0 83 (i : Int) := hB.2 83 _ (Or.inl (by omega))
  dsimp only at hz
  rw [show ad0 82 (i : Int) = ad 82 (i : Int) from ea.symm, show ad0 83 (i : Int) = ad 83 (i : Int) from eb.symm] at hz
  exact vk_getf X.1 X.2.1 hz hS X.2.2.2.2.2.2.1 (X.2.2.2.2.2.1 _ hlk) (fun _ h => h) hd k2
theorem j_len83 {i : Nat} {n : Int} (hp : 0 ≤ pc) (hi : i < 3) (hn : ((sle_.getD i 0 : Nat) : Int) = n) (hb : n ≤ 1000) (hd : decode Y.2.1 pc.toNat = .ok (.arraylength, 1)) (kk : J_ Y T0 P bc bs (pc + 1) ls (vI n :: st) T) : J_ Y T0 P bc bs pc ls (vR 83 (i : Int) :: st) T := by
  intro l p e s m args below meth c D cA ad0 A X ad H locs cells slots lsC hc hs hR hS hB hT hL hl hln
  have hz := (X.2.2.2.2.2.2.2.2.2.2.1.2.1.1 i hi).2.2.2
  have k2 := kk l p e s m args below meth c D cA ad0 A X ad H locs cells slots lsC hc hs hR hS hB hT (ok_push (show ok_v T (vI n) from ⟨by omega, by omega⟩) (ok_tail hL)) hl hln
  rw [show (pc + 1).toNat = pc.toNat + 1 by omega] at k2
  have eb : ad 83 (i : Int) = ad0 83 (i : Int) := hB.2 83 _ (Or.inl (by omega))
  dsimp only at hz
  rw [show ad0 83 (i : Int) = ad 83 (i : Int) from eb.symm] at hz
  refine va_tlen X.1 X.2.1 hz hS (v := Int32.ofInt n) ?_ hd k2
  rw [← hn]
  rfl
theorem j_ba83 {i : Nat} {x n : Int} (hp : 0 ≤ pc) (hi : i < 3) (hn : ((sle_.getD i 0 : Nat) : Int) = n) (h1 : 0 ≤ x) (h2 : x < n) (hb : n ≤ 1000) (hv : ∀ k, k < 1000 → Int32.ofInt (((sby_.getD i []).getD k 0).toInt) = (sby_.getD i []).getD k 0 ∧ 0 ≤ ((sby_.getD i []).getD k 0).toInt ∧ ((sby_.getD i []).getD k 0).toInt ≤ 127) (hd : decode Y.2.1 pc.toNat = .ok (.baload, 1)) (kk : J_ Y T0 P bc bs (pc + 1) ls (vI ((sby_.getD i []).getD x.toNat 0).toInt :: st) T) : J_ Y T0 P bc bs pc ls (vI x :: vR 83 (i : Int) :: st) T := by
  intro l p e s m args below meth c D cA ad0 A X ad H locs cells slots lsC hc hs hR hS hB hT hL hl hln
  have hz := (X.2.2.2.2.2.2.2.2.2.2.1.2.1.1 i hi).2.2.2
  have hw := hv x.toNat (by omega)
  have k2 := kk l p e s m args below meth c D cA ad0 A X ad H locs cells slots lsC hc hs hR hS hB hT (ok_push (show ok_v T (vI _) from ⟨by omega, by omega⟩) (ok_tail (ok_tail hL))) hl hln
  rw [show (pc + 1).toNat = pc.toNat + 1 by omega] at k2
  have eb : ad 83 (i : Int) = ad0 83 (i : Int) := hB.2 83 _ (Or.inl (by omega))
  have hcl := i3_cl h1 (show x ≤ 2147483647 by omega)
  dsimp only at hz
  rw [show ad0 83 (i : Int) = ad 83 (i : Int) from eb.symm] at hz
  have hin := i3_in h1 (show x < ((sle_.getD i 0 : Nat) : Int) by omega) (by omega)
  rw [Int.toNat_natCast] at hin
  refine va_tb X.1 X.2.1 hz hS hin (v := .int (Int32.ofInt (((sby_.getD i []).getD x.toNat 0).toInt))) (by rw [show (Int32.ofInt x).toNatClampNeg = x.toNat by omega, hw.1]) hd k2
theorem i2c_b : ∀ n : Nat, n < 128 → ((Int32.ofInt (n : Int)).toUInt32 % 65536).toInt32 = Int32.ofInt (n : Int) := by decide +kernel
theorem nar_b : ∀ n : Nat, n < 128 → narrow .char (.int (Int32.ofInt (n : Int))) = .int (Int32.ofInt (n : Int)) ∧ narrow .byte (.int (Int32.ofInt (n : Int))) = .int (Int32.ofInt (n : Int)) := by decide +kernel
theorem j_i2c {x : Int} (hp : 0 ≤ pc) (h : 0 ≤ x ∧ x ≤ 127) (hd : decode Y.2.1 pc.toNat = .ok (.i2c, 1)) (kk : J_ Y T0 P bc bs (pc + 1) ls (vI x :: st) T) : J_ Y T0 P bc bs pc ls (vI x :: st) T := by
  intro l p e s m args below meth c D cA ad0 A X ad H locs cells slots lsC hc hs hR hS hB hT hL hl hln
  have k2 := kk l p e s m args below meth c D cA ad0 A X ad H locs cells slots lsC hc hs hR hS hB hT hL hl hln
  rw [show (pc + 1).toNat = pc.toNat + 1 by omega] at k2
  have h1 := i2c_b x.toNat (by omega)
  rw [show ((x.toNat : Nat) : Int) = x by omega] at h1
  exact lv_i2c X.1 X.2.1 hd h1 k2
theorem j_iretN {x : Int} (hr : Y.2.2.2.1 = some .char ∨ Y.2.2.2.1 = some .byte) (h : 0 ≤ x ∧ x ≤ 127) (hd : decode Y.2.1 pc.toNat = .ok (.ireturn, 1)) (k : P T (some (vI x))) : J_ Y T0 P bc bs pc ls [vI x] T := by
  intro l p e' s m args below meth c D cA ad0 A X ad H locs cells slots lsC hc hs hR hS hB hT hL hl hn
  refine W.widen (k := Y.2.2.2.2.cells) (n := Y.2.2.2.2.slots) (by omega) (by omega) ?_
  have hq : ∀ t : State, t.heap = H → s.WarmedH t.vm → Qc_ D cA ad0 T0 A P args s (.returned (some (.int (Int32.ofInt x)))) t := fun t ht _ => ⟨⟨T, ad, some (vI x), rfl, k, hT, fun v hv => by cases hv; exact ok_head hL, by rw [ht]; exact hR, hB⟩, hS.F ht⟩
  have h1 := nar_b x.toNat (by omega)
  rw [show ((x.toNat : Nat) : Int) = x by omega] at h1
  rcases hr with hr | hr
  · exact W.zret (ty := .char) X.1 X.2.1 (X.2.2.2.1.trans hr) h1.1 hq hS.2.2 hd X.2.2.2.2.1
  · exact W.zret (ty := .byte) X.1 X.2.1 (X.2.2.2.1.trans hr) h1.2 hq hS.2.2 hd X.2.2.2.2.1
/-- a call of a text's method -/
def ck82_ (own : String) (idx : Nat) (y : MethodName) (Yc : Zm) (n : Nat) : Prop := GoodIn lw_g (wsV own idx y.cls y (.code y Yc.2.1 Yc.2.2.1 Yc.2.2.2.1 :: lw_g)) ∧ (y.cls ≠ "java/lang/invoke/MethodHandle" ∧ y.cls ≠ "java/lang/invoke/VarHandle" ∧ (parseMethodDescriptor y.desc).map (fun d => d.parameters.length) = some n) ∧ y.cls = "java/lang/String"
theorem j_callK {idx n i : Nat} (as : List Zv) (hi : i < 3) (hC : Ct_ y Yc T (vR 82 (i : Int) :: as) Qp) (hcv : ck82_ Y.1 idx y Yc n) (hd : decode Y.2.1 pc.toNat = .ok (.invokevirtual idx, 3)) (hp : 0 ≤ pc) (hn : as.length = n) (hrm : rf_ Yc Y = true) (hrest : rest.length ≤ 4) (hmc : Yc.2.2.2.2.cells ≤ bc) (hms : Yc.2.2.2.2.slots ≤ bs) {st0 : List Zv} (hst : st0 = as.reverse ++ vR 82 (i : Int) :: rest) (kk : ∀ (T' : Zt) (r : Option Zv), Qp T' r → J_ Y T0 P (bc - Yc.2.2.2.2.cells) (bs - Yc.2.2.2.2.slots) (pc + 3) ls (r.toList ++ rest) T') : J_ Y T0 P bc bs pc ls st0 T := by
  subst hst
  intro l p e s m args below meth c D cA ad0 A X ad H locs cells slots lsC hc hs hR hS hB hT hL hl hln
  obtain ⟨hG, hdd, hcs⟩ := hcv
  simp only [rf_, Bool.and_eq_true, decide_eq_true_eq] at hrm
  have hLr : ok_l T ls rest := ⟨hL.1, fun v hv => hL.2 v (by simp [hv])⟩
  have hAA : ∀ q, A_ ad T H.size q → A q := by
    rintro q (⟨k, i, ha, rfl⟩ | h)
    · exact Rp_in hR ha
    · exact X.2.2.2.2.2.2.2.2.2.1 q (Nat.le_trans hS.1 h)
  have hrc := vk_recv X.2.2.2.2.2.2.2.2.2.2.1.2.1 hi hS
  have ea : ad 82 (i : Int) = ad0 82 (i : Int) := hB.2 82 _ (Or.inl (by omega))
  rw [show ad0 82 (i : Int) = ad 82 (i : Int) from ea.symm, ← hcs] at hrc
  refine j_back X hc hs hR hS hB hLr hl hln hp hmc hms (va_runV (As := as.map (en_v ad)) (rest := rest.map (en_v ad)) (b := ad 82 (i : Int)) ⟨X.1, X.2.1, X.2.2.1, X.2.2.2.2.2.2.1, X.2.2.2.2.2.1⟩ (hC l D cA ad H.size) (cwV n X.2.2.2.2.2.1 hG rfl rfl rfl ⟨rfl, hdd⟩ hrm) ⟨pc_blind, hrc, fun U hU hW => ⟨rfl, by rw [hU], by rw [hU]; exact Rp_A hR (fun _ _ _ _ => trivial), va_K.moved hW.alike X.2.2.2.2.2.2.2.1, ex_warm hW X.2.2.2.2.2.2.2.2.1, se_call X.2.2.2.2.2.2.2.2.2.2.1 hS hAA hU hW (fun k i hk => hB.2 k i (Or.inl hk)), hT, fun v hv => hL.2 v ?_⟩⟩ rfl (by rw [List.length_map]; exact hn) (hl.1) ?_ (lv_room ?_) hd ⟨by omega, by omega⟩) (fun T' r h => kk T' r h)
  · rcases List.mem_cons.mp hv with rfl | h
    · simp
    · simp [h]
  · show List.map (en_v ad) (as.reverse ++ vR 82 (i : Int) :: rest) = _
    rw [List.map_append, List.map_reverse, List.map_cons]
    rfl
  · have := en_sum (ad := ad) rest
    omega
end JS
theorem bv_all : ∀ i, i < 3 → ∀ v ∈ sby_.getD i [], 0 ≤ v.toInt ∧ v.toInt ≤ 127 := by decide +kernel
/-- a byte of a text -/
def cb8_ (i : Nat) (x : Int) : Int := ((sby_.getD i []).getD x.toNat 0).toInt
theorem bv_k {i : Nat} (hi : i < 3) (k : Nat) : 0 ≤ ((sby_.getD i []).getD k 0).toInt ∧ ((sby_.getD i []).getD k 0).toInt ≤ 127 := by
  rw [List.getD_eq_getElem?_getD (l := sby_.getD i [])]
  cases h : (sby_.getD i [])[k]? with
  | none => exact ⟨by decide, by decide⟩
  | some v => exact bv_all i hi v (List.mem_of_getElem? h)
theorem cb8_b {i : Nat} (hi : i < 3) (x : Int) : 0 ≤ cb8_ i x ∧ cb8_ i x ≤ 127 := bv_k hi _
theorem an_255 : ∀ n : Nat, n < 128 → an_ (n : Int) 255 = (n : Int) := by decide +kernel
theorem an_25 {x : Int} (h : 0 ≤ x ∧ x ≤ 127) : an_ x 255 = x := by
  have h1 := an_255 x.toNat (by omega)
  rw [show ((x.toNat : Nat) : Int) = x by omega] at h1
  exact h1
abbrev RJ0 : String := "java/lang/String"
def fJ0 : Zf := ([], [], [], [])
theorem tb_J0 : tb_ RJ0 fJ0 := ⟨fun _ h => absurd h List.not_mem_nil, fun _ h => absurd h List.not_mem_nil, fun _ h => absurd h List.not_mem_nil, fun _ h => absurd h List.not_mem_nil⟩
abbrev RJ1 : String := "java/lang/StringLatin1"
def fJ1 : Zf := ([], [], [], [])
theorem tb_J1 : tb_ RJ1 fJ1 := ⟨fun _ h => absurd h List.not_mem_nil, fun _ h => absurd h List.not_mem_nil, fun _ h => absurd h List.not_mem_nil, fun _ h => absurd h List.not_mem_nil⟩
abbrev RJ3 : String := "jdk/internal/util/Preconditions"
def fJ3 : Zf := ([], [], [], [])
theorem tb_J3 : tb_ RJ3 fJ3 := ⟨fun _ h => absurd h List.not_mem_nil, fun _ h => absurd h List.not_mem_nil, fun _ h => absurd h List.not_mem_nil, fun _ h => absurd h List.not_mem_nil⟩
abbrev cJ3_checkIndex_8e157 : ByteArray := prog_22_method_11_code
def yJ3_checkIndex_8e157 : MethodName := ⟨RJ3, "checkIndex", "(IILjava/util/function/BiFunction;)I"⟩
def zJ3_checkIndex_8e157 : Zm := (RJ3, cJ3_checkIndex_8e157, 3, (some .int), { frames := 0, cells := 0, slots := 0, locals := 0 })
theorem bk_J3_checkIndex_8e157_0 : ck_ fJ3 (some .int) cJ3_checkIndex_8e157 0 [.iload 0, .ifCond .lt 9, .iload 0, .iload 1, .if_icmp .lt 16, .aload 2, .iload 0, .iload 1] 12 = true := qck_r (nn_ _) (by decide +kernel)
theorem bs_J3_checkIndex_8e157_0 {P : Zt → Option Zv → Prop} (K : Int → Zl → List Zv → Zt → Prop) : sx_ K P [.iload 0, .ifCond .lt 9, .iload 0, .iload 1, .if_icmp .lt 16, .aload 2, .iload 0, .iload 1] 12 = x_iload 0 (x_ifCond .lt 9 K (x_iload 0 (x_iload 1 (x_if_icmp .lt 16 K (x_aload 2 (x_iload 0 (x_iload 1 (K 12)))))))) := ((xe_iload 0).trans (congrArg (x_iload 0) ((xe_ifCond .lt 9).trans (congrArg (x_ifCond .lt 9 K) ((xe_iload 0).trans (congrArg (x_iload 0) ((xe_iload 1).trans (congrArg (x_iload 1) ((xe_if_icmp .lt 16).trans (congrArg (x_if_icmp .lt 16 K) ((xe_aload 2).trans (congrArg (x_aload 2) ((xe_iload 0).trans (congrArg (x_iload 0) ((xe_iload 1).trans (congrArg (x_iload 1) xe_nil))))))))))))))))
theorem bk_J3_checkIndex_8e157_16 : ck_ fJ3 (some .int) cJ3_checkIndex_8e157 16 [.iload 0, .ireturn] 18 = true := qck_r (nn_ _) (by decide +kernel)
theorem bs_J3_checkIndex_8e157_16 {P : Zt → Option Zv → Prop} (K : Int → Zl → List Zv → Zt → Prop) : sx_ K P [.iload 0, .ireturn] 18 = x_iload 0 (x_ireturn P) := ((xe_iload 0).trans (congrArg (x_iload 0) (xe_ireturn)))
abbrev po_J3_checkIndex_n (T : Zt) (a n : Int) : Zt → Option Zv → Prop := fun T' r => T = T' ∧ r = some (vI (a))
set_option maxHeartbeats 4000000 in
theorem ct_J3_checkIndex_n {T : Zt} {a n : Int} (h1 : 0 ≤ a ∧ a < n) : Ct_ yJ3_checkIndex_8e157 zJ3_checkIndex_8e157 T [vI a, vI n, vN] (po_J3_checkIndex_n T a n) := by
  refine ct_of (by decide) rfl rfl (Nat.le_of_ble_eq_true rfl) (fun hT hav => ?_)
  have hr_a : -2147483648 ≤ a ∧ a ≤ 2147483647 := hav (vI a) (by simp)
  have hr_n : -2147483648 ≤ n ∧ n ≤ 2147483647 := hav (vI n) (by simp)
  have hz : zJ3_checkIndex_8e157.2.2.2.1 = some .boolean → ∀ (T' : Zt) (x : Int), po_J3_checkIndex_n T a n T' (some (vI x)) → 0 ≤ x ∧ x ≤ 1 := fun h => by cases h
  show J_ zJ3_checkIndex_8e157 T (po_J3_checkIndex_n T a n) 0 0 0 [some (vI a), some (vI n), some (vN)] [] T
  refine j_blx (F := fJ3) tb_J3 (nn_ _) bk_J3_checkIndex_8e157_0 bs_J3_checkIndex_8e157_0 hz (fun K hK => ?_)
  refine And.intro (fun c1 => ?_) (fun c1 => ?_)
  · exact absurd c1 (by omega)
  · refine And.intro (fun c2 => ?_) (fun c2 => ?_)
    · refine hK 16 _ [] T ?_
      refine j_blx (F := fJ3) tb_J3 (nn_ _) bk_J3_checkIndex_8e157_16 bs_J3_checkIndex_8e157_16 hz (fun K hK => ?_)
      refine (show po_J3_checkIndex_n T a n T (some (vI a)) from ?_)
      exact ⟨rfl, rfl⟩
    · exact absurd c2 (by omega)
abbrev po_J3_checkIndex_r (T : Zt) (a n : Int) : Zt → Option Zv → Prop := fun T' r => T = T' ∧ r = some (vI (a))
set_option maxHeartbeats 4000000 in
theorem ct_J3_checkIndex_r {T : Zt} {a n : Int} (h1 : 0 ≤ a ∧ a < n) : Ct_ yJ3_checkIndex_8e157 zJ3_checkIndex_8e157 T [vI a, vI n, vR 84 0] (po_J3_checkIndex_r T a n) := by
  refine ct_of (by decide) rfl rfl (Nat.le_of_ble_eq_true rfl) (fun hT hav => ?_)
  have hr_a : -2147483648 ≤ a ∧ a ≤ 2147483647 := hav (vI a) (by simp)
  have hr_n : -2147483648 ≤ n ∧ n ≤ 2147483647 := hav (vI n) (by simp)
  have hz : zJ3_checkIndex_8e157.2.2.2.1 = some .boolean → ∀ (T' : Zt) (x : Int), po_J3_checkIndex_r T a n T' (some (vI x)) → 0 ≤ x ∧ x ≤ 1 := fun h => by cases h
  show J_ zJ3_checkIndex_8e157 T (po_J3_checkIndex_r T a n) 0 0 0 [some (vI a), some (vI n), some (vR 84 0)] [] T
  refine j_blx (F := fJ3) tb_J3 (nn_ _) bk_J3_checkIndex_8e157_0 bs_J3_checkIndex_8e157_0 hz (fun K hK => ?_)
  refine And.intro (fun c1 => ?_) (fun c1 => ?_)
  · exact absurd c1 (by omega)
  · refine And.intro (fun c2 => ?_) (fun c2 => ?_)
    · refine hK 16 _ [] T ?_
      refine j_blx (F := fJ3) tb_J3 (nn_ _) bk_J3_checkIndex_8e157_16 bs_J3_checkIndex_8e157_16 hz (fun K hK => ?_)
      refine (show po_J3_checkIndex_r T a n T (some (vI a)) from ?_)
      exact ⟨rfl, rfl⟩
    · exact absurd c2 (by omega)
abbrev cJ0_checkIndex_df160 : ByteArray := prog_17_method_155_code
def yJ0_checkIndex_df160 : MethodName := ⟨RJ0, "checkIndex", "(II)V"⟩
def zJ0_checkIndex_df160 : Zm := (RJ0, cJ0_checkIndex_df160, 2, none, { frames := 1, cells := 0, slots := 0, locals := 22 })
theorem bk_J0_checkIndex_df160_0 : ck_ fJ0 none cJ0_checkIndex_df160 0 [.iload 0, .iload 1] 2 = true := qck_r (nn_ _) (by decide +kernel)
theorem bs_J0_checkIndex_df160_0 {P : Zt → Option Zv → Prop} (K : Int → Zl → List Zv → Zt → Prop) : sx_ K P [.iload 0, .iload 1] 2 = x_iload 0 (x_iload 1 (K 2)) := ((xe_iload 0).trans (congrArg (x_iload 0) ((xe_iload 1).trans (congrArg (x_iload 1) xe_nil))))
set_option maxRecDepth 100000 in
theorem cl_J0_1059 : cs_ RJ0 1059 yJ3_checkIndex_8e157 zJ3_checkIndex_8e157 3 := ⟨gi_S (lw_b3 21 (by decide +kernel) rfl : Cond.methodLink RJ0 1059 yJ3_checkIndex_8e157 ∈ lw_g) (lw_b3 22 (by decide +kernel) rfl : Cond.static yJ3_checkIndex_8e157 ∈ lw_g) (lw_b1 13 (by decide +kernel) rfl : Cond.initialized yJ3_checkIndex_8e157.cls ∈ lw_g) (lw_b3 23 rfl rfl : Cond.code yJ3_checkIndex_8e157 cJ3_checkIndex_8e157 3 (some .int) ∈ lw_g), ⟨by decide, by decide, by decide +kernel⟩⟩
theorem bk_J0_checkIndex_df160_8 : ck_ fJ0 none cJ0_checkIndex_df160 8 [.pop, .return_] 10 = true := qck_r (nn_ _) (by decide +kernel)
theorem bs_J0_checkIndex_df160_8 {P : Zt → Option Zv → Prop} (K : Int → Zl → List Zv → Zt → Prop) : sx_ K P [.pop, .return_] 10 = x_pop (x_return_ P) := ((xe_pop).trans (congrArg (x_pop) (xe_return_)))
abbrev po_J0_checkIndex_df160 (T : Zt) (a n : Int) : Zt → Option Zv → Prop := fun T' r => T = T' ∧ r = none
set_option maxHeartbeats 4000000 in
theorem ct_J0_checkIndex_df160 {T : Zt} {a n : Int} (h1 : 0 ≤ a ∧ a < n) : Ct_ yJ0_checkIndex_df160 zJ0_checkIndex_df160 T [vI a, vI n] (po_J0_checkIndex_df160 T a n) := by
  refine ct_of (by decide) rfl rfl (Nat.le_of_ble_eq_true rfl) (fun hT hav => ?_)
  have hr_a : -2147483648 ≤ a ∧ a ≤ 2147483647 := hav (vI a) (by simp)
  have hr_n : -2147483648 ≤ n ∧ n ≤ 2147483647 := hav (vI n) (by simp)
  have hz : zJ0_checkIndex_df160.2.2.2.1 = some .boolean → ∀ (T' : Zt) (x : Int), po_J0_checkIndex_df160 T a n T' (some (vI x)) → 0 ≤ x ∧ x ≤ 1 := fun h => by cases h
  show J_ zJ0_checkIndex_df160 T (po_J0_checkIndex_df160 T a n) 0 0 0 [some (vI a), some (vI n)] [] T
  refine j_blx (F := fJ0) tb_J0 (nn_ _) bk_J0_checkIndex_df160_0 bs_J0_checkIndex_df160_0 hz (fun K hK => ?_)
  refine hK 2 _ [vI n, vI a] T ?_
  refine j_gsF (pc := 2) (by decide) (lw_b3 19 (by decide +kernel) rfl : Cond.fieldLink RJ0 1053 "jdk/internal/util/Preconditions" "SIOOBE_FORMATTER" "Ljava/util/function/BiFunction;" ∈ lw_g) (by decide +kernel) ?_ ?_
  · show J_ zJ0_checkIndex_df160 T (po_J0_checkIndex_df160 T a n) 0 0 5 _ [vN, vI n, vI a] T
    refine j_callS (y := yJ3_checkIndex_8e157) (Yc := zJ3_checkIndex_8e157) (rest := []) [vI a, vI n, vN] (ct_J3_checkIndex_n (T := T) (by omega)) cl_J0_1059 (qd_c (by decide +kernel)) (nn_ _) rfl (rf_of rfl) (Nat.le_of_ble_eq_true rfl) (Nat.le_of_ble_eq_true rfl) (Nat.le_of_ble_eq_true rfl) rfl ?_
    rintro _ _ ⟨rfl, rfl⟩
    show J_ zJ0_checkIndex_df160 T (po_J0_checkIndex_df160 T a n) 0 0 8 _ [vI a] T
    refine j_blx (F := fJ0) tb_J0 (nn_ _) bk_J0_checkIndex_df160_8 bs_J0_checkIndex_df160_8 hz (fun K hK => ?_)
    refine (show po_J0_checkIndex_df160 T a n T (none) from ?_)
    exact ⟨rfl, rfl⟩
  · show J_ zJ0_checkIndex_df160 T (po_J0_checkIndex_df160 T a n) 0 0 5 _ [vR 84 0, vI n, vI a] T
    refine j_callS (y := yJ3_checkIndex_8e157) (Yc := zJ3_checkIndex_8e157) (rest := []) [vI a, vI n, vR 84 0] (ct_J3_checkIndex_r (T := T) (by omega)) cl_J0_1059 (qd_c (by decide +kernel)) (nn_ _) rfl (rf_of rfl) (Nat.le_of_ble_eq_true rfl) (Nat.le_of_ble_eq_true rfl) (Nat.le_of_ble_eq_true rfl) rfl ?_
    rintro _ _ ⟨rfl, rfl⟩
    show J_ zJ0_checkIndex_df160 T (po_J0_checkIndex_df160 T a n) 0 0 8 _ [vI a] T
    refine j_blx (F := fJ0) tb_J0 (nn_ _) bk_J0_checkIndex_df160_8 bs_J0_checkIndex_df160_8 hz (fun K hK => ?_)
    refine (show po_J0_checkIndex_df160 T a n T (none) from ?_)
    exact ⟨rfl, rfl⟩
abbrev cJ0_coder_7d493 : ByteArray := prog_17_method_152_code
def yJ0_coder_7d493 : MethodName := ⟨RJ0, "coder", "()B"⟩
def zJ0_coder_7d493 : Zm := (RJ0, cJ0_coder_7d493, 1, (some .byte), { frames := 0, cells := 0, slots := 0, locals := 0 })
theorem bk_J0_coder_7d493_3 : ck_ fJ0 (some .byte) cJ0_coder_7d493 3 [.ifCond .eq 13, .aload 0] 7 = true := qck_r (nn_ _) (by decide +kernel)
theorem bs_J0_coder_7d493_3 {P : Zt → Option Zv → Prop} (K : Int → Zl → List Zv → Zt → Prop) : sx_ K P [.ifCond .eq 13, .aload 0] 7 = x_ifCond .eq 13 K (x_aload 0 (K 7)) := ((xe_ifCond .eq 13).trans (congrArg (x_ifCond .eq 13 K) ((xe_aload 0).trans (congrArg (x_aload 0) xe_nil))))
theorem bk_J0_coder_7d493_10 : ck_ fJ0 (some .byte) cJ0_coder_7d493 10 [.goto 14] 13 = true := qck_r (nn_ _) (by decide +kernel)
theorem bs_J0_coder_7d493_10 {P : Zt → Option Zv → Prop} (K : Int → Zl → List Zv → Zt → Prop) : sx_ K P [.goto 14] 13 = x_goto 14 K := (xe_goto 14)
abbrev po_J0_coder_0 (T : Zt) : Zt → Option Zv → Prop := fun T' r => T = T' ∧ r = some (vI (0))
set_option maxHeartbeats 4000000 in
theorem ct_J0_coder_0 {T : Zt} : Ct_ yJ0_coder_7d493 zJ0_coder_7d493 T [vR 82 0] (po_J0_coder_0 T) := by
  refine ct_of (by decide) rfl rfl (Nat.le_of_ble_eq_true rfl) (fun hT hav => ?_)
  have hz : zJ0_coder_7d493.2.2.2.1 = some .boolean → ∀ (T' : Zt) (x : Int), po_J0_coder_0 T T' (some (vI x)) → 0 ≤ x ∧ x ≤ 1 := fun h => by cases h
  show J_ zJ0_coder_7d493 T (po_J0_coder_0 T) 0 0 0 [some (vR 82 0)] [] T
  refine j_gsC (pc := 0) (by decide) (lw_b3 3 (by decide +kernel) rfl : Cond.fieldLink RJ0 38 "java/lang/String" "COMPACT_STRINGS" "Z" ∈ lw_g) (by decide +kernel) ?_
  show J_ zJ0_coder_7d493 T (po_J0_coder_0 T) 0 0 3 _ [vI 1] T
  refine j_blx (F := fJ0) tb_J0 (nn_ _) bk_J0_coder_7d493_3 bs_J0_coder_7d493_3 hz (fun K hK => ?_)
  refine And.intro (fun c1 => ?_) (fun c1 => ?_)
  · exact absurd c1 (by decide)
  · refine hK 7 _ [vR 82 0] T ?_
    refine j_gfC (pc := 7) (i := 0) (by decide) (by decide) (lw_b10 119 (by decide +kernel) rfl : Cond.fieldLink RJ0 15 "java/lang/String" "coder" "B" ∈ lw_g) (by decide +kernel) ?_
    show J_ zJ0_coder_7d493 T (po_J0_coder_0 T) 0 0 10 _ [vI 0] T
    refine j_blx (F := fJ0) tb_J0 (nn_ _) bk_J0_coder_7d493_10 bs_J0_coder_7d493_10 hz (fun K hK => ?_)
    refine hK 14 _ [vI 0] T ?_
    refine j_iretN (pc := 14) (Or.inr rfl) ⟨by decide, by decide⟩ (by decide +kernel) ?_
    refine (show po_J0_coder_0 T T (some (vI 0)) from ?_)
    exact ⟨rfl, rfl⟩
abbrev cJ0_isLatin1_aae02 : ByteArray := prog_17_method_154_code
def yJ0_isLatin1_aae02 : MethodName := ⟨RJ0, "isLatin1", "()Z"⟩
def zJ0_isLatin1_aae02 : Zm := (RJ0, cJ0_isLatin1_aae02, 1, (some .boolean), { frames := 0, cells := 0, slots := 0, locals := 0 })
theorem bk_J0_isLatin1_aae02_3 : ck_ fJ0 (some .boolean) cJ0_isLatin1_aae02 3 [.ifCond .eq 17, .aload 0] 7 = true := qck_r (nn_ _) (by decide +kernel)
theorem bs_J0_isLatin1_aae02_3 {P : Zt → Option Zv → Prop} (K : Int → Zl → List Zv → Zt → Prop) : sx_ K P [.ifCond .eq 17, .aload 0] 7 = x_ifCond .eq 17 K (x_aload 0 (K 7)) := ((xe_ifCond .eq 17).trans (congrArg (x_ifCond .eq 17 K) ((xe_aload 0).trans (congrArg (x_aload 0) xe_nil))))
theorem bk_J0_isLatin1_aae02_10 : ck_ fJ0 (some .boolean) cJ0_isLatin1_aae02 10 [.ifCond .ne 17, .iconst 1, .goto 18] 17 = true := qck_r (nn_ _) (by decide +kernel)
theorem bs_J0_isLatin1_aae02_10 {P : Zt → Option Zv → Prop} (K : Int → Zl → List Zv → Zt → Prop) : sx_ K P [.ifCond .ne 17, .iconst 1, .goto 18] 17 = x_ifCond .ne 17 K (x_iconst 1 (x_goto 18 K)) := ((xe_ifCond .ne 17).trans (congrArg (x_ifCond .ne 17 K) ((xe_iconst 1).trans (congrArg (x_iconst 1) (xe_goto 18)))))
theorem bk_J0_isLatin1_aae02_18 : ck_ fJ0 (some .boolean) cJ0_isLatin1_aae02 18 [.ireturn] 19 = true := qck_r (nn_ _) (by decide +kernel)
theorem bs_J0_isLatin1_aae02_18 {P : Zt → Option Zv → Prop} (K : Int → Zl → List Zv → Zt → Prop) : sx_ K P [.ireturn] 19 = x_ireturn P := (xe_ireturn)
abbrev po_J0_isLatin1_0 (T : Zt) : Zt → Option Zv → Prop := fun T' r => T = T' ∧ r = some (vI (1))
set_option maxHeartbeats 4000000 in
theorem ct_J0_isLatin1_0 {T : Zt} : Ct_ yJ0_isLatin1_aae02 zJ0_isLatin1_aae02 T [vR 82 0] (po_J0_isLatin1_0 T) := by
  refine ct_of (by decide) rfl rfl (Nat.le_of_ble_eq_true rfl) (fun hT hav => ?_)
  have hz : zJ0_isLatin1_aae02.2.2.2.1 = some .boolean → ∀ (T' : Zt) (x : Int), po_J0_isLatin1_0 T T' (some (vI x)) → 0 ≤ x ∧ x ≤ 1 := fun _ T' x h => by obtain ⟨-, e⟩ := h; cases e; omega
  show J_ zJ0_isLatin1_aae02 T (po_J0_isLatin1_0 T) 0 0 0 [some (vR 82 0)] [] T
  refine j_gsC (pc := 0) (by decide) (lw_b3 3 (by decide +kernel) rfl : Cond.fieldLink RJ0 38 "java/lang/String" "COMPACT_STRINGS" "Z" ∈ lw_g) (by decide +kernel) ?_
  show J_ zJ0_isLatin1_aae02 T (po_J0_isLatin1_0 T) 0 0 3 _ [vI 1] T
  refine j_blx (F := fJ0) tb_J0 (nn_ _) bk_J0_isLatin1_aae02_3 bs_J0_isLatin1_aae02_3 hz (fun K hK => ?_)
  refine And.intro (fun c1 => ?_) (fun c1 => ?_)
  · exact absurd c1 (by decide)
  · refine hK 7 _ [vR 82 0] T ?_
    refine j_gfC (pc := 7) (i := 0) (by decide) (by decide) (lw_b10 119 (by decide +kernel) rfl : Cond.fieldLink RJ0 15 "java/lang/String" "coder" "B" ∈ lw_g) (by decide +kernel) ?_
    show J_ zJ0_isLatin1_aae02 T (po_J0_isLatin1_0 T) 0 0 10 _ [vI 0] T
    refine j_blx (F := fJ0) tb_J0 (nn_ _) bk_J0_isLatin1_aae02_10 bs_J0_isLatin1_aae02_10 hz (fun K hK => ?_)
    refine And.intro (fun c2 => ?_) (fun c2 => ?_)
    · exact absurd c2 (by decide)
    · refine hK 18 _ [vI 1] T ?_
      refine j_blx (F := fJ0) tb_J0 (nn_ _) bk_J0_isLatin1_aae02_18 bs_J0_isLatin1_aae02_18 hz (fun K hK => ?_)
      refine (show po_J0_isLatin1_0 T T (some (vI 1)) from ?_)
      exact ⟨rfl, rfl⟩
abbrev cJ0_length_8abf5 : ByteArray := prog_17_method_54_code
def yJ0_length_8abf5 : MethodName := ⟨RJ0, "length", "()I"⟩
def zJ0_length_8abf5 : Zm := (RJ0, cJ0_length_8abf5, 1, (some .int), { frames := 1, cells := 0, slots := 0, locals := 20 })
theorem bk_J0_length_8abf5_0 : ck_ fJ0 (some .int) cJ0_length_8abf5 0 [.aload 0] 1 = true := qck_r (nn_ _) (by decide +kernel)
theorem bs_J0_length_8abf5_0 {P : Zt → Option Zv → Prop} (K : Int → Zl → List Zv → Zt → Prop) : sx_ K P [.aload 0] 1 = x_aload 0 (K 1) := ((xe_aload 0).trans (congrArg (x_aload 0) xe_nil))
theorem bk_J0_length_8abf5_5 : ck_ fJ0 (some .int) cJ0_length_8abf5 5 [.aload 0] 6 = true := qck_r (nn_ _) (by decide +kernel)
theorem bs_J0_length_8abf5_5 {P : Zt → Option Zv → Prop} (K : Int → Zl → List Zv → Zt → Prop) : sx_ K P [.aload 0] 6 = x_aload 0 (K 6) := ((xe_aload 0).trans (congrArg (x_aload 0) xe_nil))
set_option maxRecDepth 100000 in
theorem ck82_J0_335 : ck82_ RJ0 335 yJ0_coder_7d493 zJ0_coder_7d493 0 := ⟨gi_V (lw_b2 239 (by decide +kernel) rfl : Cond.methodLink RJ0 335 yJ0_coder_7d493 ∈ lw_g) (lw_b3 0 (by decide +kernel) rfl : Cond.instanceMethod yJ0_coder_7d493 ∈ lw_g) (lw_b3 1 (by decide +kernel) rfl : Cond.selects yJ0_coder_7d493.cls yJ0_coder_7d493 yJ0_coder_7d493 ∈ lw_g) (lw_b1 11 (by decide +kernel) rfl : Cond.initialized yJ0_coder_7d493.cls ∈ lw_g) (lw_b3 2 rfl rfl : Cond.code yJ0_coder_7d493 cJ0_coder_7d493 1 (some .byte) ∈ lw_g), ⟨by decide, by decide, by decide +kernel⟩, rfl⟩
theorem bk_J0_length_8abf5_9 : ck_ fJ0 (some .int) cJ0_length_8abf5 9 [.ishr, .ireturn] 11 = true := qck_r (nn_ _) (by decide +kernel)
theorem bs_J0_length_8abf5_9 {P : Zt → Option Zv → Prop} (K : Int → Zl → List Zv → Zt → Prop) : sx_ K P [.ishr, .ireturn] 11 = x_ishr (x_ireturn P) := ((xe_ishr).trans (congrArg (x_ishr) (xe_ireturn)))
abbrev po_J0_length_0 (T : Zt) : Zt → Option Zv → Prop := fun T' r => T = T' ∧ r = some (vI (82))
set_option maxHeartbeats 4000000 in
theorem ct_J0_length_0 {T : Zt} : Ct_ yJ0_length_8abf5 zJ0_length_8abf5 T [vR 82 0] (po_J0_length_0 T) := by
  refine ct_of (by decide) rfl rfl (Nat.le_of_ble_eq_true rfl) (fun hT hav => ?_)
  have hz : zJ0_length_8abf5.2.2.2.1 = some .boolean → ∀ (T' : Zt) (x : Int), po_J0_length_0 T T' (some (vI x)) → 0 ≤ x ∧ x ≤ 1 := fun h => by cases h
  show J_ zJ0_length_8abf5 T (po_J0_length_0 T) 0 0 0 [some (vR 82 0)] [] T
  refine j_blx (F := fJ0) tb_J0 (nn_ _) bk_J0_length_8abf5_0 bs_J0_length_8abf5_0 hz (fun K hK => ?_)
  refine hK 1 _ [vR 82 0] T ?_
  refine j_gfV (pc := 1) (i := 0) (by decide) (by decide) (lw_b10 118 (by decide +kernel) rfl : Cond.fieldLink RJ0 9 "java/lang/String" "value" "[B" ∈ lw_g) (by decide +kernel) ?_
  show J_ zJ0_length_8abf5 T (po_J0_length_0 T) 0 0 4 _ [vR 83 0] T
  refine j_len83 (pc := 4) (i := 0) (n := 82) (by decide) (by decide) (by decide) (by decide) (by decide +kernel) ?_
  show J_ zJ0_length_8abf5 T (po_J0_length_0 T) 0 0 5 _ [vI 82] T
  refine j_blx (F := fJ0) tb_J0 (nn_ _) bk_J0_length_8abf5_5 bs_J0_length_8abf5_5 hz (fun K hK => ?_)
  refine hK 6 _ [vR 82 0, vI 82] T ?_
  refine j_callK (i := 0) (y := yJ0_coder_7d493) (Yc := zJ0_coder_7d493) (rest := [vI 82]) [] (by decide) (ct_J0_coder_0 (T := T)) ck82_J0_335 (by decide +kernel) (by decide) rfl (by decide +kernel) (Nat.le_of_ble_eq_true rfl) (by decide) (by decide) rfl ?_
  rintro _ _ ⟨rfl, rfl⟩
  show J_ zJ0_length_8abf5 T (po_J0_length_0 T) 0 0 9 _ [vI 0, vI 82] T
  refine j_blx (F := fJ0) tb_J0 (nn_ _) bk_J0_length_8abf5_9 bs_J0_length_8abf5_9 hz (fun K hK => ?_)
  intro w1 w1b
  refine (show po_J0_length_0 T T (some (vI (sr_ 82 0))) from ?_)
  exact ⟨rfl, by rw [show sr_ 82 0 = 82 by decide]⟩
abbrev cJ1_charAt_3b067 : ByteArray := prog_18_method_2_code
def yJ1_charAt_3b067 : MethodName := ⟨RJ1, "charAt", "([BI)C"⟩
def zJ1_charAt_3b067 : Zm := (RJ1, cJ1_charAt_3b067, 2, (some .char), { frames := 2, cells := 0, slots := 0, locals := 43 })
theorem bk_J1_charAt_3b067_0 : ck_ fJ1 (some .char) cJ1_charAt_3b067 0 [.iload 1, .aload 0] 2 = true := qck_r (nn_ _) (by decide +kernel)
theorem bs_J1_charAt_3b067_0 {P : Zt → Option Zv → Prop} (K : Int → Zl → List Zv → Zt → Prop) : sx_ K P [.iload 1, .aload 0] 2 = x_iload 1 (x_aload 0 (K 2)) := ((xe_iload 1).trans (congrArg (x_iload 1) ((xe_aload 0).trans (congrArg (x_aload 0) xe_nil))))
set_option maxRecDepth 100000 in
theorem cl_J1_9 : cs_ RJ1 9 yJ0_checkIndex_df160 zJ0_checkIndex_df160 2 := ⟨gi_S (lw_b3 16 (by decide +kernel) rfl : Cond.methodLink RJ1 9 yJ0_checkIndex_df160 ∈ lw_g) (lw_b3 17 (by decide +kernel) rfl : Cond.static yJ0_checkIndex_df160 ∈ lw_g) (lw_b1 11 (by decide +kernel) rfl : Cond.initialized yJ0_checkIndex_df160.cls ∈ lw_g) (lw_b3 18 rfl rfl : Cond.code yJ0_checkIndex_df160 cJ0_checkIndex_df160 2 none ∈ lw_g), ⟨by decide, by decide, by decide +kernel⟩⟩
theorem bk_J1_charAt_3b067_6 : ck_ fJ1 (some .char) cJ1_charAt_3b067 6 [.aload 0, .iload 1] 8 = true := qck_r (nn_ _) (by decide +kernel)
theorem bs_J1_charAt_3b067_6 {P : Zt → Option Zv → Prop} (K : Int → Zl → List Zv → Zt → Prop) : sx_ K P [.aload 0, .iload 1] 8 = x_aload 0 (x_iload 1 (K 8)) := ((xe_aload 0).trans (congrArg (x_aload 0) ((xe_iload 1).trans (congrArg (x_iload 1) xe_nil))))
theorem bk_J1_charAt_3b067_9 : ck_ fJ1 (some .char) cJ1_charAt_3b067 9 [.iconst 255, .iand] 13 = true := qck_r (nn_ _) (by decide +kernel)
theorem bs_J1_charAt_3b067_9 {P : Zt → Option Zv → Prop} (K : Int → Zl → List Zv → Zt → Prop) : sx_ K P [.iconst 255, .iand] 13 = x_iconst 255 (x_iand (K 13)) := ((xe_iconst 255).trans (congrArg (x_iconst 255) ((xe_iand).trans (congrArg (x_iand) xe_nil))))
abbrev po_J1_charAt_0 (T : Zt) (a : Int) : Zt → Option Zv → Prop := fun T' r => T = T' ∧ r = some (vI (cb8_ 0 a))
set_option maxHeartbeats 4000000 in
theorem ct_J1_charAt_0 {T : Zt} {a : Int} (h1 : 0 ≤ a ∧ a < 82) : Ct_ yJ1_charAt_3b067 zJ1_charAt_3b067 T [vR 83 0, vI a] (po_J1_charAt_0 T a) := by
  refine ct_of (by decide) rfl rfl (Nat.le_of_ble_eq_true rfl) (fun hT hav => ?_)
  have hr_a : -2147483648 ≤ a ∧ a ≤ 2147483647 := hav (vI a) (by simp)
  have hz : zJ1_charAt_3b067.2.2.2.1 = some .boolean → ∀ (T' : Zt) (x : Int), po_J1_charAt_0 T a T' (some (vI x)) → 0 ≤ x ∧ x ≤ 1 := fun h => by cases h
  show J_ zJ1_charAt_3b067 T (po_J1_charAt_0 T a) 0 0 0 [some (vR 83 0), some (vI a)] [] T
  refine j_blx (F := fJ1) tb_J1 (nn_ _) bk_J1_charAt_3b067_0 bs_J1_charAt_3b067_0 hz (fun K hK => ?_)
  refine hK 2 _ [vR 83 0, vI a] T ?_
  refine j_len83 (pc := 2) (i := 0) (n := 82) (by decide) (by decide) (by decide) (by decide) (by decide +kernel) ?_
  show J_ zJ1_charAt_3b067 T (po_J1_charAt_0 T a) 0 0 3 _ [vI 82, vI a] T
  refine j_callS (y := yJ0_checkIndex_df160) (Yc := zJ0_checkIndex_df160) (rest := []) [vI a, vI 82] (ct_J0_checkIndex_df160 (T := T) (by omega)) cl_J1_9 (qd_c (by decide +kernel)) (nn_ _) rfl (rf_of rfl) (Nat.le_of_ble_eq_true rfl) (Nat.le_of_ble_eq_true rfl) (Nat.le_of_ble_eq_true rfl) rfl ?_
  rintro _ _ ⟨rfl, rfl⟩
  show J_ zJ1_charAt_3b067 T (po_J1_charAt_0 T a) 0 0 6 _ [] T
  refine j_blx (F := fJ1) tb_J1 (nn_ _) bk_J1_charAt_3b067_6 bs_J1_charAt_3b067_6 hz (fun K hK => ?_)
  refine hK 8 _ [vI a, vR 83 0] T ?_
  refine j_ba83 (pc := 8) (i := 0) (n := 82) (by decide) (by decide) (by decide) (by omega) (by omega) (by decide) (fun k _ => ⟨i3_b _, bv_k (by decide) k⟩) (by decide +kernel) ?_
  have hcb := cb8_b (i := 0) (by decide) a
  show J_ zJ1_charAt_3b067 T (po_J1_charAt_0 T a) 0 0 9 _ [vI (cb8_ 0 a)] T
  refine j_blx (F := fJ1) tb_J1 (nn_ _) bk_J1_charAt_3b067_9 bs_J1_charAt_3b067_9 hz (fun K hK => ?_)
  intro w1 w1b
  refine hK 13 _ [vI (an_ (cb8_ 0 a) 255)] T ?_
  rw [an_25 hcb]
  refine j_i2c (pc := 13) (by decide) hcb (by decide +kernel) ?_
  show J_ zJ1_charAt_3b067 T (po_J1_charAt_0 T a) 0 0 14 _ [vI (cb8_ 0 a)] T
  refine j_iretN (pc := 14) (Or.inl rfl) hcb (by decide +kernel) ?_
  refine (show po_J1_charAt_0 T a T (some (vI (cb8_ 0 a))) from ?_)
  exact ⟨rfl, rfl⟩
abbrev cJ0_charAt_5068e : ByteArray := prog_17_method_56_code
def yJ0_charAt_5068e : MethodName := ⟨RJ0, "charAt", "(I)C"⟩
def zJ0_charAt_5068e : Zm := (RJ0, cJ0_charAt_5068e, 2, (some .char), { frames := 3, cells := 0, slots := 0, locals := 64 })
theorem bk_J0_charAt_5068e_0 : ck_ fJ0 (some .char) cJ0_charAt_5068e 0 [.aload 0] 1 = true := qck_r (nn_ _) (by decide +kernel)
theorem bs_J0_charAt_5068e_0 {P : Zt → Option Zv → Prop} (K : Int → Zl → List Zv → Zt → Prop) : sx_ K P [.aload 0] 1 = x_aload 0 (K 1) := ((xe_aload 0).trans (congrArg (x_aload 0) xe_nil))
set_option maxRecDepth 100000 in
theorem ck82_J0_492 : ck82_ RJ0 492 yJ0_isLatin1_aae02 zJ0_isLatin1_aae02 0 := ⟨gi_V (lw_b3 9 (by decide +kernel) rfl : Cond.methodLink RJ0 492 yJ0_isLatin1_aae02 ∈ lw_g) (lw_b3 10 (by decide +kernel) rfl : Cond.instanceMethod yJ0_isLatin1_aae02 ∈ lw_g) (lw_b3 11 (by decide +kernel) rfl : Cond.selects yJ0_isLatin1_aae02.cls yJ0_isLatin1_aae02 yJ0_isLatin1_aae02 ∈ lw_g) (lw_b1 11 (by decide +kernel) rfl : Cond.initialized yJ0_isLatin1_aae02.cls ∈ lw_g) (lw_b3 12 rfl rfl : Cond.code yJ0_isLatin1_aae02 cJ0_isLatin1_aae02 1 (some .boolean) ∈ lw_g), ⟨by decide, by decide, by decide +kernel⟩, rfl⟩
theorem bk_J0_charAt_5068e_4 : ck_ fJ0 (some .char) cJ0_charAt_5068e 4 [.ifCond .eq 16, .aload 0] 8 = true := qck_r (nn_ _) (by decide +kernel)
theorem bs_J0_charAt_5068e_4 {P : Zt → Option Zv → Prop} (K : Int → Zl → List Zv → Zt → Prop) : sx_ K P [.ifCond .eq 16, .aload 0] 8 = x_ifCond .eq 16 K (x_aload 0 (K 8)) := ((xe_ifCond .eq 16).trans (congrArg (x_ifCond .eq 16 K) ((xe_aload 0).trans (congrArg (x_aload 0) xe_nil))))
theorem bk_J0_charAt_5068e_11 : ck_ fJ0 (some .char) cJ0_charAt_5068e 11 [.iload 1] 12 = true := qck_r (nn_ _) (by decide +kernel)
theorem bs_J0_charAt_5068e_11 {P : Zt → Option Zv → Prop} (K : Int → Zl → List Zv → Zt → Prop) : sx_ K P [.iload 1] 12 = x_iload 1 (K 12) := ((xe_iload 1).trans (congrArg (x_iload 1) xe_nil))
set_option maxRecDepth 100000 in
theorem cl_J0_495 : cs_ RJ0 495 yJ1_charAt_3b067 zJ1_charAt_3b067 2 := ⟨gi_S (lw_b3 13 (by decide +kernel) rfl : Cond.methodLink RJ0 495 yJ1_charAt_3b067 ∈ lw_g) (lw_b3 14 (by decide +kernel) rfl : Cond.static yJ1_charAt_3b067 ∈ lw_g) (lw_b1 12 (by decide +kernel) rfl : Cond.initialized yJ1_charAt_3b067.cls ∈ lw_g) (lw_b3 15 rfl rfl : Cond.code yJ1_charAt_3b067 cJ1_charAt_3b067 2 (some .char) ∈ lw_g), ⟨by decide, by decide, by decide +kernel⟩⟩
abbrev po_J0_charAt_0 (T : Zt) (a : Int) : Zt → Option Zv → Prop := fun T' r => T = T' ∧ r = some (vI (cb8_ 0 a))
set_option maxHeartbeats 4000000 in
theorem ct_J0_charAt_0 {T : Zt} {a : Int} (h1 : 0 ≤ a ∧ a < 82) : Ct_ yJ0_charAt_5068e zJ0_charAt_5068e T [vR 82 0, vI a] (po_J0_charAt_0 T a) := by
  refine ct_of (by decide) rfl rfl (Nat.le_of_ble_eq_true rfl) (fun hT hav => ?_)
  have hr_a : -2147483648 ≤ a ∧ a ≤ 2147483647 := hav (vI a) (by simp)
  have hz : zJ0_charAt_5068e.2.2.2.1 = some .boolean → ∀ (T' : Zt) (x : Int), po_J0_charAt_0 T a T' (some (vI x)) → 0 ≤ x ∧ x ≤ 1 := fun h => by cases h
  show J_ zJ0_charAt_5068e T (po_J0_charAt_0 T a) 0 0 0 [some (vR 82 0), some (vI a)] [] T
  refine j_blx (F := fJ0) tb_J0 (nn_ _) bk_J0_charAt_5068e_0 bs_J0_charAt_5068e_0 hz (fun K hK => ?_)
  refine hK 1 _ [vR 82 0] T ?_
  refine j_callK (i := 0) (y := yJ0_isLatin1_aae02) (Yc := zJ0_isLatin1_aae02) (rest := []) [] (by decide) (ct_J0_isLatin1_0 (T := T)) ck82_J0_492 (by decide +kernel) (by decide) rfl (by decide +kernel) (Nat.le_of_ble_eq_true rfl) (by decide) (by decide) rfl ?_
  rintro _ _ ⟨rfl, rfl⟩
  show J_ zJ0_charAt_5068e T (po_J0_charAt_0 T a) 0 0 4 _ [vI 1] T
  refine j_blx (F := fJ0) tb_J0 (nn_ _) bk_J0_charAt_5068e_4 bs_J0_charAt_5068e_4 hz (fun K hK => ?_)
  refine And.intro (fun c1 => ?_) (fun c1 => ?_)
  · exact absurd c1 (by decide)
  · refine hK 8 _ [vR 82 0] T ?_
    refine j_gfV (pc := 8) (i := 0) (by decide) (by decide) (lw_b10 118 (by decide +kernel) rfl : Cond.fieldLink RJ0 9 "java/lang/String" "value" "[B" ∈ lw_g) (by decide +kernel) ?_
    show J_ zJ0_charAt_5068e T (po_J0_charAt_0 T a) 0 0 11 _ [vR 83 0] T
    refine j_blx (F := fJ0) tb_J0 (nn_ _) bk_J0_charAt_5068e_11 bs_J0_charAt_5068e_11 hz (fun K hK => ?_)
    refine hK 12 _ [vI a, vR 83 0] T ?_
    refine j_callS (y := yJ1_charAt_3b067) (Yc := zJ1_charAt_3b067) (rest := []) [vR 83 0, vI a] (ct_J1_charAt_0 (T := T) (by omega)) cl_J0_495 (qd_c (by decide +kernel)) (nn_ _) rfl (rf_of rfl) (Nat.le_of_ble_eq_true rfl) (Nat.le_of_ble_eq_true rfl) (Nat.le_of_ble_eq_true rfl) rfl ?_
    rintro _ _ ⟨rfl, rfl⟩
    show J_ zJ0_charAt_5068e T (po_J0_charAt_0 T a) 0 0 15 _ [vI (cb8_ 0 a)] T
    refine j_iretN (pc := 15) (Or.inl rfl) (cb8_b (by decide) a) (by decide +kernel) ?_
    refine (show po_J0_charAt_0 T a T (some (vI (cb8_ 0 a))) from ?_)
    exact ⟨rfl, rfl⟩
abbrev po_J0_coder_1 (T : Zt) : Zt → Option Zv → Prop := fun T' r => T = T' ∧ r = some (vI (0))
set_option maxHeartbeats 4000000 in
theorem ct_J0_coder_1 {T : Zt} : Ct_ yJ0_coder_7d493 zJ0_coder_7d493 T [vR 82 1] (po_J0_coder_1 T) := by
  refine ct_of (by decide) rfl rfl (Nat.le_of_ble_eq_true rfl) (fun hT hav => ?_)
  have hz : zJ0_coder_7d493.2.2.2.1 = some .boolean → ∀ (T' : Zt) (x : Int), po_J0_coder_1 T T' (some (vI x)) → 0 ≤ x ∧ x ≤ 1 := fun h => by cases h
  show J_ zJ0_coder_7d493 T (po_J0_coder_1 T) 0 0 0 [some (vR 82 1)] [] T
  refine j_gsC (pc := 0) (by decide) (lw_b3 3 (by decide +kernel) rfl : Cond.fieldLink RJ0 38 "java/lang/String" "COMPACT_STRINGS" "Z" ∈ lw_g) (by decide +kernel) ?_
  show J_ zJ0_coder_7d493 T (po_J0_coder_1 T) 0 0 3 _ [vI 1] T
  refine j_blx (F := fJ0) tb_J0 (nn_ _) bk_J0_coder_7d493_3 bs_J0_coder_7d493_3 hz (fun K hK => ?_)
  refine And.intro (fun c1 => ?_) (fun c1 => ?_)
  · exact absurd c1 (by decide)
  · refine hK 7 _ [vR 82 1] T ?_
    refine j_gfC (pc := 7) (i := 1) (by decide) (by decide) (lw_b10 119 (by decide +kernel) rfl : Cond.fieldLink RJ0 15 "java/lang/String" "coder" "B" ∈ lw_g) (by decide +kernel) ?_
    show J_ zJ0_coder_7d493 T (po_J0_coder_1 T) 0 0 10 _ [vI 0] T
    refine j_blx (F := fJ0) tb_J0 (nn_ _) bk_J0_coder_7d493_10 bs_J0_coder_7d493_10 hz (fun K hK => ?_)
    refine hK 14 _ [vI 0] T ?_
    refine j_iretN (pc := 14) (Or.inr rfl) ⟨by decide, by decide⟩ (by decide +kernel) ?_
    refine (show po_J0_coder_1 T T (some (vI 0)) from ?_)
    exact ⟨rfl, rfl⟩
abbrev po_J0_isLatin1_1 (T : Zt) : Zt → Option Zv → Prop := fun T' r => T = T' ∧ r = some (vI (1))
set_option maxHeartbeats 4000000 in
theorem ct_J0_isLatin1_1 {T : Zt} : Ct_ yJ0_isLatin1_aae02 zJ0_isLatin1_aae02 T [vR 82 1] (po_J0_isLatin1_1 T) := by
  refine ct_of (by decide) rfl rfl (Nat.le_of_ble_eq_true rfl) (fun hT hav => ?_)
  have hz : zJ0_isLatin1_aae02.2.2.2.1 = some .boolean → ∀ (T' : Zt) (x : Int), po_J0_isLatin1_1 T T' (some (vI x)) → 0 ≤ x ∧ x ≤ 1 := fun _ T' x h => by obtain ⟨-, e⟩ := h; cases e; omega
  show J_ zJ0_isLatin1_aae02 T (po_J0_isLatin1_1 T) 0 0 0 [some (vR 82 1)] [] T
  refine j_gsC (pc := 0) (by decide) (lw_b3 3 (by decide +kernel) rfl : Cond.fieldLink RJ0 38 "java/lang/String" "COMPACT_STRINGS" "Z" ∈ lw_g) (by decide +kernel) ?_
  show J_ zJ0_isLatin1_aae02 T (po_J0_isLatin1_1 T) 0 0 3 _ [vI 1] T
  refine j_blx (F := fJ0) tb_J0 (nn_ _) bk_J0_isLatin1_aae02_3 bs_J0_isLatin1_aae02_3 hz (fun K hK => ?_)
  refine And.intro (fun c1 => ?_) (fun c1 => ?_)
  · exact absurd c1 (by decide)
  · refine hK 7 _ [vR 82 1] T ?_
    refine j_gfC (pc := 7) (i := 1) (by decide) (by decide) (lw_b10 119 (by decide +kernel) rfl : Cond.fieldLink RJ0 15 "java/lang/String" "coder" "B" ∈ lw_g) (by decide +kernel) ?_
    show J_ zJ0_isLatin1_aae02 T (po_J0_isLatin1_1 T) 0 0 10 _ [vI 0] T
    refine j_blx (F := fJ0) tb_J0 (nn_ _) bk_J0_isLatin1_aae02_10 bs_J0_isLatin1_aae02_10 hz (fun K hK => ?_)
    refine And.intro (fun c2 => ?_) (fun c2 => ?_)
    · exact absurd c2 (by decide)
    · refine hK 18 _ [vI 1] T ?_
      refine j_blx (F := fJ0) tb_J0 (nn_ _) bk_J0_isLatin1_aae02_18 bs_J0_isLatin1_aae02_18 hz (fun K hK => ?_)
      refine (show po_J0_isLatin1_1 T T (some (vI 1)) from ?_)
      exact ⟨rfl, rfl⟩
abbrev po_J0_length_1 (T : Zt) : Zt → Option Zv → Prop := fun T' r => T = T' ∧ r = some (vI (36))
set_option maxHeartbeats 4000000 in
theorem ct_J0_length_1 {T : Zt} : Ct_ yJ0_length_8abf5 zJ0_length_8abf5 T [vR 82 1] (po_J0_length_1 T) := by
  refine ct_of (by decide) rfl rfl (Nat.le_of_ble_eq_true rfl) (fun hT hav => ?_)
  have hz : zJ0_length_8abf5.2.2.2.1 = some .boolean → ∀ (T' : Zt) (x : Int), po_J0_length_1 T T' (some (vI x)) → 0 ≤ x ∧ x ≤ 1 := fun h => by cases h
  show J_ zJ0_length_8abf5 T (po_J0_length_1 T) 0 0 0 [some (vR 82 1)] [] T
  refine j_blx (F := fJ0) tb_J0 (nn_ _) bk_J0_length_8abf5_0 bs_J0_length_8abf5_0 hz (fun K hK => ?_)
  refine hK 1 _ [vR 82 1] T ?_
  refine j_gfV (pc := 1) (i := 1) (by decide) (by decide) (lw_b10 118 (by decide +kernel) rfl : Cond.fieldLink RJ0 9 "java/lang/String" "value" "[B" ∈ lw_g) (by decide +kernel) ?_
  show J_ zJ0_length_8abf5 T (po_J0_length_1 T) 0 0 4 _ [vR 83 1] T
  refine j_len83 (pc := 4) (i := 1) (n := 36) (by decide) (by decide) (by decide) (by decide) (by decide +kernel) ?_
  show J_ zJ0_length_8abf5 T (po_J0_length_1 T) 0 0 5 _ [vI 36] T
  refine j_blx (F := fJ0) tb_J0 (nn_ _) bk_J0_length_8abf5_5 bs_J0_length_8abf5_5 hz (fun K hK => ?_)
  refine hK 6 _ [vR 82 1, vI 36] T ?_
  refine j_callK (i := 1) (y := yJ0_coder_7d493) (Yc := zJ0_coder_7d493) (rest := [vI 36]) [] (by decide) (ct_J0_coder_1 (T := T)) ck82_J0_335 (by decide +kernel) (by decide) rfl (by decide +kernel) (Nat.le_of_ble_eq_true rfl) (by decide) (by decide) rfl ?_
  rintro _ _ ⟨rfl, rfl⟩
  show J_ zJ0_length_8abf5 T (po_J0_length_1 T) 0 0 9 _ [vI 0, vI 36] T
  refine j_blx (F := fJ0) tb_J0 (nn_ _) bk_J0_length_8abf5_9 bs_J0_length_8abf5_9 hz (fun K hK => ?_)
  intro w1 w1b
  refine (show po_J0_length_1 T T (some (vI (sr_ 36 0))) from ?_)
  exact ⟨rfl, by rw [show sr_ 36 0 = 36 by decide]⟩
abbrev po_J1_charAt_1 (T : Zt) (a : Int) : Zt → Option Zv → Prop := fun T' r => T = T' ∧ r = some (vI (cb8_ 1 a))
set_option maxHeartbeats 4000000 in
theorem ct_J1_charAt_1 {T : Zt} {a : Int} (h1 : 0 ≤ a ∧ a < 36) : Ct_ yJ1_charAt_3b067 zJ1_charAt_3b067 T [vR 83 1, vI a] (po_J1_charAt_1 T a) := by
  refine ct_of (by decide) rfl rfl (Nat.le_of_ble_eq_true rfl) (fun hT hav => ?_)
  have hr_a : -2147483648 ≤ a ∧ a ≤ 2147483647 := hav (vI a) (by simp)
  have hz : zJ1_charAt_3b067.2.2.2.1 = some .boolean → ∀ (T' : Zt) (x : Int), po_J1_charAt_1 T a T' (some (vI x)) → 0 ≤ x ∧ x ≤ 1 := fun h => by cases h
  show J_ zJ1_charAt_3b067 T (po_J1_charAt_1 T a) 0 0 0 [some (vR 83 1), some (vI a)] [] T
  refine j_blx (F := fJ1) tb_J1 (nn_ _) bk_J1_charAt_3b067_0 bs_J1_charAt_3b067_0 hz (fun K hK => ?_)
  refine hK 2 _ [vR 83 1, vI a] T ?_
  refine j_len83 (pc := 2) (i := 1) (n := 36) (by decide) (by decide) (by decide) (by decide) (by decide +kernel) ?_
  show J_ zJ1_charAt_3b067 T (po_J1_charAt_1 T a) 0 0 3 _ [vI 36, vI a] T
  refine j_callS (y := yJ0_checkIndex_df160) (Yc := zJ0_checkIndex_df160) (rest := []) [vI a, vI 36] (ct_J0_checkIndex_df160 (T := T) (by omega)) cl_J1_9 (qd_c (by decide +kernel)) (nn_ _) rfl (rf_of rfl) (Nat.le_of_ble_eq_true rfl) (Nat.le_of_ble_eq_true rfl) (Nat.le_of_ble_eq_true rfl) rfl ?_
  rintro _ _ ⟨rfl, rfl⟩
  show J_ zJ1_charAt_3b067 T (po_J1_charAt_1 T a) 0 0 6 _ [] T
  refine j_blx (F := fJ1) tb_J1 (nn_ _) bk_J1_charAt_3b067_6 bs_J1_charAt_3b067_6 hz (fun K hK => ?_)
  refine hK 8 _ [vI a, vR 83 1] T ?_
  refine j_ba83 (pc := 8) (i := 1) (n := 36) (by decide) (by decide) (by decide) (by omega) (by omega) (by decide) (fun k _ => ⟨i3_b _, bv_k (by decide) k⟩) (by decide +kernel) ?_
  have hcb := cb8_b (i := 1) (by decide) a
  show J_ zJ1_charAt_3b067 T (po_J1_charAt_1 T a) 0 0 9 _ [vI (cb8_ 1 a)] T
  refine j_blx (F := fJ1) tb_J1 (nn_ _) bk_J1_charAt_3b067_9 bs_J1_charAt_3b067_9 hz (fun K hK => ?_)
  intro w1 w1b
  refine hK 13 _ [vI (an_ (cb8_ 1 a) 255)] T ?_
  rw [an_25 hcb]
  refine j_i2c (pc := 13) (by decide) hcb (by decide +kernel) ?_
  show J_ zJ1_charAt_3b067 T (po_J1_charAt_1 T a) 0 0 14 _ [vI (cb8_ 1 a)] T
  refine j_iretN (pc := 14) (Or.inl rfl) hcb (by decide +kernel) ?_
  refine (show po_J1_charAt_1 T a T (some (vI (cb8_ 1 a))) from ?_)
  exact ⟨rfl, rfl⟩
abbrev po_J0_charAt_1 (T : Zt) (a : Int) : Zt → Option Zv → Prop := fun T' r => T = T' ∧ r = some (vI (cb8_ 1 a))
set_option maxHeartbeats 4000000 in
theorem ct_J0_charAt_1 {T : Zt} {a : Int} (h1 : 0 ≤ a ∧ a < 36) : Ct_ yJ0_charAt_5068e zJ0_charAt_5068e T [vR 82 1, vI a] (po_J0_charAt_1 T a) := by
  refine ct_of (by decide) rfl rfl (Nat.le_of_ble_eq_true rfl) (fun hT hav => ?_)
  have hr_a : -2147483648 ≤ a ∧ a ≤ 2147483647 := hav (vI a) (by simp)
  have hz : zJ0_charAt_5068e.2.2.2.1 = some .boolean → ∀ (T' : Zt) (x : Int), po_J0_charAt_1 T a T' (some (vI x)) → 0 ≤ x ∧ x ≤ 1 := fun h => by cases h
  show J_ zJ0_charAt_5068e T (po_J0_charAt_1 T a) 0 0 0 [some (vR 82 1), some (vI a)] [] T
  refine j_blx (F := fJ0) tb_J0 (nn_ _) bk_J0_charAt_5068e_0 bs_J0_charAt_5068e_0 hz (fun K hK => ?_)
  refine hK 1 _ [vR 82 1] T ?_
  refine j_callK (i := 1) (y := yJ0_isLatin1_aae02) (Yc := zJ0_isLatin1_aae02) (rest := []) [] (by decide) (ct_J0_isLatin1_1 (T := T)) ck82_J0_492 (by decide +kernel) (by decide) rfl (by decide +kernel) (Nat.le_of_ble_eq_true rfl) (by decide) (by decide) rfl ?_
  rintro _ _ ⟨rfl, rfl⟩
  show J_ zJ0_charAt_5068e T (po_J0_charAt_1 T a) 0 0 4 _ [vI 1] T
  refine j_blx (F := fJ0) tb_J0 (nn_ _) bk_J0_charAt_5068e_4 bs_J0_charAt_5068e_4 hz (fun K hK => ?_)
  refine And.intro (fun c1 => ?_) (fun c1 => ?_)
  · exact absurd c1 (by decide)
  · refine hK 8 _ [vR 82 1] T ?_
    refine j_gfV (pc := 8) (i := 1) (by decide) (by decide) (lw_b10 118 (by decide +kernel) rfl : Cond.fieldLink RJ0 9 "java/lang/String" "value" "[B" ∈ lw_g) (by decide +kernel) ?_
    show J_ zJ0_charAt_5068e T (po_J0_charAt_1 T a) 0 0 11 _ [vR 83 1] T
    refine j_blx (F := fJ0) tb_J0 (nn_ _) bk_J0_charAt_5068e_11 bs_J0_charAt_5068e_11 hz (fun K hK => ?_)
    refine hK 12 _ [vI a, vR 83 1] T ?_
    refine j_callS (y := yJ1_charAt_3b067) (Yc := zJ1_charAt_3b067) (rest := []) [vR 83 1, vI a] (ct_J1_charAt_1 (T := T) (by omega)) cl_J0_495 (qd_c (by decide +kernel)) (nn_ _) rfl (rf_of rfl) (Nat.le_of_ble_eq_true rfl) (Nat.le_of_ble_eq_true rfl) (Nat.le_of_ble_eq_true rfl) rfl ?_
    rintro _ _ ⟨rfl, rfl⟩
    show J_ zJ0_charAt_5068e T (po_J0_charAt_1 T a) 0 0 15 _ [vI (cb8_ 1 a)] T
    refine j_iretN (pc := 15) (Or.inl rfl) (cb8_b (by decide) a) (by decide +kernel) ?_
    refine (show po_J0_charAt_1 T a T (some (vI (cb8_ 1 a))) from ?_)
    exact ⟨rfl, rfl⟩
abbrev po_J0_coder_2 (T : Zt) : Zt → Option Zv → Prop := fun T' r => T = T' ∧ r = some (vI (0))
set_option maxHeartbeats 4000000 in
theorem ct_J0_coder_2 {T : Zt} : Ct_ yJ0_coder_7d493 zJ0_coder_7d493 T [vR 82 2] (po_J0_coder_2 T) := by
  refine ct_of (by decide) rfl rfl (Nat.le_of_ble_eq_true rfl) (fun hT hav => ?_)
  have hz : zJ0_coder_7d493.2.2.2.1 = some .boolean → ∀ (T' : Zt) (x : Int), po_J0_coder_2 T T' (some (vI x)) → 0 ≤ x ∧ x ≤ 1 := fun h => by cases h
  show J_ zJ0_coder_7d493 T (po_J0_coder_2 T) 0 0 0 [some (vR 82 2)] [] T
  refine j_gsC (pc := 0) (by decide) (lw_b3 3 (by decide +kernel) rfl : Cond.fieldLink RJ0 38 "java/lang/String" "COMPACT_STRINGS" "Z" ∈ lw_g) (by decide +kernel) ?_
  show J_ zJ0_coder_7d493 T (po_J0_coder_2 T) 0 0 3 _ [vI 1] T
  refine j_blx (F := fJ0) tb_J0 (nn_ _) bk_J0_coder_7d493_3 bs_J0_coder_7d493_3 hz (fun K hK => ?_)
  refine And.intro (fun c1 => ?_) (fun c1 => ?_)
  · exact absurd c1 (by decide)
  · refine hK 7 _ [vR 82 2] T ?_
    refine j_gfC (pc := 7) (i := 2) (by decide) (by decide) (lw_b10 119 (by decide +kernel) rfl : Cond.fieldLink RJ0 15 "java/lang/String" "coder" "B" ∈ lw_g) (by decide +kernel) ?_
    show J_ zJ0_coder_7d493 T (po_J0_coder_2 T) 0 0 10 _ [vI 0] T
    refine j_blx (F := fJ0) tb_J0 (nn_ _) bk_J0_coder_7d493_10 bs_J0_coder_7d493_10 hz (fun K hK => ?_)
    refine hK 14 _ [vI 0] T ?_
    refine j_iretN (pc := 14) (Or.inr rfl) ⟨by decide, by decide⟩ (by decide +kernel) ?_
    refine (show po_J0_coder_2 T T (some (vI 0)) from ?_)
    exact ⟨rfl, rfl⟩
abbrev po_J0_isLatin1_2 (T : Zt) : Zt → Option Zv → Prop := fun T' r => T = T' ∧ r = some (vI (1))
set_option maxHeartbeats 4000000 in
theorem ct_J0_isLatin1_2 {T : Zt} : Ct_ yJ0_isLatin1_aae02 zJ0_isLatin1_aae02 T [vR 82 2] (po_J0_isLatin1_2 T) := by
  refine ct_of (by decide) rfl rfl (Nat.le_of_ble_eq_true rfl) (fun hT hav => ?_)
  have hz : zJ0_isLatin1_aae02.2.2.2.1 = some .boolean → ∀ (T' : Zt) (x : Int), po_J0_isLatin1_2 T T' (some (vI x)) → 0 ≤ x ∧ x ≤ 1 := fun _ T' x h => by obtain ⟨-, e⟩ := h; cases e; omega
  show J_ zJ0_isLatin1_aae02 T (po_J0_isLatin1_2 T) 0 0 0 [some (vR 82 2)] [] T
  refine j_gsC (pc := 0) (by decide) (lw_b3 3 (by decide +kernel) rfl : Cond.fieldLink RJ0 38 "java/lang/String" "COMPACT_STRINGS" "Z" ∈ lw_g) (by decide +kernel) ?_
  show J_ zJ0_isLatin1_aae02 T (po_J0_isLatin1_2 T) 0 0 3 _ [vI 1] T
  refine j_blx (F := fJ0) tb_J0 (nn_ _) bk_J0_isLatin1_aae02_3 bs_J0_isLatin1_aae02_3 hz (fun K hK => ?_)
  refine And.intro (fun c1 => ?_) (fun c1 => ?_)
  · exact absurd c1 (by decide)
  · refine hK 7 _ [vR 82 2] T ?_
    refine j_gfC (pc := 7) (i := 2) (by decide) (by decide) (lw_b10 119 (by decide +kernel) rfl : Cond.fieldLink RJ0 15 "java/lang/String" "coder" "B" ∈ lw_g) (by decide +kernel) ?_
    show J_ zJ0_isLatin1_aae02 T (po_J0_isLatin1_2 T) 0 0 10 _ [vI 0] T
    refine j_blx (F := fJ0) tb_J0 (nn_ _) bk_J0_isLatin1_aae02_10 bs_J0_isLatin1_aae02_10 hz (fun K hK => ?_)
    refine And.intro (fun c2 => ?_) (fun c2 => ?_)
    · exact absurd c2 (by decide)
    · refine hK 18 _ [vI 1] T ?_
      refine j_blx (F := fJ0) tb_J0 (nn_ _) bk_J0_isLatin1_aae02_18 bs_J0_isLatin1_aae02_18 hz (fun K hK => ?_)
      refine (show po_J0_isLatin1_2 T T (some (vI 1)) from ?_)
      exact ⟨rfl, rfl⟩
abbrev po_J0_length_2 (T : Zt) : Zt → Option Zv → Prop := fun T' r => T = T' ∧ r = some (vI (37))
set_option maxHeartbeats 4000000 in
theorem ct_J0_length_2 {T : Zt} : Ct_ yJ0_length_8abf5 zJ0_length_8abf5 T [vR 82 2] (po_J0_length_2 T) := by
  refine ct_of (by decide) rfl rfl (Nat.le_of_ble_eq_true rfl) (fun hT hav => ?_)
  have hz : zJ0_length_8abf5.2.2.2.1 = some .boolean → ∀ (T' : Zt) (x : Int), po_J0_length_2 T T' (some (vI x)) → 0 ≤ x ∧ x ≤ 1 := fun h => by cases h
  show J_ zJ0_length_8abf5 T (po_J0_length_2 T) 0 0 0 [some (vR 82 2)] [] T
  refine j_blx (F := fJ0) tb_J0 (nn_ _) bk_J0_length_8abf5_0 bs_J0_length_8abf5_0 hz (fun K hK => ?_)
  refine hK 1 _ [vR 82 2] T ?_
  refine j_gfV (pc := 1) (i := 2) (by decide) (by decide) (lw_b10 118 (by decide +kernel) rfl : Cond.fieldLink RJ0 9 "java/lang/String" "value" "[B" ∈ lw_g) (by decide +kernel) ?_
  show J_ zJ0_length_8abf5 T (po_J0_length_2 T) 0 0 4 _ [vR 83 2] T
  refine j_len83 (pc := 4) (i := 2) (n := 37) (by decide) (by decide) (by decide) (by decide) (by decide +kernel) ?_
  show J_ zJ0_length_8abf5 T (po_J0_length_2 T) 0 0 5 _ [vI 37] T
  refine j_blx (F := fJ0) tb_J0 (nn_ _) bk_J0_length_8abf5_5 bs_J0_length_8abf5_5 hz (fun K hK => ?_)
  refine hK 6 _ [vR 82 2, vI 37] T ?_
  refine j_callK (i := 2) (y := yJ0_coder_7d493) (Yc := zJ0_coder_7d493) (rest := [vI 37]) [] (by decide) (ct_J0_coder_2 (T := T)) ck82_J0_335 (by decide +kernel) (by decide) rfl (by decide +kernel) (Nat.le_of_ble_eq_true rfl) (by decide) (by decide) rfl ?_
  rintro _ _ ⟨rfl, rfl⟩
  show J_ zJ0_length_8abf5 T (po_J0_length_2 T) 0 0 9 _ [vI 0, vI 37] T
  refine j_blx (F := fJ0) tb_J0 (nn_ _) bk_J0_length_8abf5_9 bs_J0_length_8abf5_9 hz (fun K hK => ?_)
  intro w1 w1b
  refine (show po_J0_length_2 T T (some (vI (sr_ 37 0))) from ?_)
  exact ⟨rfl, by rw [show sr_ 37 0 = 37 by decide]⟩
abbrev po_J1_charAt_2 (T : Zt) (a : Int) : Zt → Option Zv → Prop := fun T' r => T = T' ∧ r = some (vI (cb8_ 2 a))
set_option maxHeartbeats 4000000 in
theorem ct_J1_charAt_2 {T : Zt} {a : Int} (h1 : 0 ≤ a ∧ a < 37) : Ct_ yJ1_charAt_3b067 zJ1_charAt_3b067 T [vR 83 2, vI a] (po_J1_charAt_2 T a) := by
  refine ct_of (by decide) rfl rfl (Nat.le_of_ble_eq_true rfl) (fun hT hav => ?_)
  have hr_a : -2147483648 ≤ a ∧ a ≤ 2147483647 := hav (vI a) (by simp)
  have hz : zJ1_charAt_3b067.2.2.2.1 = some .boolean → ∀ (T' : Zt) (x : Int), po_J1_charAt_2 T a T' (some (vI x)) → 0 ≤ x ∧ x ≤ 1 := fun h => by cases h
  show J_ zJ1_charAt_3b067 T (po_J1_charAt_2 T a) 0 0 0 [some (vR 83 2), some (vI a)] [] T
  refine j_blx (F := fJ1) tb_J1 (nn_ _) bk_J1_charAt_3b067_0 bs_J1_charAt_3b067_0 hz (fun K hK => ?_)
  refine hK 2 _ [vR 83 2, vI a] T ?_
  refine j_len83 (pc := 2) (i := 2) (n := 37) (by decide) (by decide) (by decide) (by decide) (by decide +kernel) ?_
  show J_ zJ1_charAt_3b067 T (po_J1_charAt_2 T a) 0 0 3 _ [vI 37, vI a] T
  refine j_callS (y := yJ0_checkIndex_df160) (Yc := zJ0_checkIndex_df160) (rest := []) [vI a, vI 37] (ct_J0_checkIndex_df160 (T := T) (by omega)) cl_J1_9 (qd_c (by decide +kernel)) (nn_ _) rfl (rf_of rfl) (Nat.le_of_ble_eq_true rfl) (Nat.le_of_ble_eq_true rfl) (Nat.le_of_ble_eq_true rfl) rfl ?_
  rintro _ _ ⟨rfl, rfl⟩
  show J_ zJ1_charAt_3b067 T (po_J1_charAt_2 T a) 0 0 6 _ [] T
  refine j_blx (F := fJ1) tb_J1 (nn_ _) bk_J1_charAt_3b067_6 bs_J1_charAt_3b067_6 hz (fun K hK => ?_)
  refine hK 8 _ [vI a, vR 83 2] T ?_
  refine j_ba83 (pc := 8) (i := 2) (n := 37) (by decide) (by decide) (by decide) (by omega) (by omega) (by decide) (fun k _ => ⟨i3_b _, bv_k (by decide) k⟩) (by decide +kernel) ?_
  have hcb := cb8_b (i := 2) (by decide) a
  show J_ zJ1_charAt_3b067 T (po_J1_charAt_2 T a) 0 0 9 _ [vI (cb8_ 2 a)] T
  refine j_blx (F := fJ1) tb_J1 (nn_ _) bk_J1_charAt_3b067_9 bs_J1_charAt_3b067_9 hz (fun K hK => ?_)
  intro w1 w1b
  refine hK 13 _ [vI (an_ (cb8_ 2 a) 255)] T ?_
  rw [an_25 hcb]
  refine j_i2c (pc := 13) (by decide) hcb (by decide +kernel) ?_
  show J_ zJ1_charAt_3b067 T (po_J1_charAt_2 T a) 0 0 14 _ [vI (cb8_ 2 a)] T
  refine j_iretN (pc := 14) (Or.inl rfl) hcb (by decide +kernel) ?_
  refine (show po_J1_charAt_2 T a T (some (vI (cb8_ 2 a))) from ?_)
  exact ⟨rfl, rfl⟩
abbrev po_J0_charAt_2 (T : Zt) (a : Int) : Zt → Option Zv → Prop := fun T' r => T = T' ∧ r = some (vI (cb8_ 2 a))
set_option maxHeartbeats 4000000 in
theorem ct_J0_charAt_2 {T : Zt} {a : Int} (h1 : 0 ≤ a ∧ a < 37) : Ct_ yJ0_charAt_5068e zJ0_charAt_5068e T [vR 82 2, vI a] (po_J0_charAt_2 T a) := by
  refine ct_of (by decide) rfl rfl (Nat.le_of_ble_eq_true rfl) (fun hT hav => ?_)
  have hr_a : -2147483648 ≤ a ∧ a ≤ 2147483647 := hav (vI a) (by simp)
  have hz : zJ0_charAt_5068e.2.2.2.1 = some .boolean → ∀ (T' : Zt) (x : Int), po_J0_charAt_2 T a T' (some (vI x)) → 0 ≤ x ∧ x ≤ 1 := fun h => by cases h
  show J_ zJ0_charAt_5068e T (po_J0_charAt_2 T a) 0 0 0 [some (vR 82 2), some (vI a)] [] T
  refine j_blx (F := fJ0) tb_J0 (nn_ _) bk_J0_charAt_5068e_0 bs_J0_charAt_5068e_0 hz (fun K hK => ?_)
  refine hK 1 _ [vR 82 2] T ?_
  refine j_callK (i := 2) (y := yJ0_isLatin1_aae02) (Yc := zJ0_isLatin1_aae02) (rest := []) [] (by decide) (ct_J0_isLatin1_2 (T := T)) ck82_J0_492 (by decide +kernel) (by decide) rfl (by decide +kernel) (Nat.le_of_ble_eq_true rfl) (by decide) (by decide) rfl ?_
  rintro _ _ ⟨rfl, rfl⟩
  show J_ zJ0_charAt_5068e T (po_J0_charAt_2 T a) 0 0 4 _ [vI 1] T
  refine j_blx (F := fJ0) tb_J0 (nn_ _) bk_J0_charAt_5068e_4 bs_J0_charAt_5068e_4 hz (fun K hK => ?_)
  refine And.intro (fun c1 => ?_) (fun c1 => ?_)
  · exact absurd c1 (by decide)
  · refine hK 8 _ [vR 82 2] T ?_
    refine j_gfV (pc := 8) (i := 2) (by decide) (by decide) (lw_b10 118 (by decide +kernel) rfl : Cond.fieldLink RJ0 9 "java/lang/String" "value" "[B" ∈ lw_g) (by decide +kernel) ?_
    show J_ zJ0_charAt_5068e T (po_J0_charAt_2 T a) 0 0 11 _ [vR 83 2] T
    refine j_blx (F := fJ0) tb_J0 (nn_ _) bk_J0_charAt_5068e_11 bs_J0_charAt_5068e_11 hz (fun K hK => ?_)
    refine hK 12 _ [vI a, vR 83 2] T ?_
    refine j_callS (y := yJ1_charAt_3b067) (Yc := zJ1_charAt_3b067) (rest := []) [vR 83 2, vI a] (ct_J1_charAt_2 (T := T) (by omega)) cl_J0_495 (qd_c (by decide +kernel)) (nn_ _) rfl (rf_of rfl) (Nat.le_of_ble_eq_true rfl) (Nat.le_of_ble_eq_true rfl) (Nat.le_of_ble_eq_true rfl) rfl ?_
    rintro _ _ ⟨rfl, rfl⟩
    show J_ zJ0_charAt_5068e T (po_J0_charAt_2 T a) 0 0 15 _ [vI (cb8_ 2 a)] T
    refine j_iretN (pc := 15) (Or.inl rfl) (cb8_b (by decide) a) (by decide +kernel) ?_
    refine (show po_J0_charAt_2 T a T (some (vI (cb8_ 2 a))) from ?_)
    exact ⟨rfl, rfl⟩
abbrev cX5_isBetween : ByteArray := prog_7_method_13_code
def yX5_isBetween : MethodName := ⟨RX5, "isBetween", "(III)Z"⟩
def zX5_isBetween : Zm := (RX5, cX5_isBetween, 4, (some .boolean), { frames := 0, cells := 0, slots := 0, locals := 0 })
theorem bk_X5_isBetween_0 : ck_ fX5 (some .boolean) cX5_isBetween 0 [.aload 0, .tableswitch 0 5 0 #[], .iload 1, .iaload, .iload 2, .if_icmp .lt 24, .aload 0, .tableswitch 0 5 0 #[], .iload 1, .iaload, .iload 3, .if_icmp .gt 24, .iconst 1, .goto 25] 24 = true := qck_r (nn_ _) (by decide +kernel)
theorem bs_X5_isBetween_0 {P : Zt → Option Zv → Prop} (K : Int → Zl → List Zv → Zt → Prop) : sx_ K P [.aload 0, .tableswitch 0 5 0 #[], .iload 1, .iaload, .iload 2, .if_icmp .lt 24, .aload 0, .tableswitch 0 5 0 #[], .iload 1, .iaload, .iload 3, .if_icmp .gt 24, .iconst 1, .goto 25] 24 = x_aload 0 (x_g1 105 500 (x_iload 1 (x_iaload (x_iload 2 (x_if_icmp .lt 24 K (x_aload 0 (x_g1 105 500 (x_iload 1 (x_iaload (x_iload 3 (x_if_icmp .gt 24 K (x_iconst 1 (x_goto 25 K))))))))))))) := ((xe_aload 0).trans (congrArg (x_aload 0) ((xe_g1 (kk := 105) rfl tl_5_0).trans (congrArg (x_g1 105 500) ((xe_iload 1).trans (congrArg (x_iload 1) ((xe_iaload).trans (congrArg (x_iaload) ((xe_iload 2).trans (congrArg (x_iload 2) ((xe_if_icmp .lt 24).trans (congrArg (x_if_icmp .lt 24 K) ((xe_aload 0).trans (congrArg (x_aload 0) ((xe_g1 (kk := 105) rfl tl_5_0).trans (congrArg (x_g1 105 500) ((xe_iload 1).trans (congrArg (x_iload 1) ((xe_iaload).trans (congrArg (x_iaload) ((xe_iload 3).trans (congrArg (x_iload 3) ((xe_if_icmp .gt 24).trans (congrArg (x_if_icmp .gt 24 K) ((xe_iconst 1).trans (congrArg (x_iconst 1) (xe_goto 25)))))))))))))))))))))))))))
theorem bk_X5_isBetween_24 : ck_ fX5 (some .boolean) cX5_isBetween 24 [.iconst 0, .ireturn] 26 = true := qck_r (nn_ _) (by decide +kernel)
theorem bs_X5_isBetween_24 {P : Zt → Option Zv → Prop} (K : Int → Zl → List Zv → Zt → Prop) : sx_ K P [.iconst 0, .ireturn] 26 = x_iconst 0 (x_ireturn P) := ((xe_iconst 0).trans (congrArg (x_iconst 0) (xe_ireturn)))
theorem bk_X5_isBetween_25 : ck_ fX5 (some .boolean) cX5_isBetween 25 [.ireturn] 26 = true := qck_r (nn_ _) (by decide +kernel)
theorem bs_X5_isBetween_25 {P : Zt → Option Zv → Prop} (K : Int → Zl → List Zv → Zt → Prop) : sx_ K P [.ireturn] 26 = x_ireturn P := (xe_ireturn)
abbrev cX5_takeRun : ByteArray := prog_7_method_12_code
def yX5_takeRun : MethodName := ⟨RX5, "takeRun", "(IIII)V"⟩
def zX5_takeRun : Zm := (RX5, cX5_takeRun, 5, none, { frames := 1, cells := 0, slots := 0, locals := 23 })
theorem bk_X5_takeRun_0 : ck_ fX5 none cX5_takeRun 0 [.aload 0, .tableswitch 0 5 9 #[], .aload 0, .tableswitch 0 5 1 #[], .if_icmp .ge 37, .aload 0, .aload 0, .tableswitch 0 5 9 #[], .iload 1, .iload 2] 18 = true := qck_r (nn_ _) (by decide +kernel)
theorem bs_X5_takeRun_0 {P : Zt → Option Zv → Prop} (K : Int → Zl → List Zv → Zt → Prop) : sx_ K P [.aload 0, .tableswitch 0 5 9 #[], .aload 0, .tableswitch 0 5 1 #[], .if_icmp .ge 37, .aload 0, .aload 0, .tableswitch 0 5 9 #[], .iload 1, .iload 2] 18 = x_aload 0 (x_g0 105 9 0 400 (x_aload 0 (x_g0 105 1 0 400 (x_if_icmp .ge 37 K (x_aload 0 (x_aload 0 (x_g0 105 9 0 400 (x_iload 1 (x_iload 2 (K 18)))))))))) := ((xe_aload 0).trans (congrArg (x_aload 0) ((xe_g0 (kk := 105) rfl tl_5_9).trans (congrArg (x_g0 105 9 0 400) ((xe_aload 0).trans (congrArg (x_aload 0) ((xe_g0 (kk := 105) rfl tl_5_1).trans (congrArg (x_g0 105 1 0 400) ((xe_if_icmp .ge 37).trans (congrArg (x_if_icmp .ge 37 K) ((xe_aload 0).trans (congrArg (x_aload 0) ((xe_aload 0).trans (congrArg (x_aload 0) ((xe_g0 (kk := 105) rfl tl_5_9).trans (congrArg (x_g0 105 9 0 400) ((xe_iload 1).trans (congrArg (x_iload 1) ((xe_iload 2).trans (congrArg (x_iload 2) xe_nil))))))))))))))))))))
theorem bk_X5_takeRun_37 : ck_ fX5 none cX5_takeRun 37 [.aload 0, .aload 0, .tableswitch 0 5 9 #[], .aload 0, .tableswitch 0 5 8 #[], .isub, .iload 4, .if_icmp .le 56, .iconst 5, .goto 57] 56 = true := qck_r (nn_ _) (by decide +kernel)
theorem bs_X5_takeRun_37 {P : Zt → Option Zv → Prop} (K : Int → Zl → List Zv → Zt → Prop) : sx_ K P [.aload 0, .aload 0, .tableswitch 0 5 9 #[], .aload 0, .tableswitch 0 5 8 #[], .isub, .iload 4, .if_icmp .le 56, .iconst 5, .goto 57] 56 = x_aload 0 (x_aload 0 (x_g0 105 9 0 400 (x_aload 0 (x_g0 105 8 0 400 (x_isub (x_iload 4 (x_if_icmp .le 56 K (x_iconst 5 (x_goto 57 K))))))))) := ((xe_aload 0).trans (congrArg (x_aload 0) ((xe_aload 0).trans (congrArg (x_aload 0) ((xe_g0 (kk := 105) rfl tl_5_9).trans (congrArg (x_g0 105 9 0 400) ((xe_aload 0).trans (congrArg (x_aload 0) ((xe_g0 (kk := 105) rfl tl_5_8).trans (congrArg (x_g0 105 8 0 400) ((xe_isub).trans (congrArg (x_isub) ((xe_iload 4).trans (congrArg (x_iload 4) ((xe_if_icmp .le 56).trans (congrArg (x_if_icmp .le 56 K) ((xe_iconst 5).trans (congrArg (x_iconst 5) (xe_goto 57)))))))))))))))))))
theorem bk_X5_takeRun_56 : ck_ fX5 none cX5_takeRun 56 [.iload 3, .tableswitch 1 5 7 #[], .return_] 61 = true := qck_r (nn_ _) (by decide +kernel)
theorem bs_X5_takeRun_56 {P : Zt → Option Zv → Prop} (K : Int → Zl → List Zv → Zt → Prop) : sx_ K P [.iload 3, .tableswitch 1 5 7 #[], .return_] 61 = x_iload 3 (x_p 105 7 0 5 (x_return_ P)) := ((xe_iload 3).trans (congrArg (x_iload 3) ((xe_p (kk := 105) rfl tl_5_7).trans (congrArg (x_p 105 7 0 5) (xe_return_)))))
theorem bk_X5_takeRun_57 : ck_ fX5 none cX5_takeRun 57 [.tableswitch 1 5 7 #[], .return_] 61 = true := qck_r (nn_ _) (by decide +kernel)
theorem bs_X5_takeRun_57 {P : Zt → Option Zv → Prop} (K : Int → Zl → List Zv → Zt → Prop) : sx_ K P [.tableswitch 1 5 7 #[], .return_] 61 = x_p 105 7 0 5 (x_return_ P) := ((xe_p (kk := 105) rfl tl_5_7).trans (congrArg (x_p 105 7 0 5) (xe_return_)))
set_option maxRecDepth 100000 in
theorem cl_X5_104 : cv_ RX5 104 yX5_isBetween zX5_isBetween 5 3 := ⟨gi_V (lw_b2 210 (by decide +kernel) rfl : Cond.methodLink RX5 104 yX5_isBetween ∈ lw_g) (lw_b2 212 (by decide +kernel) rfl : Cond.instanceMethod yX5_isBetween ∈ lw_g) (lw_sel 109 rfl : Cond.selects yX5_isBetween.cls yX5_isBetween yX5_isBetween ∈ lw_g) (lw_b1 2 (by decide +kernel) rfl : Cond.initialized yX5_isBetween.cls ∈ lw_g) (lw_b2 213 rfl rfl : Cond.code yX5_isBetween cX5_isBetween 4 (some .boolean) ∈ lw_g), ⟨by decide, by decide, by decide +kernel⟩, ⟨_, _, rfl⟩⟩
theorem bk_X5_takeRun_21 : ck_ fX5 none cX5_takeRun 21 [.ifCond .eq 37, .aload 0, .dup, .tableswitch 0 5 9 #[], .iconst 1, .iadd, .tableswitch 1 5 9 #[], .goto 0] 37 = true := qck_r (nn_ _) (by decide +kernel)
theorem bs_X5_takeRun_21 {P : Zt → Option Zv → Prop} (K : Int → Zl → List Zv → Zt → Prop) : sx_ K P [.ifCond .eq 37, .aload 0, .dup, .tableswitch 0 5 9 #[], .iconst 1, .iadd, .tableswitch 1 5 9 #[], .goto 0] 37 = x_ifCond .eq 37 K (x_aload 0 (x_dup (x_g0 105 9 0 400 (x_iconst 1 (x_iadd (x_p 105 9 0 400 (x_goto 0 K))))))) := ((xe_ifCond .eq 37).trans (congrArg (x_ifCond .eq 37 K) ((xe_aload 0).trans (congrArg (x_aload 0) ((xe_dup).trans (congrArg (x_dup) ((xe_g0 (kk := 105) rfl tl_5_9).trans (congrArg (x_g0 105 9 0 400) ((xe_iconst 1).trans (congrArg (x_iconst 1) ((xe_iadd).trans (congrArg (x_iadd) ((xe_p (kk := 105) rfl tl_5_9).trans (congrArg (x_p 105 9 0 400) (xe_goto 0)))))))))))))))
abbrev cX5_nextToken : ByteArray := prog_7_method_11_code
def yX5_nextToken : MethodName := ⟨RX5, "nextToken", "()V"⟩
def zX5_nextToken : Zm := (RX5, cX5_nextToken, 2, none, { frames := 2, cells := 0, slots := 0, locals := 47 })
theorem bk_X5_nextToken_5 : ck_ fX5 none cX5_nextToken 5 [.iload 1, .aload 0, .tableswitch 0 5 1 #[], .if_icmp .ge 41, .aload 0, .tableswitch 0 5 0 #[], .iload 1, .iaload, .iconst 10, .if_icmp .eq 35, .aload 0, .tableswitch 0 5 0 #[], .iload 1, .iaload, .iconst 32, .if_icmp .ne 41, .iinc 1 1, .goto 5] 41 = true := qck_r (nn_ _) (by decide +kernel)
theorem bs_X5_nextToken_5 {P : Zt → Option Zv → Prop} (K : Int → Zl → List Zv → Zt → Prop) : sx_ K P [.iload 1, .aload 0, .tableswitch 0 5 1 #[], .if_icmp .ge 41, .aload 0, .tableswitch 0 5 0 #[], .iload 1, .iaload, .iconst 10, .if_icmp .eq 35, .aload 0, .tableswitch 0 5 0 #[], .iload 1, .iaload, .iconst 32, .if_icmp .ne 41, .iinc 1 1, .goto 5] 41 = x_iload 1 (x_aload 0 (x_g0 105 1 0 400 (x_if_icmp .ge 41 K (x_aload 0 (x_g1 105 500 (x_iload 1 (x_iaload (x_iconst 10 (x_if_icmp .eq 35 K (x_aload 0 (x_g1 105 500 (x_iload 1 (x_iaload (x_iconst 32 (x_if_icmp .ne 41 K (x_iinc 1 1 (x_goto 5 K))))))))))))))))) := ((xe_iload 1).trans (congrArg (x_iload 1) ((xe_aload 0).trans (congrArg (x_aload 0) ((xe_g0 (kk := 105) rfl tl_5_1).trans (congrArg (x_g0 105 1 0 400) ((xe_if_icmp .ge 41).trans (congrArg (x_if_icmp .ge 41 K) ((xe_aload 0).trans (congrArg (x_aload 0) ((xe_g1 (kk := 105) rfl tl_5_0).trans (congrArg (x_g1 105 500) ((xe_iload 1).trans (congrArg (x_iload 1) ((xe_iaload).trans (congrArg (x_iaload) ((xe_iconst 10).trans (congrArg (x_iconst 10) ((xe_if_icmp .eq 35).trans (congrArg (x_if_icmp .eq 35 K) ((xe_aload 0).trans (congrArg (x_aload 0) ((xe_g1 (kk := 105) rfl tl_5_0).trans (congrArg (x_g1 105 500) ((xe_iload 1).trans (congrArg (x_iload 1) ((xe_iaload).trans (congrArg (x_iaload) ((xe_iconst 32).trans (congrArg (x_iconst 32) ((xe_if_icmp .ne 41).trans (congrArg (x_if_icmp .ne 41 K) ((xe_iinc 1 1).trans (congrArg (x_iinc 1 1) (xe_goto 5)))))))))))))))))))))))))))))))))))
theorem bk_X5_nextToken_41 : ck_ fX5 none cX5_nextToken 41 [.aload 0, .iload 1, .tableswitch 1 5 8 #[], .aload 0, .iload 1, .tableswitch 1 5 9 #[], .iload 1, .aload 0, .tableswitch 0 5 1 #[], .if_icmp .lt 67, .aload 0, .iconst 0, .tableswitch 1 5 7 #[], .goto 160] 67 = true := qck_r (nn_ _) (by decide +kernel)
theorem bs_X5_nextToken_41 {P : Zt → Option Zv → Prop} (K : Int → Zl → List Zv → Zt → Prop) : sx_ K P [.aload 0, .iload 1, .tableswitch 1 5 8 #[], .aload 0, .iload 1, .tableswitch 1 5 9 #[], .iload 1, .aload 0, .tableswitch 0 5 1 #[], .if_icmp .lt 67, .aload 0, .iconst 0, .tableswitch 1 5 7 #[], .goto 160] 67 = x_aload 0 (x_iload 1 (x_p 105 8 0 400 (x_aload 0 (x_iload 1 (x_p 105 9 0 400 (x_iload 1 (x_aload 0 (x_g0 105 1 0 400 (x_if_icmp .lt 67 K (x_aload 0 (x_iconst 0 (x_p 105 7 0 5 (x_goto 160 K))))))))))))) := ((xe_aload 0).trans (congrArg (x_aload 0) ((xe_iload 1).trans (congrArg (x_iload 1) ((xe_p (kk := 105) rfl tl_5_8).trans (congrArg (x_p 105 8 0 400) ((xe_aload 0).trans (congrArg (x_aload 0) ((xe_iload 1).trans (congrArg (x_iload 1) ((xe_p (kk := 105) rfl tl_5_9).trans (congrArg (x_p 105 9 0 400) ((xe_iload 1).trans (congrArg (x_iload 1) ((xe_aload 0).trans (congrArg (x_aload 0) ((xe_g0 (kk := 105) rfl tl_5_1).trans (congrArg (x_g0 105 1 0 400) ((xe_if_icmp .lt 67).trans (congrArg (x_if_icmp .lt 67 K) ((xe_aload 0).trans (congrArg (x_aload 0) ((xe_iconst 0).trans (congrArg (x_iconst 0) ((xe_p (kk := 105) rfl tl_5_7).trans (congrArg (x_p 105 7 0 5) (xe_goto 160)))))))))))))))))))))))))))
theorem bk_X5_nextToken_67 : ck_ fX5 none cX5_nextToken 67 [.aload 0, .iload 1, .iconst 97, .iconst 122] 73 = true := qck_r (nn_ _) (by decide +kernel)
theorem bs_X5_nextToken_67 {P : Zt → Option Zv → Prop} (K : Int → Zl → List Zv → Zt → Prop) : sx_ K P [.aload 0, .iload 1, .iconst 97, .iconst 122] 73 = x_aload 0 (x_iload 1 (x_iconst 97 (x_iconst 122 (K 73)))) := ((xe_aload 0).trans (congrArg (x_aload 0) ((xe_iload 1).trans (congrArg (x_iload 1) ((xe_iconst 97).trans (congrArg (x_iconst 97) ((xe_iconst 122).trans (congrArg (x_iconst 122) xe_nil))))))))
theorem bk_X5_nextToken_76 : ck_ fX5 none cX5_nextToken 76 [.ifCond .eq 93, .aload 0, .iconst 97, .iconst 122, .iconst 1, .iconst 12] 87 = true := qck_r (nn_ _) (by decide +kernel)
theorem bs_X5_nextToken_76 {P : Zt → Option Zv → Prop} (K : Int → Zl → List Zv → Zt → Prop) : sx_ K P [.ifCond .eq 93, .aload 0, .iconst 97, .iconst 122, .iconst 1, .iconst 12] 87 = x_ifCond .eq 93 K (x_aload 0 (x_iconst 97 (x_iconst 122 (x_iconst 1 (x_iconst 12 (K 87)))))) := ((xe_ifCond .eq 93).trans (congrArg (x_ifCond .eq 93 K) ((xe_aload 0).trans (congrArg (x_aload 0) ((xe_iconst 97).trans (congrArg (x_iconst 97) ((xe_iconst 122).trans (congrArg (x_iconst 122) ((xe_iconst 1).trans (congrArg (x_iconst 1) ((xe_iconst 12).trans (congrArg (x_iconst 12) xe_nil))))))))))))
theorem bk_X5_nextToken_93 : ck_ fX5 none cX5_nextToken 93 [.aload 0, .iload 1, .iconst 48, .iconst 57] 99 = true := qck_r (nn_ _) (by decide +kernel)
theorem bs_X5_nextToken_93 {P : Zt → Option Zv → Prop} (K : Int → Zl → List Zv → Zt → Prop) : sx_ K P [.aload 0, .iload 1, .iconst 48, .iconst 57] 99 = x_aload 0 (x_iload 1 (x_iconst 48 (x_iconst 57 (K 99)))) := ((xe_aload 0).trans (congrArg (x_aload 0) ((xe_iload 1).trans (congrArg (x_iload 1) ((xe_iconst 48).trans (congrArg (x_iconst 48) ((xe_iconst 57).trans (congrArg (x_iconst 57) xe_nil))))))))
theorem bk_X5_nextToken_102 : ck_ fX5 none cX5_nextToken 102 [.ifCond .eq 118, .aload 0, .iconst 48, .iconst 57, .iconst 2, .iconst 3] 112 = true := qck_r (nn_ _) (by decide +kernel)
theorem bs_X5_nextToken_102 {P : Zt → Option Zv → Prop} (K : Int → Zl → List Zv → Zt → Prop) : sx_ K P [.ifCond .eq 118, .aload 0, .iconst 48, .iconst 57, .iconst 2, .iconst 3] 112 = x_ifCond .eq 118 K (x_aload 0 (x_iconst 48 (x_iconst 57 (x_iconst 2 (x_iconst 3 (K 112)))))) := ((xe_ifCond .eq 118).trans (congrArg (x_ifCond .eq 118 K) ((xe_aload 0).trans (congrArg (x_aload 0) ((xe_iconst 48).trans (congrArg (x_iconst 48) ((xe_iconst 57).trans (congrArg (x_iconst 57) ((xe_iconst 2).trans (congrArg (x_iconst 2) ((xe_iconst 3).trans (congrArg (x_iconst 3) xe_nil))))))))))))
theorem bk_X5_nextToken_118 : ck_ fX5 none cX5_nextToken 118 [.aload 0, .iload 1, .iconst 1, .iadd, .tableswitch 1 5 9 #[], .aload 0, .aload 0, .tableswitch 0 5 0 #[], .iload 1, .iaload, .iconst 59, .if_icmp .ne 141, .iconst 3, .goto 157] 141 = true := qck_r (nn_ _) (by decide +kernel)
theorem bs_X5_nextToken_118 {P : Zt → Option Zv → Prop} (K : Int → Zl → List Zv → Zt → Prop) : sx_ K P [.aload 0, .iload 1, .iconst 1, .iadd, .tableswitch 1 5 9 #[], .aload 0, .aload 0, .tableswitch 0 5 0 #[], .iload 1, .iaload, .iconst 59, .if_icmp .ne 141, .iconst 3, .goto 157] 141 = x_aload 0 (x_iload 1 (x_iconst 1 (x_iadd (x_p 105 9 0 400 (x_aload 0 (x_aload 0 (x_g1 105 500 (x_iload 1 (x_iaload (x_iconst 59 (x_if_icmp .ne 141 K (x_iconst 3 (x_goto 157 K))))))))))))) := ((xe_aload 0).trans (congrArg (x_aload 0) ((xe_iload 1).trans (congrArg (x_iload 1) ((xe_iconst 1).trans (congrArg (x_iconst 1) ((xe_iadd).trans (congrArg (x_iadd) ((xe_p (kk := 105) rfl tl_5_9).trans (congrArg (x_p 105 9 0 400) ((xe_aload 0).trans (congrArg (x_aload 0) ((xe_aload 0).trans (congrArg (x_aload 0) ((xe_g1 (kk := 105) rfl tl_5_0).trans (congrArg (x_g1 105 500) ((xe_iload 1).trans (congrArg (x_iload 1) ((xe_iaload).trans (congrArg (x_iaload) ((xe_iconst 59).trans (congrArg (x_iconst 59) ((xe_if_icmp .ne 141).trans (congrArg (x_if_icmp .ne 141 K) ((xe_iconst 3).trans (congrArg (x_iconst 3) (xe_goto 157)))))))))))))))))))))))))))
theorem bk_X5_nextToken_141 : ck_ fX5 none cX5_nextToken 141 [.aload 0, .tableswitch 0 5 0 #[], .iload 1, .iaload, .iconst 44, .if_icmp .ne 156, .iconst 4, .goto 157] 156 = true := qck_r (nn_ _) (by decide +kernel)
theorem bs_X5_nextToken_141 {P : Zt → Option Zv → Prop} (K : Int → Zl → List Zv → Zt → Prop) : sx_ K P [.aload 0, .tableswitch 0 5 0 #[], .iload 1, .iaload, .iconst 44, .if_icmp .ne 156, .iconst 4, .goto 157] 156 = x_aload 0 (x_g1 105 500 (x_iload 1 (x_iaload (x_iconst 44 (x_if_icmp .ne 156 K (x_iconst 4 (x_goto 157 K))))))) := ((xe_aload 0).trans (congrArg (x_aload 0) ((xe_g1 (kk := 105) rfl tl_5_0).trans (congrArg (x_g1 105 500) ((xe_iload 1).trans (congrArg (x_iload 1) ((xe_iaload).trans (congrArg (x_iaload) ((xe_iconst 44).trans (congrArg (x_iconst 44) ((xe_if_icmp .ne 156).trans (congrArg (x_if_icmp .ne 156 K) ((xe_iconst 4).trans (congrArg (x_iconst 4) (xe_goto 157)))))))))))))))
theorem bk_X5_nextToken_156 : ck_ fX5 none cX5_nextToken 156 [.iconst 5, .tableswitch 1 5 7 #[], .return_] 161 = true := qck_r (nn_ _) (by decide +kernel)
theorem bs_X5_nextToken_156 {P : Zt → Option Zv → Prop} (K : Int → Zl → List Zv → Zt → Prop) : sx_ K P [.iconst 5, .tableswitch 1 5 7 #[], .return_] 161 = x_iconst 5 (x_p 105 7 0 5 (x_return_ P)) := ((xe_iconst 5).trans (congrArg (x_iconst 5) ((xe_p (kk := 105) rfl tl_5_7).trans (congrArg (x_p 105 7 0 5) (xe_return_)))))
theorem bk_X5_nextToken_157 : ck_ fX5 none cX5_nextToken 157 [.tableswitch 1 5 7 #[], .return_] 161 = true := qck_r (nn_ _) (by decide +kernel)
theorem bs_X5_nextToken_157 {P : Zt → Option Zv → Prop} (K : Int → Zl → List Zv → Zt → Prop) : sx_ K P [.tableswitch 1 5 7 #[], .return_] 161 = x_p 105 7 0 5 (x_return_ P) := ((xe_p (kk := 105) rfl tl_5_7).trans (congrArg (x_p 105 7 0 5) (xe_return_)))
set_option maxRecDepth 100000 in
theorem cl_X5_108 : cv_ RX5 108 yX5_takeRun zX5_takeRun 5 4 := ⟨gi_V (lw_b2 214 (by decide +kernel) rfl : Cond.methodLink RX5 108 yX5_takeRun ∈ lw_g) (lw_b2 216 (by decide +kernel) rfl : Cond.instanceMethod yX5_takeRun ∈ lw_g) (lw_sel 117 rfl : Cond.selects yX5_takeRun.cls yX5_takeRun yX5_takeRun ∈ lw_g) (lw_b1 2 (by decide +kernel) rfl : Cond.initialized yX5_takeRun.cls ∈ lw_g) (lw_b2 217 rfl rfl : Cond.code yX5_takeRun cX5_takeRun 5 none ∈ lw_g), ⟨by decide, by decide, by decide +kernel⟩, ⟨_, _, rfl⟩⟩
theorem bk_X5_nextToken_115 : ck_ fX5 none cX5_nextToken 115 [.goto 160] 118 = true := qck_r (nn_ _) (by decide +kernel)
theorem bs_X5_nextToken_115 {P : Zt → Option Zv → Prop} (K : Int → Zl → List Zv → Zt → Prop) : sx_ K P [.goto 160] 118 = x_goto 160 K := (xe_goto 160)
theorem bk_X5_nextToken_160 : ck_ fX5 none cX5_nextToken 160 [.return_] 161 = true := qck_r (nn_ _) (by decide +kernel)
theorem bs_X5_nextToken_160 {P : Zt → Option Zv → Prop} (K : Int → Zl → List Zv → Zt → Prop) : sx_ K P [.return_] 161 = x_return_ P := (xe_return_)
theorem bk_X5_nextToken_90 : ck_ fX5 none cX5_nextToken 90 [.goto 160] 93 = true := qck_r (nn_ _) (by decide +kernel)
theorem bs_X5_nextToken_90 {P : Zt → Option Zv → Prop} (K : Int → Zl → List Zv → Zt → Prop) : sx_ K P [.goto 160] 93 = x_goto 160 K := (xe_goto 160)
theorem bk_X5_nextToken_35 : ck_ fX5 none cX5_nextToken 35 [.iinc 1 1, .goto 5] 41 = true := qck_r (nn_ _) (by decide +kernel)
theorem bs_X5_nextToken_35 {P : Zt → Option Zv → Prop} (K : Int → Zl → List Zv → Zt → Prop) : sx_ K P [.iinc 1 1, .goto 5] 41 = x_iinc 1 1 (x_goto 5 K) := ((xe_iinc 1 1).trans (congrArg (x_iinc 1 1) (xe_goto 5)))
theorem bk_X5_nextToken_0 : ck_ fX5 none cX5_nextToken 0 [.aload 0, .tableswitch 0 5 9 #[], .istore 1] 5 = true := qck_r (nn_ _) (by decide +kernel)
theorem bs_X5_nextToken_0 {P : Zt → Option Zv → Prop} (K : Int → Zl → List Zv → Zt → Prop) : sx_ K P [.aload 0, .tableswitch 0 5 9 #[], .istore 1] 5 = x_aload 0 (x_g0 105 9 0 400 (x_istore 1 (K 5))) := ((xe_aload 0).trans (congrArg (x_aload 0) ((xe_g0 (kk := 105) rfl tl_5_9).trans (congrArg (x_g0 105 9 0 400) ((xe_istore 1).trans (congrArg (x_istore 1) xe_nil))))))
abbrev cX5_fail : ByteArray := prog_7_method_8_code
def yX5_fail : MethodName := ⟨RX5, "fail", "(I)Z"⟩
def zX5_fail : Zm := (RX5, cX5_fail, 2, (some .boolean), { frames := 0, cells := 0, slots := 0, locals := 0 })
theorem bk_X5_fail_0 : ck_ fX5 (some .boolean) cX5_fail 0 [.aload 0, .iload 1, .tableswitch 1 5 2 #[], .aload 0, .aload 0, .tableswitch 0 5 8 #[], .tableswitch 1 5 3 #[], .iconst 0, .ireturn] 15 = true := qck_r (nn_ _) (by decide +kernel)
theorem bs_X5_fail_0 {P : Zt → Option Zv → Prop} (K : Int → Zl → List Zv → Zt → Prop) : sx_ K P [.aload 0, .iload 1, .tableswitch 1 5 2 #[], .aload 0, .aload 0, .tableswitch 0 5 8 #[], .tableswitch 1 5 3 #[], .iconst 0, .ireturn] 15 = x_aload 0 (x_iload 1 (x_p 105 2 0 5 (x_aload 0 (x_aload 0 (x_g0 105 8 0 400 (x_p 105 3 (-1) 400 (x_iconst 0 (x_ireturn P)))))))) := ((xe_aload 0).trans (congrArg (x_aload 0) ((xe_iload 1).trans (congrArg (x_iload 1) ((xe_p (kk := 105) rfl tl_5_2).trans (congrArg (x_p 105 2 0 5) ((xe_aload 0).trans (congrArg (x_aload 0) ((xe_aload 0).trans (congrArg (x_aload 0) ((xe_g0 (kk := 105) rfl tl_5_8).trans (congrArg (x_g0 105 8 0 400) ((xe_p (kk := 105) rfl tl_5_3).trans (congrArg (x_p 105 3 (-1) 400) ((xe_iconst 0).trans (congrArg (x_iconst 0) (xe_ireturn)))))))))))))))))
abbrev cX5_isOfKind : ByteArray := prog_7_method_9_code
def yX5_isOfKind : MethodName := ⟨RX5, "isOfKind", "(I)Z"⟩
def zX5_isOfKind : Zm := (RX5, cX5_isOfKind, 2, (some .boolean), { frames := 1, cells := 0, slots := 0, locals := 21 })
theorem bk_X5_isOfKind_0 : ck_ fX5 (some .boolean) cX5_isOfKind 0 [.aload 0, .tableswitch 0 5 7 #[], .iconst 5, .if_icmp .ne 14, .aload 0, .iconst 1] 10 = true := qck_r (nn_ _) (by decide +kernel)
theorem bs_X5_isOfKind_0 {P : Zt → Option Zv → Prop} (K : Int → Zl → List Zv → Zt → Prop) : sx_ K P [.aload 0, .tableswitch 0 5 7 #[], .iconst 5, .if_icmp .ne 14, .aload 0, .iconst 1] 10 = x_aload 0 (x_g0 105 7 0 5 (x_iconst 5 (x_if_icmp .ne 14 K (x_aload 0 (x_iconst 1 (K 10)))))) := ((xe_aload 0).trans (congrArg (x_aload 0) ((xe_g0 (kk := 105) rfl tl_5_7).trans (congrArg (x_g0 105 7 0 5) ((xe_iconst 5).trans (congrArg (x_iconst 5) ((xe_if_icmp .ne 14).trans (congrArg (x_if_icmp .ne 14 K) ((xe_aload 0).trans (congrArg (x_aload 0) ((xe_iconst 1).trans (congrArg (x_iconst 1) xe_nil))))))))))))
theorem bk_X5_isOfKind_14 : ck_ fX5 (some .boolean) cX5_isOfKind 14 [.aload 0, .tableswitch 0 5 7 #[], .iload 1, .if_icmp .eq 30, .aload 0, .iconst 2] 24 = true := qck_r (nn_ _) (by decide +kernel)
theorem bs_X5_isOfKind_14 {P : Zt → Option Zv → Prop} (K : Int → Zl → List Zv → Zt → Prop) : sx_ K P [.aload 0, .tableswitch 0 5 7 #[], .iload 1, .if_icmp .eq 30, .aload 0, .iconst 2] 24 = x_aload 0 (x_g0 105 7 0 5 (x_iload 1 (x_if_icmp .eq 30 K (x_aload 0 (x_iconst 2 (K 24)))))) := ((xe_aload 0).trans (congrArg (x_aload 0) ((xe_g0 (kk := 105) rfl tl_5_7).trans (congrArg (x_g0 105 7 0 5) ((xe_iload 1).trans (congrArg (x_iload 1) ((xe_if_icmp .eq 30).trans (congrArg (x_if_icmp .eq 30 K) ((xe_aload 0).trans (congrArg (x_aload 0) ((xe_iconst 2).trans (congrArg (x_iconst 2) xe_nil))))))))))))
theorem bk_X5_isOfKind_30 : ck_ fX5 (some .boolean) cX5_isOfKind 30 [.iconst 1, .goto 35] 34 = true := qck_r (nn_ _) (by decide +kernel)
theorem bs_X5_isOfKind_30 {P : Zt → Option Zv → Prop} (K : Int → Zl → List Zv → Zt → Prop) : sx_ K P [.iconst 1, .goto 35] 34 = x_iconst 1 (x_goto 35 K) := ((xe_iconst 1).trans (congrArg (x_iconst 1) (xe_goto 35)))
theorem bk_X5_isOfKind_35 : ck_ fX5 (some .boolean) cX5_isOfKind 35 [.ireturn] 36 = true := qck_r (nn_ _) (by decide +kernel)
theorem bs_X5_isOfKind_35 {P : Zt → Option Zv → Prop} (K : Int → Zl → List Zv → Zt → Prop) : sx_ K P [.ireturn] 36 = x_ireturn P := (xe_ireturn)
set_option maxRecDepth 100000 in
theorem cl_X5_59 : cv_ RX5 59 yX5_fail zX5_fail 5 1 := ⟨gi_V (lw_b2 231 (by decide +kernel) rfl : Cond.methodLink RX5 59 yX5_fail ∈ lw_g) (lw_b2 233 (by decide +kernel) rfl : Cond.instanceMethod yX5_fail ∈ lw_g) (lw_sel 108 rfl : Cond.selects yX5_fail.cls yX5_fail yX5_fail ∈ lw_g) (lw_b1 2 (by decide +kernel) rfl : Cond.initialized yX5_fail.cls ∈ lw_g) (lw_b2 234 rfl rfl : Cond.code yX5_fail cX5_fail 2 (some .boolean) ∈ lw_g), ⟨by decide, by decide, by decide +kernel⟩, ⟨_, _, rfl⟩⟩
theorem bk_X5_isOfKind_27 : ck_ fX5 (some .boolean) cX5_isOfKind 27 [.ifCond .eq 34, .iconst 1, .goto 35] 34 = true := qck_r (nn_ _) (by decide +kernel)
theorem bs_X5_isOfKind_27 {P : Zt → Option Zv → Prop} (K : Int → Zl → List Zv → Zt → Prop) : sx_ K P [.ifCond .eq 34, .iconst 1, .goto 35] 34 = x_ifCond .eq 34 K (x_iconst 1 (x_goto 35 K)) := ((xe_ifCond .eq 34).trans (congrArg (x_ifCond .eq 34 K) ((xe_iconst 1).trans (congrArg (x_iconst 1) (xe_goto 35)))))
theorem bk_X5_isOfKind_34 : ck_ fX5 (some .boolean) cX5_isOfKind 34 [.iconst 0, .ireturn] 36 = true := qck_r (nn_ _) (by decide +kernel)
theorem bs_X5_isOfKind_34 {P : Zt → Option Zv → Prop} (K : Int → Zl → List Zv → Zt → Prop) : sx_ K P [.iconst 0, .ireturn] 36 = x_iconst 0 (x_ireturn P) := ((xe_iconst 0).trans (congrArg (x_iconst 0) (xe_ireturn)))
theorem bk_X5_isOfKind_13 : ck_ fX5 (some .boolean) cX5_isOfKind 13 [.ireturn] 14 = true := qck_r (nn_ _) (by decide +kernel)
theorem bs_X5_isOfKind_13 {P : Zt → Option Zv → Prop} (K : Int → Zl → List Zv → Zt → Prop) : sx_ K P [.ireturn] 14 = x_ireturn P := (xe_ireturn)
abbrev cX5_wordOf : ByteArray := prog_7_method_10_code
def yX5_wordOf : MethodName := ⟨RX5, "wordOf", "(Ljava/lang/String;)I"⟩
def zX5_wordOf : Zm := (RX5, cX5_wordOf, 6, (some .int), { frames := 4, cells := 0, slots := 0, locals := 85 })
theorem bk_X5_wordOf_17 : ck_ fX5 (some .int) cX5_wordOf 17 [.iload 4, .aload 1] 20 = true := qck_r (nn_ _) (by decide +kernel)
theorem bs_X5_wordOf_17 {P : Zt → Option Zv → Prop} (K : Int → Zl → List Zv → Zt → Prop) : sx_ K P [.iload 4, .aload 1] 20 = x_iload 4 (x_aload 1 (K 20)) := ((xe_iload 4).trans (congrArg (x_iload 4) ((xe_aload 1).trans (congrArg (x_aload 1) xe_nil))))
set_option maxRecDepth 100000 in
theorem ck82_X5_92 : ck82_ RX5 92 yJ0_length_8abf5 zJ0_length_8abf5 0 := ⟨gi_V (lw_b2 235 (by decide +kernel) rfl : Cond.methodLink RX5 92 yJ0_length_8abf5 ∈ lw_g) (lw_b2 236 (by decide +kernel) rfl : Cond.instanceMethod yJ0_length_8abf5 ∈ lw_g) (lw_b2 237 (by decide +kernel) rfl : Cond.selects yJ0_length_8abf5.cls yJ0_length_8abf5 yJ0_length_8abf5 ∈ lw_g) (lw_b1 11 (by decide +kernel) rfl : Cond.initialized yJ0_length_8abf5.cls ∈ lw_g) (lw_b2 238 rfl rfl : Cond.code yJ0_length_8abf5 cJ0_length_8abf5 1 (some .int) ∈ lw_g), ⟨by decide, by decide, by decide +kernel⟩, rfl⟩
theorem bk_X5_wordOf_23 : ck_ fX5 (some .int) cX5_wordOf 23 [.if_icmp .ge 111, .aload 1, .iload 4] 29 = true := qck_r (nn_ _) (by decide +kernel)
theorem bs_X5_wordOf_23 {P : Zt → Option Zv → Prop} (K : Int → Zl → List Zv → Zt → Prop) : sx_ K P [.if_icmp .ge 111, .aload 1, .iload 4] 29 = x_if_icmp .ge 111 K (x_aload 1 (x_iload 4 (K 29))) := ((xe_if_icmp .ge 111).trans (congrArg (x_if_icmp .ge 111 K) ((xe_aload 1).trans (congrArg (x_aload 1) ((xe_iload 4).trans (congrArg (x_iload 4) xe_nil))))))
theorem bk_X5_wordOf_111 : ck_ fX5 (some .int) cX5_wordOf 111 [.aload 0, .iconst 3] 113 = true := qck_r (nn_ _) (by decide +kernel)
theorem bs_X5_wordOf_111 {P : Zt → Option Zv → Prop} (K : Int → Zl → List Zv → Zt → Prop) : sx_ K P [.aload 0, .iconst 3] 113 = x_aload 0 (x_iconst 3 (K 113)) := ((xe_aload 0).trans (congrArg (x_aload 0) ((xe_iconst 3).trans (congrArg (x_iconst 3) xe_nil))))
theorem bk_X5_wordOf_116 : ck_ fX5 (some .int) cX5_wordOf 116 [.pop, .iconst (-1), .ireturn] 119 = true := qck_r (nn_ _) (by decide +kernel)
theorem bs_X5_wordOf_116 {P : Zt → Option Zv → Prop} (K : Int → Zl → List Zv → Zt → Prop) : sx_ K P [.pop, .iconst (-1), .ireturn] 119 = x_pop (x_iconst (-1) (x_ireturn P)) := ((xe_pop).trans (congrArg (x_pop) ((xe_iconst (-1)).trans (congrArg (x_iconst (-1)) (xe_ireturn)))))
set_option maxRecDepth 100000 in
theorem ck82_X5_98 : ck82_ RX5 98 yJ0_charAt_5068e zJ0_charAt_5068e 1 := ⟨gi_V (lw_b3 5 (by decide +kernel) rfl : Cond.methodLink RX5 98 yJ0_charAt_5068e ∈ lw_g) (lw_b3 6 (by decide +kernel) rfl : Cond.instanceMethod yJ0_charAt_5068e ∈ lw_g) (lw_b3 7 (by decide +kernel) rfl : Cond.selects yJ0_charAt_5068e.cls yJ0_charAt_5068e yJ0_charAt_5068e ∈ lw_g) (lw_b1 11 (by decide +kernel) rfl : Cond.initialized yJ0_charAt_5068e.cls ∈ lw_g) (lw_b3 8 rfl rfl : Cond.code yJ0_charAt_5068e cJ0_charAt_5068e 2 (some .char) ∈ lw_g), ⟨by decide, by decide, by decide +kernel⟩, rfl⟩
theorem bk_X5_wordOf_32 : ck_ fX5 (some .int) cX5_wordOf 32 [.istore 5, .iload 5, .iconst 59, .if_icmp .ne 64, .iload 3, .aload 0, .tableswitch 0 5 9 #[], .aload 0, .tableswitch 0 5 8 #[], .isub, .if_icmp .ne 56, .iload 2, .ireturn] 56 = true := qck_r (nn_ _) (by decide +kernel)
theorem bs_X5_wordOf_32 {P : Zt → Option Zv → Prop} (K : Int → Zl → List Zv → Zt → Prop) : sx_ K P [.istore 5, .iload 5, .iconst 59, .if_icmp .ne 64, .iload 3, .aload 0, .tableswitch 0 5 9 #[], .aload 0, .tableswitch 0 5 8 #[], .isub, .if_icmp .ne 56, .iload 2, .ireturn] 56 = x_istore 5 (x_iload 5 (x_iconst 59 (x_if_icmp .ne 64 K (x_iload 3 (x_aload 0 (x_g0 105 9 0 400 (x_aload 0 (x_g0 105 8 0 400 (x_isub (x_if_icmp .ne 56 K (x_iload 2 (x_ireturn P)))))))))))) := ((xe_istore 5).trans (congrArg (x_istore 5) ((xe_iload 5).trans (congrArg (x_iload 5) ((xe_iconst 59).trans (congrArg (x_iconst 59) ((xe_if_icmp .ne 64).trans (congrArg (x_if_icmp .ne 64 K) ((xe_iload 3).trans (congrArg (x_iload 3) ((xe_aload 0).trans (congrArg (x_aload 0) ((xe_g0 (kk := 105) rfl tl_5_9).trans (congrArg (x_g0 105 9 0 400) ((xe_aload 0).trans (congrArg (x_aload 0) ((xe_g0 (kk := 105) rfl tl_5_8).trans (congrArg (x_g0 105 8 0 400) ((xe_isub).trans (congrArg (x_isub) ((xe_if_icmp .ne 56).trans (congrArg (x_if_icmp .ne 56 K) ((xe_iload 2).trans (congrArg (x_iload 2) (xe_ireturn)))))))))))))))))))))))))
theorem bk_X5_wordOf_64 : ck_ fX5 (some .int) cX5_wordOf 64 [.iload 3, .ifCond .lt 103, .aload 0, .tableswitch 0 5 8 #[], .iload 3, .iadd, .aload 0, .tableswitch 0 5 9 #[], .if_icmp .ge 103, .aload 0, .tableswitch 0 5 0 #[], .aload 0, .tableswitch 0 5 8 #[], .iload 3, .iadd, .iaload, .iload 5, .if_icmp .ne 103, .iinc 3 1, .goto 105] 103 = true := qck_r (nn_ _) (by decide +kernel)
theorem bs_X5_wordOf_64 {P : Zt → Option Zv → Prop} (K : Int → Zl → List Zv → Zt → Prop) : sx_ K P [.iload 3, .ifCond .lt 103, .aload 0, .tableswitch 0 5 8 #[], .iload 3, .iadd, .aload 0, .tableswitch 0 5 9 #[], .if_icmp .ge 103, .aload 0, .tableswitch 0 5 0 #[], .aload 0, .tableswitch 0 5 8 #[], .iload 3, .iadd, .iaload, .iload 5, .if_icmp .ne 103, .iinc 3 1, .goto 105] 103 = x_iload 3 (x_ifCond .lt 103 K (x_aload 0 (x_g0 105 8 0 400 (x_iload 3 (x_iadd (x_aload 0 (x_g0 105 9 0 400 (x_if_icmp .ge 103 K (x_aload 0 (x_g1 105 500 (x_aload 0 (x_g0 105 8 0 400 (x_iload 3 (x_iadd (x_iaload (x_iload 5 (x_if_icmp .ne 103 K (x_iinc 3 1 (x_goto 105 K))))))))))))))))))) := ((xe_iload 3).trans (congrArg (x_iload 3) ((xe_ifCond .lt 103).trans (congrArg (x_ifCond .lt 103 K) ((xe_aload 0).trans (congrArg (x_aload 0) ((xe_g0 (kk := 105) rfl tl_5_8).trans (congrArg (x_g0 105 8 0 400) ((xe_iload 3).trans (congrArg (x_iload 3) ((xe_iadd).trans (congrArg (x_iadd) ((xe_aload 0).trans (congrArg (x_aload 0) ((xe_g0 (kk := 105) rfl tl_5_9).trans (congrArg (x_g0 105 9 0 400) ((xe_if_icmp .ge 103).trans (congrArg (x_if_icmp .ge 103 K) ((xe_aload 0).trans (congrArg (x_aload 0) ((xe_g1 (kk := 105) rfl tl_5_0).trans (congrArg (x_g1 105 500) ((xe_aload 0).trans (congrArg (x_aload 0) ((xe_g0 (kk := 105) rfl tl_5_8).trans (congrArg (x_g0 105 8 0 400) ((xe_iload 3).trans (congrArg (x_iload 3) ((xe_iadd).trans (congrArg (x_iadd) ((xe_iaload).trans (congrArg (x_iaload) ((xe_iload 5).trans (congrArg (x_iload 5) ((xe_if_icmp .ne 103).trans (congrArg (x_if_icmp .ne 103 K) ((xe_iinc 3 1).trans (congrArg (x_iinc 3 1) (xe_goto 105)))))))))))))))))))))))))))))))))))))))
theorem bk_X5_wordOf_103 : ck_ fX5 (some .int) cX5_wordOf 103 [.iconst (-1), .istore 3, .iinc 4 1, .goto 17] 111 = true := qck_r (nn_ _) (by decide +kernel)
theorem bs_X5_wordOf_103 {P : Zt → Option Zv → Prop} (K : Int → Zl → List Zv → Zt → Prop) : sx_ K P [.iconst (-1), .istore 3, .iinc 4 1, .goto 17] 111 = x_iconst (-1) (x_istore 3 (x_iinc 4 1 (x_goto 17 K))) := ((xe_iconst (-1)).trans (congrArg (x_iconst (-1)) ((xe_istore 3).trans (congrArg (x_istore 3) ((xe_iinc 4 1).trans (congrArg (x_iinc 4 1) (xe_goto 17)))))))
theorem bk_X5_wordOf_105 : ck_ fX5 (some .int) cX5_wordOf 105 [.iinc 4 1, .goto 17] 111 = true := qck_r (nn_ _) (by decide +kernel)
theorem bs_X5_wordOf_105 {P : Zt → Option Zv → Prop} (K : Int → Zl → List Zv → Zt → Prop) : sx_ K P [.iinc 4 1, .goto 17] 111 = x_iinc 4 1 (x_goto 17 K) := ((xe_iinc 4 1).trans (congrArg (x_iinc 4 1) (xe_goto 17)))
theorem bk_X5_wordOf_56 : ck_ fX5 (some .int) cX5_wordOf 56 [.iinc 2 1, .iconst 0, .istore 3, .goto 105] 64 = true := qck_r (nn_ _) (by decide +kernel)
theorem bs_X5_wordOf_56 {P : Zt → Option Zv → Prop} (K : Int → Zl → List Zv → Zt → Prop) : sx_ K P [.iinc 2 1, .iconst 0, .istore 3, .goto 105] 64 = x_iinc 2 1 (x_iconst 0 (x_istore 3 (x_goto 105 K))) := ((xe_iinc 2 1).trans (congrArg (x_iinc 2 1) ((xe_iconst 0).trans (congrArg (x_iconst 0) ((xe_istore 3).trans (congrArg (x_istore 3) (xe_goto 105)))))))
theorem bk_X5_wordOf_0 : ck_ fX5 (some .int) cX5_wordOf 0 [.aload 0, .iconst 1] 2 = true := qck_r (nn_ _) (by decide +kernel)
theorem bs_X5_wordOf_0 {P : Zt → Option Zv → Prop} (K : Int → Zl → List Zv → Zt → Prop) : sx_ K P [.aload 0, .iconst 1] 2 = x_aload 0 (x_iconst 1 (K 2)) := ((xe_aload 0).trans (congrArg (x_aload 0) ((xe_iconst 1).trans (congrArg (x_iconst 1) xe_nil))))
set_option maxRecDepth 100000 in
theorem cl_X5_79 : cv_ RX5 79 yX5_isOfKind zX5_isOfKind 5 1 := ⟨gi_V (lw_b2 227 (by decide +kernel) rfl : Cond.methodLink RX5 79 yX5_isOfKind ∈ lw_g) (lw_b2 229 (by decide +kernel) rfl : Cond.instanceMethod yX5_isOfKind ∈ lw_g) (lw_sel 110 rfl : Cond.selects yX5_isOfKind.cls yX5_isOfKind yX5_isOfKind ∈ lw_g) (lw_b1 2 (by decide +kernel) rfl : Cond.initialized yX5_isOfKind.cls ∈ lw_g) (lw_b2 230 rfl rfl : Cond.code yX5_isOfKind cX5_isOfKind 2 (some .boolean) ∈ lw_g), ⟨by decide, by decide, by decide +kernel⟩, ⟨_, _, rfl⟩⟩
theorem bk_X5_wordOf_5 : ck_ fX5 (some .int) cX5_wordOf 5 [.ifCond .ne 10, .iconst (-1), .ireturn] 10 = true := qck_r (nn_ _) (by decide +kernel)
theorem bs_X5_wordOf_5 {P : Zt → Option Zv → Prop} (K : Int → Zl → List Zv → Zt → Prop) : sx_ K P [.ifCond .ne 10, .iconst (-1), .ireturn] 10 = x_ifCond .ne 10 K (x_iconst (-1) (x_ireturn P)) := ((xe_ifCond .ne 10).trans (congrArg (x_ifCond .ne 10 K) ((xe_iconst (-1)).trans (congrArg (x_iconst (-1)) (xe_ireturn)))))
theorem bk_X5_wordOf_10 : ck_ fX5 (some .int) cX5_wordOf 10 [.iconst 0, .istore 2, .iconst 0, .istore 3, .iconst 0, .istore 4] 17 = true := qck_r (nn_ _) (by decide +kernel)
theorem bs_X5_wordOf_10 {P : Zt → Option Zv → Prop} (K : Int → Zl → List Zv → Zt → Prop) : sx_ K P [.iconst 0, .istore 2, .iconst 0, .istore 3, .iconst 0, .istore 4] 17 = x_iconst 0 (x_istore 2 (x_iconst 0 (x_istore 3 (x_iconst 0 (x_istore 4 (K 17)))))) := ((xe_iconst 0).trans (congrArg (x_iconst 0) ((xe_istore 2).trans (congrArg (x_istore 2) ((xe_iconst 0).trans (congrArg (x_iconst 0) ((xe_istore 3).trans (congrArg (x_istore 3) ((xe_iconst 0).trans (congrArg (x_iconst 0) ((xe_istore 4).trans (congrArg (x_istore 4) xe_nil))))))))))))
/-- the values that were told are within their bounds -/
def VB8_ (T : Zt) : Prop := ∀ k : Int, 0 ≤ k → k < 16 → (sa_ 1).getD k.toNat 0 ≤ T 504 0 k ∧ T 504 0 k ≤ (sa_ 2).getD k.toNat 0
def VC8_ (T : Zt) : Prop := VB8_ T ∧ T 504 0 2 ≤ T 504 0 1
abbrev cX5_readRule : ByteArray := prog_7_method_6_code
def yX5_readRule : MethodName := ⟨RX5, "readRule", "(II)Z"⟩
def zX5_readRule : Zm := (RX5, cX5_readRule, 5, (some .boolean), { frames := 3, cells := 0, slots := 0, locals := 68 })
set_option maxRecDepth 100000 in
theorem cl_X5_43 : cv_ RX5 43 yX5_nextToken zX5_nextToken 5 0 := ⟨gi_V (lw_b2 206 (by decide +kernel) rfl : Cond.methodLink RX5 43 yX5_nextToken ∈ lw_g) (lw_b2 208 (by decide +kernel) rfl : Cond.instanceMethod yX5_nextToken ∈ lw_g) (lw_sel 111 rfl : Cond.selects yX5_nextToken.cls yX5_nextToken yX5_nextToken ∈ lw_g) (lw_b1 2 (by decide +kernel) rfl : Cond.initialized yX5_nextToken.cls ∈ lw_g) (lw_b2 209 rfl rfl : Cond.code yX5_nextToken cX5_nextToken 2 none ∈ lw_g), ⟨by decide, by decide, by decide +kernel⟩, ⟨_, _, rfl⟩⟩
abbrev cX5_readPoints : ByteArray := prog_7_method_5_code
def yX5_readPoints : MethodName := ⟨RX5, "readPoints", "()Z"⟩
def zX5_readPoints : Zm := (RX5, cX5_readPoints, 1, (some .boolean), { frames := 4, cells := 0, slots := 0, locals := 92 })
set_option maxRecDepth 100000 in
theorem cl_X5_75 : cv_ RX5 75 yX5_readRule zX5_readRule 5 2 := ⟨gi_V (lw_b3 54 (by decide +kernel) rfl : Cond.methodLink RX5 75 yX5_readRule ∈ lw_g) (lw_b3 56 (by decide +kernel) rfl : Cond.instanceMethod yX5_readRule ∈ lw_g) (lw_sel 114 rfl : Cond.selects yX5_readRule.cls yX5_readRule yX5_readRule ∈ lw_g) (lw_b1 2 (by decide +kernel) rfl : Cond.initialized yX5_readRule.cls ∈ lw_g) (lw_b3 57 rfl rfl : Cond.code yX5_readRule cX5_readRule 5 (some .boolean) ∈ lw_g), ⟨by decide, by decide, by decide +kernel⟩, ⟨_, _, rfl⟩⟩
abbrev cX5_readSport : ByteArray := prog_7_method_4_code
def yX5_readSport : MethodName := ⟨RX5, "readSport", "()Z"⟩
def zX5_readSport : Zm := (RX5, cX5_readSport, 2, (some .boolean), { frames := 5, cells := 0, slots := 0, locals := 110 })
set_option maxRecDepth 100000 in
theorem cl_X5_55 : cv_ RX5 55 yX5_wordOf zX5_wordOf 5 1 := ⟨gi_V (lw_b2 223 (by decide +kernel) rfl : Cond.methodLink RX5 55 yX5_wordOf ∈ lw_g) (lw_b2 225 (by decide +kernel) rfl : Cond.instanceMethod yX5_wordOf ∈ lw_g) (lw_sel 118 rfl : Cond.selects yX5_wordOf.cls yX5_wordOf yX5_wordOf ∈ lw_g) (lw_b1 2 (by decide +kernel) rfl : Cond.initialized yX5_wordOf.cls ∈ lw_g) (lw_b2 226 rfl rfl : Cond.code yX5_wordOf cX5_wordOf 6 (some .int) ∈ lw_g), ⟨by decide, by decide, by decide +kernel⟩, ⟨_, _, rfl⟩⟩
abbrev cX5_readOrder : ByteArray := prog_7_method_7_code
def yX5_readOrder : MethodName := ⟨RX5, "readOrder", "()Z"⟩
def zX5_readOrder : Zm := (RX5, cX5_readOrder, 4, (some .boolean), { frames := 5, cells := 0, slots := 0, locals := 110 })
abbrev cX5_readStatement : ByteArray := prog_7_method_3_code
def yX5_readStatement : MethodName := ⟨RX5, "readStatement", "()Z"⟩
def zX5_readStatement : Zm := (RX5, cX5_readStatement, 3, (some .boolean), { frames := 6, cells := 0, slots := 0, locals := 133 })
theorem ds_X5_readStatement_44 : decode cX5_readStatement 44 = .ok (.tableswitch 65 0 3 #[32, 40, 48, 53], 32) := by decide +kernel
set_option maxRecDepth 100000 in
theorem cl_X5_63 : cv_ RX5 63 yX5_readSport zX5_readSport 5 0 := ⟨gi_V (lw_b3 43 (by decide +kernel) rfl : Cond.methodLink RX5 63 yX5_readSport ∈ lw_g) (lw_b3 45 (by decide +kernel) rfl : Cond.instanceMethod yX5_readSport ∈ lw_g) (lw_sel 115 rfl : Cond.selects yX5_readSport.cls yX5_readSport yX5_readSport ∈ lw_g) (lw_b1 2 (by decide +kernel) rfl : Cond.initialized yX5_readSport.cls ∈ lw_g) (lw_b3 46 rfl rfl : Cond.code yX5_readSport cX5_readSport 2 (some .boolean) ∈ lw_g), ⟨by decide, by decide, by decide +kernel⟩, ⟨_, _, rfl⟩⟩
set_option maxRecDepth 100000 in
theorem cl_X5_66 : cv_ RX5 66 yX5_readPoints zX5_readPoints 5 0 := ⟨gi_V (lw_b3 48 (by decide +kernel) rfl : Cond.methodLink RX5 66 yX5_readPoints ∈ lw_g) (lw_b3 50 (by decide +kernel) rfl : Cond.instanceMethod yX5_readPoints ∈ lw_g) (lw_sel 113 rfl : Cond.selects yX5_readPoints.cls yX5_readPoints yX5_readPoints ∈ lw_g) (lw_b1 2 (by decide +kernel) rfl : Cond.initialized yX5_readPoints.cls ∈ lw_g) (lw_b3 51 rfl rfl : Cond.code yX5_readPoints cX5_readPoints 1 (some .boolean) ∈ lw_g), ⟨by decide, by decide, by decide +kernel⟩, ⟨_, _, rfl⟩⟩
set_option maxRecDepth 100000 in
theorem cl_X5_69 : cv_ RX5 69 yX5_readOrder zX5_readOrder 5 0 := ⟨gi_V (lw_b3 60 (by decide +kernel) rfl : Cond.methodLink RX5 69 yX5_readOrder ∈ lw_g) (lw_b3 62 (by decide +kernel) rfl : Cond.instanceMethod yX5_readOrder ∈ lw_g) (lw_sel 112 rfl : Cond.selects yX5_readOrder.cls yX5_readOrder yX5_readOrder ∈ lw_g) (lw_b1 2 (by decide +kernel) rfl : Cond.initialized yX5_readOrder.cls ∈ lw_g) (lw_b3 63 rfl rfl : Cond.code yX5_readOrder cX5_readOrder 4 (some .boolean) ∈ lw_g), ⟨by decide, by decide, by decide +kernel⟩, ⟨_, _, rfl⟩⟩
abbrev po_J7_fill_505 (T : Zt) (p : Int) (v : Int) : Zt → Option Zv → Prop := fun T' r => r = none ∧ fr_ [(505, [])] T T' ∧ oi_ T T' p ∧ ∀ j, 0 ≤ j → j < 7 → T' 505 p j = v
set_option maxHeartbeats 4000000 in
theorem ct_J7_fill_505 {T : Zt} {p : Int} {v : Int} (h1 : (-1) ≤ v ∧ v ≤ 6) : Ct_ yJ7_fill_53178 zJ7_fill_53178 T [vR 505 p, vI v] (po_J7_fill_505 T p v) := by
  refine ct_of (by decide) rfl rfl (Nat.le_of_ble_eq_true rfl) (fun hT hav => ?_)
  have hr_v : -2147483648 ≤ v ∧ v ≤ 2147483647 := hav (vI v) (by simp)
  have hz : zJ7_fill_53178.2.2.2.1 = some .boolean → ∀ (T' : Zt) (x : Int), po_J7_fill_505 T p v T' (some (vI x)) → 0 ≤ x ∧ x ≤ 1 := fun h => by cases h
  show J_ zJ7_fill_53178 T (po_J7_fill_505 T p v) 0 0 0 [some (vR 505 p), some (vI v), none, none] [] T
  have c_5 : ∀ (nn : Nat) (j : Int) (T1 : Zt), ((7 - j).toNat) ≤ nn → (fr_ [(505, [])] T T1) → (0 ≤ j ∧ j ≤ 7) → (oi_ T T1 p) → (∀ q, 0 ≤ q → q < j → T1 505 p q = v) → J_ zJ7_fill_53178 T (po_J7_fill_505 T p v) 0 0 5 [some (vR 505 p), some (vI v), some (vI j), some (vI 7)] [] T1 := by
    intro nn
    induction nn using Nat.strongRecOn with
    | _ nn ih_5 =>
      intro j T1 hm_5 hf_5 i1 o1 f1
      refine j_blx (F := fJ7) tb_J7 (nn_ _) bk_J7_fill_53178_5 bs_J7_fill_53178_5 hz (fun K hK => ?_)
      refine And.intro (fun c1 => ?_) (fun c1 => ?_)
      · refine hK 20 _ [] T1 ?_
        refine j_blx (F := fJ7) tb_J7 (nn_ _) bk_J7_fill_53178_20 bs_J7_fill_53178_20 hz (fun K hK => ?_)
        refine (show po_J7_fill_505 T p v T1 (none) from ?_)
        exact ⟨rfl, fr_t (fr_0 _ _) (fr_s hf_5 rfl), o1, fun q a b => f1 q a (by omega)⟩
      · refine iy_i (by omega) (by omega) ?_
        refine x_nm (fun U2 hU2 => ?_)
        have e3 := up_f hU2
        refine rg_i (by omega) ?_
        refine hK 5 [some (vR 505 p), some (vI v), some (vI (j + 1)), some (vI 7)] [] U2 ?_
        refine ih_5 _ ?_ (j + 1) U2 (Nat.le_refl _) ?_ ?_ ?_ ?_
        · omega
        · exact fr_u (fr_t (fr_0 _ _) (fr_s hf_5 rfl)) hU2 rfl
        · omega
        · exact oi_u o1 hU2
        · intro q a b
          by_cases z : q = j
          · rw [z]; exact up_f hU2
          · rw [up_g hU2 (fun y => z y.2.2)]; exact f1 q a (by omega)
  refine j_blx (F := fJ7) tb_J7 (nn_ _) bk_J7_fill_53178_0 bs_J7_fill_53178_0 hz (fun K hK => ?_)
  refine hK 5 [some (vR 505 p), some (vI v), some (vI 0), some (vI 7)] [] T ?_
  refine c_5 _ 0 T (Nat.le_refl _) ?_ ?_ ?_ ?_
  · exact fr_0 _ _
  · omega
  · exact oi_r
  · intro q a b; omega
abbrev cX5_read : ByteArray := prog_7_method_2_code
def yX5_read : MethodName := ⟨RX5, "read", "()Z"⟩
def zX5_read : Zm := (RX5, cX5_read, 2, (some .boolean), { frames := 7, cells := 0, slots := 0, locals := 155 })
set_option maxRecDepth 100000 in
theorem cl_X5_49 : cv_ RX5 49 yX5_readStatement zX5_readStatement 5 0 := ⟨gi_V (lw_b2 218 (by decide +kernel) rfl : Cond.methodLink RX5 49 yX5_readStatement ∈ lw_g) (lw_b2 220 (by decide +kernel) rfl : Cond.instanceMethod yX5_readStatement ∈ lw_g) (lw_sel 116 rfl : Cond.selects yX5_readStatement.cls yX5_readStatement yX5_readStatement ∈ lw_g) (lw_b1 2 (by decide +kernel) rfl : Cond.initialized yX5_readStatement.cls ∈ lw_g) (lw_b2 221 rfl rfl : Cond.code yX5_readStatement cX5_readStatement 3 (some .boolean) ∈ lw_g), ⟨by decide, by decide, by decide +kernel⟩, ⟨_, _, rfl⟩⟩
set_option maxRecDepth 100000 in
theorem cl_X5_37 : cs_ RX5 37 yJ7_fill_53178 zJ7_fill_53178 2 := ⟨gi_S (lw_b2 205 (by decide +kernel) rfl : Cond.methodLink RX5 37 yJ7_fill_53178 ∈ lw_g) (lw_b2 26 (by decide +kernel) rfl : Cond.static yJ7_fill_53178 ∈ lw_g) (lw_b1 7 (by decide +kernel) rfl : Cond.initialized yJ7_fill_53178.cls ∈ lw_g) (lw_b2 27 rfl rfl : Cond.code yJ7_fill_53178 cJ7_fill_53178 4 none ∈ lw_g), ⟨by decide, by decide, by decide +kernel⟩⟩
section JQ2
variable {Y Yc : Zm} {T0 T : Zt} {P : Zt → Option Zv → Prop} {bc bs bc' bs' : Nat} {pc : Int} {ls : Zl} {st rest : List Zv}
/-- a clone of an int row of the tables -/
theorem j_clone2 {idx k k0 : Nat} {lo hi lo0 hi0 i i0 n : Int} (hp : 0 ≤ pc) (ha0 : ta_ k0 = some (1, some n, lo0, hi0)) (ha : ta_ k = some (1, some n, lo, hi)) (hlo : lo ≤ lo0 ∧ hi0 ≤ hi) (hn : 0 ≤ n ∧ n ≤ 100000000) (hfr : ¬ al_ T k i) (how : ∀ o, ow_ k = some o → al_ T o i ∨ al_ T (o + 50) i) (hml : Cond.methodLink Y.1 idx ⟨"[I", "clone", "()Ljava/lang/Object;"⟩ ∈ lw_g) (hsm : Cond.sameMethod "[I" "java/lang/Object" "clone" "()Ljava/lang/Object;" ∈ lw_g) (hna : Cond.native ⟨"java/lang/Object", "clone", "()Ljava/lang/Object;"⟩ ∈ lw_g) (hin : Cond.instanceMethod ⟨"java/lang/Object", "clone", "()Ljava/lang/Object;"⟩ ∈ lw_g) (hse : Cond.selects "[I" ⟨"[I", "clone", "()Ljava/lang/Object;"⟩ ⟨"java/lang/Object", "clone", "()Ljava/lang/Object;"⟩ ∈ lw_g) (hf : 1 ≤ Y.2.2.2.2.frames) (hlo2 : 30 ≤ Y.2.2.2.2.locals) (hrest : st.length ≤ 8) (hb : bc' + 1 ≤ bc) (hbs : bs' + n.toNat ≤ bs) (hd : decode Y.2.1 pc.toNat = .ok (.invokevirtual idx, 3)) (kk : J_ Y T0 P bc' bs' (pc + 3) ls (vR k i :: st) (nu_ T k i n (T k0 i0))) : J_ Y T0 P bc bs pc ls (vR k0 i0 :: st) T := by
  intro l p e s m args below meth c D cA ad0 A X ad H locs cells slots lsC hc hs hR hS hB hT hL hl hln
  have hal : al_ T k0 i0 := ok_al (v := none) (by have := ta_ge ha0; omega) (ok_head hL)
  obtain ⟨ids, q0, hq, hids, hP, hD⟩ := rp_at hR hal
  have hw := wd_get (cA := cA) (ad := ad) (T := T) hq
  rw [ce_i ha0 (Or.inr rfl)] at hw
  have sm := en_sum (ad := ad) st
  have w := X.2.2.2.2.2.1
  have hk := ta_ge ha
  have hok : ok_T (nu_ T k i n (T k0 i0)) := ok_nu hT ⟨fun z => (by rw [z, ta_190] at ha; cases ha), fun z => (by rw [z, ta_191] at ha; cases ha)⟩ (by omega) ⟨hn.1, by omega⟩ (fun t m' lo' hi' h => by
    rw [ha] at h; cases h
    exact ⟨by omega, fun x hx => by have := hT.1 _ _ _ _ _ ha0 i0 x hx; omega⟩) (fun j c k' lo' hi' h => by rw [ta_tf ha] at h; simp at h) how
  have he : ∀ q : Nat, ce_ cA (aq_ ad k i q) (nu_ T k i n (T k0 i0)) k i = .inl (cA 0, n.toNat, .inl fun x => Int32.ofInt (T k0 i0 (x : Int))) := fun q => by
    rw [ce_i ha (Or.inr rfl)]
    have e1 : (fun x : Nat => Int32.ofInt (nu_ T k i n (T k0 i0) k i (x : Int))) = fun x : Nat => Int32.ofInt (T k0 i0 (x : Int)) := by
      funext x
      rw [nu_p (by omega)]
    rw [e1]
  refine va_clone (ad := "[I") (ty := .int) X.1 X.2.1 (X.2.2.1.trans hl.1.symm) X.2.2.2.2.2.2.1 (w _ hml) (w _ hsm) (w _ hna) (w _ hin) (w _ hse) X.2.2.2.2.2.2.2.2.1.2.2.1 X.2.2.2.2.2.2.2.1 hP hD hS X.2.2.2.2.2.2.2.2.2.1 q0 0 hw rfl (va_nm_int (X.2.2.2.2.2.2.2.1.2 0 (cA 0, .int) rfl).2) (va_fit (fun _ _ => rfl)) hf (by omega) (by omega) (by show slots + n.toNat ≤ _; omega) hd (fun q H1 _ hP1 hD1 hS1 => ?_)
  have k2 := j_nu (l := l) (e := e) (below := below) (pc' := pc + 3) X kk (cells := cells + 1) (slots := slots + n.toNat) (by omega) (by omega) (by omega) hfr (nu_a hfr) al_nu hok hids (he q) hP1 hD1 hS1 hB hT (ok_tail hL) hl hln
  rw [show (pc + 3).toNat = pc.toNat + 3 by omega] at k2
  exact k2
end JQ2
theorem nu_tc {T U : Zt} {k : Nat} {i n : Int} {f : Int → Int} (h : U = nu_ T k i n f) (j : Int) (hj : 0 ≤ j) : U k i j = f j := by rw [h, nu_p hj]

/-- a competition is new -/
def nc_ (T T' : Zt) : Prop := fr_ [(105, [7, 8, 9, 2, 3, 6, 1]), (504, []), (505, []), (106, [2]), (521, []), (150, []), (100, []), (401, []), (402, []), (403, []), (404, [])] T T' ∧ (T' 106 0 2 = T 106 0 2 + 1 ∧ T 106 0 2 < 4) ∧ (∀ (k : Nat) (i j : Int), k = 100 ∨ k = 150 ∨ k = 401 ∨ k = 403 ∨ k = 404 → i ≠ T 106 0 2 → T' k i j = T k i j) ∧ (∀ j, j ≠ T 106 0 2 → T' 521 0 j = T 521 0 j) ∧ T' 521 0 (T 106 0 2) = 1 ∧ (T' 100 (T 106 0 2) 5 = 0 ∧ T' 100 (T 106 0 2) 6 = 0 ∧ T' 100 (T 106 0 2) 7 = 0 ∧ T' 100 (T 106 0 2) 8 = 0) ∧ (∀ j, 0 ≤ j → j < 16 → (sa_ 1).getD j.toNat 0 ≤ T' 401 (T 106 0 2) j ∧ T' 401 (T 106 0 2) j ≤ (sa_ 2).getD j.toNat 0) ∧ T' 401 (T 106 0 2) 2 ≤ T' 401 (T 106 0 2) 1 ∧ NA_ T'
abbrev cX10_competition : ByteArray := prog_1_method_4_code
def yX10_competition : MethodName := ⟨RX10, "competition", "()I"⟩
def zX10_competition : Zm := (RX10, cX10_competition, 3, (some .int), { frames := 8, cells := 5, slots := 57, locals := 176 })
set_option maxRecDepth 100000 in
theorem cl_X10_80 : cv_ RX10 80 yX5_read zX5_read 5 0 := ⟨gi_V (lw_b2 199 (by decide +kernel) rfl : Cond.methodLink RX10 80 yX5_read ∈ lw_g) (lw_b2 200 (by decide +kernel) rfl : Cond.instanceMethod yX5_read ∈ lw_g) (lw_b2 201 (by decide +kernel) rfl : Cond.selects yX5_read.cls yX5_read yX5_read ∈ lw_g) (lw_b1 2 (by decide +kernel) rfl : Cond.initialized yX5_read.cls ∈ lw_g) (lw_b2 202 rfl rfl : Cond.code yX5_read cX5_read 2 (some .boolean) ∈ lw_g), ⟨by decide, by decide, by decide +kernel⟩, ⟨_, _, rfl⟩⟩
set_option maxRecDepth 100000 in
theorem ci_X10_104 : ci_ RX10 104 yX0_init zX0_init 3 := ⟨gi_c (lw_b3 76 rfl rfl : Cond.code yX0_init cX0_init 4 none ∈ lw_g), (lw_b1 15 (by decide +kernel) rfl : Cond.initialized yX0_init.cls ∈ lw_g), (lw_b3 74 (by decide +kernel) rfl : Cond.methodLink RX10 104 yX0_init ∈ lw_g), (lw_b3 75 (by decide +kernel) rfl : Cond.instanceMethod yX0_init ∈ lw_g), rfl, rfl, ⟨by decide, by decide, by decide +kernel⟩⟩
abbrev po_X10_competition (T : Zt) : Zt → Option Zv → Prop := fun T' r => ∃ x : Int, r = some (vI x) ∧ (fr_ [(105, [7, 8, 9, 2, 3, 6, 1]), (504, []), (505, [])] T T' ∨ nc_ T T')
