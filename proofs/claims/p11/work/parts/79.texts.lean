-- static rows and texts, which no method writes
section JS
variable {Y Yc : Zm} {T0 T : Zt} {P : Zt → Option Zv → Prop} {bc bs : Nat} {pc : Int} {ls : Zl} {st rest : List Zv} {y : MethodName} {Qp : Zt → Option Zv → Prop}
theorem sa_b : ∀ i, i < 3 → ∀ x, x < 16 → 0 ≤ (sa_ i).getD x 0 ∧ (sa_ i).getD x 0 ≤ 999 := by decide
theorem j_gs81 {idx i : Nat} (hp : 0 ≤ pc) (hi : i < 3) (hlk : Cond.fieldLink Y.1 idx "SportsHouse$RuleText" (sn_ i) "[I" ∈ lw_g) (hd : decode Y.2.1 pc.toNat = .ok (.getstatic idx, 3)) (kk : J_ Y T0 P bc bs (pc + 3) ls (vR 81 (i : Int) :: st) T) : J_ Y T0 P bc bs pc ls st T := by
  intro l p e s m args below meth c D cA ad0 A X ad H locs cells slots lsC hc hs hR hS hB hT hL hl hln
  have hz := (X.2.2.2.2.2.2.2.2.2.2.1.1 i hi).1
  have k2 := kk l p e s m args below meth c D cA ad0 A X ad H locs cells slots lsC hc hs hR hS hB hT (ok_push (Or.inl (by omega)) hL) hl hln
  rw [show (pc + 3).toNat = pc.toNat + 3 by omega] at k2
  have ea : ad 81 (i : Int) = ad0 81 (i : Int) := hB.2 81 _ (Or.inl (by omega))
  refine va_gets X.1 X.2.1 hz hS X.2.2.2.2.2.2.1 (X.2.2.2.2.2.1 _ hlk) (fun _ h => h) hd ?_
  rw [← ea]
  exact k2
theorem j_ld81 {i : Nat} {x : Int} (hp : 0 ≤ pc) (hi : i < 3) (h1 : 0 ≤ x) (h2 : x < 16) (hd : decode Y.2.1 pc.toNat = .ok (.iaload, 1)) (kk : J_ Y T0 P bc bs (pc + 1) ls (vI ((sa_ i).getD x.toNat 0) :: st) T) : J_ Y T0 P bc bs pc ls (vI x :: vR 81 (i : Int) :: st) T := by
  intro l p e s m args below meth c D cA ad0 A X ad H locs cells slots lsC hc hs hR hS hB hT hL hl hln
  have hz := (X.2.2.2.2.2.2.2.2.2.2.1.1 i hi).2
  have hb := sa_b i hi x.toNat (by omega)
  have k2 := kk l p e s m args below meth c D cA ad0 A X ad H locs cells slots lsC hc hs hR hS hB hT (ok_push (show ok_v T (vI _) from ⟨by omega, by omega⟩) (ok_tail (ok_tail hL))) hl hln
  rw [show (pc + 1).toNat = pc.toNat + 1 by omega] at k2
  have ea : ad 81 (i : Int) = ad0 81 (i : Int) := hB.2 81 _ (Or.inl (by omega))
  have hcl := i3_cl h1 (show x ≤ 2147483647 by omega)
  rw [← ea] at hz
  refine va_ti X.1 X.2.1 hz hS (i3_in h1 (show x < 16 by omega) (by omega)) (v := .int (Int32.ofInt ((sa_ i).getD x.toNat 0))) (by rw [show (Int32.ofInt x).toNatClampNeg = x.toNat by omega]) hd ?_
  exact k2
theorem j_ldcS {idx i : Nat} (hp : 0 ≤ pc) (hY : Y.1 = "SportsHouse$RuleText") (hi : i < 3) (hx : (stx_ i).1 = idx) (hd : decode Y.2.1 pc.toNat = .ok (.ldc idx, 2)) (kk : J_ Y T0 P bc bs (pc + 2) ls (vR 82 (i : Int) :: st) T) : J_ Y T0 P bc bs pc ls st T := by
  intro l p e s m args below meth c D cA ad0 A X ad H locs cells slots lsC hc hs hR hS hB hT hL hl hln
  have hz := X.2.2.2.2.2.2.2.2.2.2.1.2.2.1 i hi
  have k2 := kk l p e s m args below meth c D cA ad0 A X ad H locs cells slots lsC hc hs hR hS hB hT (ok_push (Or.inl (by omega)) hL) hl hln
  rw [show (pc + 2).toNat = pc.toNat + 2 by omega] at k2
  have ea : ad 82 (i : Int) = ad0 82 (i : Int) := hB.2 82 _ (Or.inl (by omega))
  rw [← ea, hx] at hz
  have ho := X.2.2.2.2.2.2.1
  rw [hY] at ho
  exact va_ldcS X.1 X.2.1 ho hz hd k2
theorem j_gsC {idx : Nat} (hp : 0 ≤ pc) (hlk : Cond.fieldLink Y.1 idx "java/lang/String" "COMPACT_STRINGS" "Z" ∈ lw_g) (hd : decode Y.2.1 pc.toNat = .ok (.getstatic idx, 3)) (kk : J_ Y T0 P bc bs (pc + 3) ls (vI 1 :: st) T) : J_ Y T0 P bc bs pc ls st T := by
  intro l p e s m args below meth c D cA ad0 A X ad H locs cells slots lsC hc hs hR hS hB hT hL hl hln
  have k2 := kk l p e s m args below meth c D cA ad0 A X ad H locs cells slots lsC hc hs hR hS hB hT (ok_push (show ok_v T (vI 1) from ⟨by omega, by omega⟩) hL) hl hln
  rw [show (pc + 3).toNat = pc.toNat + 3 by omega] at k2
  exact va_gets X.1 X.2.1 X.2.2.2.2.2.2.2.2.2.2.1.2.2.2.1 hS X.2.2.2.2.2.2.1 (X.2.2.2.2.2.1 _ hlk) (fun _ h => h) hd k2
theorem j_gsF {idx : Nat} (hp : 0 ≤ pc) (hlk : Cond.fieldLink Y.1 idx "jdk/internal/util/Preconditions" "SIOOBE_FORMATTER" "Ljava/util/function/BiFunction;" ∈ lw_g) (hd : decode Y.2.1 pc.toNat = .ok (.getstatic idx, 3)) (k0 : J_ Y T0 P bc bs (pc + 3) ls (vN :: st) T) (k1 : J_ Y T0 P bc bs (pc + 3) ls (vR 84 0 :: st) T) : J_ Y T0 P bc bs pc ls st T := by
  intro l p e s m args below meth c D cA ad0 A X ad H locs cells slots lsC hc hs hR hS hB hT hL hl hln
  rcases X.2.2.2.2.2.2.2.2.2.2.1.2.2.2.2 with hz | hz
  · have k2 := k0 l p e s m args below meth c D cA ad0 A X ad H locs cells slots lsC hc hs hR hS hB hT (ok_push trivial hL) hl hln
    rw [show (pc + 3).toNat = pc.toNat + 3 by omega] at k2
    exact va_gets X.1 X.2.1 hz hS X.2.2.2.2.2.2.1 (X.2.2.2.2.2.1 _ hlk) (fun _ h => h) hd k2
  · have k2 := k1 l p e s m args below meth c D cA ad0 A X ad H locs cells slots lsC hc hs hR hS hB hT (ok_push (Or.inl (by omega)) hL) hl hln
    rw [show (pc + 3).toNat = pc.toNat + 3 by omega] at k2
    have ea : ad 84 0 = ad0 84 0 := hB.2 84 _ (Or.inl (by omega))
    refine va_gets X.1 X.2.1 hz hS X.2.2.2.2.2.2.1 (X.2.2.2.2.2.1 _ hlk) (fun _ h => h) hd ?_
    rw [← ea]
    exact k2
theorem j_gfC {idx i : Nat} (hp : 0 ≤ pc) (hi : i < 3) (hlk : Cond.fieldLink Y.1 idx "java/lang/String" "coder" "B" ∈ lw_g) (hd : decode Y.2.1 pc.toNat = .ok (.getfield idx, 3)) (kk : J_ Y T0 P bc bs (pc + 3) ls (vI 0 :: st) T) : J_ Y T0 P bc bs pc ls (vR 82 (i : Int) :: st) T := by
  intro l p e s m args below meth c D cA ad0 A X ad H locs cells slots lsC hc hs hR hS hB hT hL hl hln
  have hz := (X.2.2.2.2.2.2.2.2.2.2.1.2.1.1 i hi).2.1
  have k2 := kk l p e s m args below meth c D cA ad0 A X ad H locs cells slots lsC hc hs hR hS hB hT (ok_push (show ok_v T (vI 0) from ⟨by omega, by omega⟩) (ok_tail hL)) hl hln
  rw [show (pc + 3).toNat = pc.toNat + 3 by omega] at k2
  have ea : ad 82 (i : Int) = ad0 82 (i : Int) := hB.2 82 _ (Or.inl (by omega))
  dsimp only at hz
  rw [show ad0 82 (i : Int) = ad 82 (i : Int) from ea.symm] at hz
  exact vk_getf X.1 X.2.1 hz hS X.2.2.2.2.2.2.1 (X.2.2.2.2.2.1 _ hlk) (fun _ h => h) hd k2
theorem j_gfV {idx i : Nat} (hp : 0 ≤ pc) (hi : i < 3) (hlk : Cond.fieldLink Y.1 idx "java/lang/String" "value" "[B" ∈ lw_g) (hd : decode Y.2.1 pc.toNat = .ok (.getfield idx, 3)) (kk : J_ Y T0 P bc bs (pc + 3) ls (vR 83 (i : Int) :: st) T) : J_ Y T0 P bc bs pc ls (vR 82 (i : Int) :: st) T := by
  intro l p e s m args below meth c D cA ad0 A X ad H locs cells slots lsC hc hs hR hS hB hT hL hl hln
  have hz := (X.2.2.2.2.2.2.2.2.2.2.1.2.1.1 i hi).2.2.1
  have k2 := kk l p e s m args below meth c D cA ad0 A X ad H locs cells slots lsC hc hs hR hS hB hT (ok_push (Or.inl (by omega)) (ok_tail hL)) hl hln
  rw [show (pc + 3).toNat = pc.toNat + 3 by omega] at k2
  have ea : ad 82 (i : Int) = ad0 82 (i : Int) := hB.2 82 _ (Or.inl (by omega))
  have eb : ad 83 (i : Int) = ad0 83 (i : Int) := hB.2 83 _ (Or.inl (by omega))
  dsimp only at hz
  rw [show ad0 82 (i : Int) = ad 82 (i : Int) from ea.symm, show ad0 83 (i : Int) = ad 83 (i : Int) from eb.symm] at hz
  exact vk_getf X.1 X.2.1 hz hS X.2.2.2.2.2.2.1 (X.2.2.2.2.2.1 _ hlk) (fun _ h => h) hd k2
theorem j_len83 {i : Nat} {n : Int} (hp : 0 ≤ pc) (hi : i < 3) (hn : ((sle_.getD i 0 : Nat) : Int) = n) (hb : n ≤ 1000) (hd : decode Y.2.1 pc.toNat = .ok (.arraylength, 1)) (kk : J_ Y T0 P bc bs (pc + 1) ls (vI n :: st) T) : J_ Y T0 P bc bs pc ls (vR 83 (i : Int) :: st) T := by
  intro l p e s m args below meth c D cA ad0 A X ad H locs cells slots lsC hc hs hR hS hB hT hL hl hln
  have hz := (X.2.2.2.2.2.2.2.2.2.2.1.2.1.1 i hi).2.2.2
  have k2 := kk l p e s m args below meth c D cA ad0 A X ad H locs cells slots lsC hc hs hR hS hB hT (ok_push (show ok_v T (vI n) from ⟨by omega, by omega⟩) (ok_tail hL)) hl hln
  rw [show (pc + 1).toNat = pc.toNat + 1 by omega] at k2
  have eb : ad 83 (i : Int) = ad0 83 (i : Int) := hB.2 83 _ (Or.inl (by omega))
  dsimp only at hz
  rw [show ad0 83 (i : Int) = ad 83 (i : Int) from eb.symm] at hz
  refine va_tlen X.1 X.2.1 hz hS (v := Int32.ofInt n) ?_ hd k2
  rw [← hn]
  rfl
theorem j_ba83 {i : Nat} {x n : Int} (hp : 0 ≤ pc) (hi : i < 3) (hn : ((sle_.getD i 0 : Nat) : Int) = n) (h1 : 0 ≤ x) (h2 : x < n) (hb : n ≤ 1000) (hv : ∀ k, k < 1000 → Int32.ofInt (((sby_.getD i []).getD k 0).toInt) = (sby_.getD i []).getD k 0 ∧ 0 ≤ ((sby_.getD i []).getD k 0).toInt ∧ ((sby_.getD i []).getD k 0).toInt ≤ 127) (hd : decode Y.2.1 pc.toNat = .ok (.baload, 1)) (kk : J_ Y T0 P bc bs (pc + 1) ls (vI ((sby_.getD i []).getD x.toNat 0).toInt :: st) T) : J_ Y T0 P bc bs pc ls (vI x :: vR 83 (i : Int) :: st) T := by
  intro l p e s m args below meth c D cA ad0 A X ad H locs cells slots lsC hc hs hR hS hB hT hL hl hln
  have hz := (X.2.2.2.2.2.2.2.2.2.2.1.2.1.1 i hi).2.2.2
  have hw := hv x.toNat (by omega)
  have k2 := kk l p e s m args below meth c D cA ad0 A X ad H locs cells slots lsC hc hs hR hS hB hT (ok_push (show ok_v T (vI _) from ⟨by omega, by omega⟩) (ok_tail (ok_tail hL))) hl hln
  rw [show (pc + 1).toNat = pc.toNat + 1 by omega] at k2
  have eb : ad 83 (i : Int) = ad0 83 (i : Int) := hB.2 83 _ (Or.inl (by omega))
  have hcl := i3_cl h1 (show x ≤ 2147483647 by omega)
  dsimp only at hz
  rw [show ad0 83 (i : Int) = ad 83 (i : Int) from eb.symm] at hz
  have hin := i3_in h1 (show x < ((sle_.getD i 0 : Nat) : Int) by omega) (by omega)
  rw [Int.toNat_natCast] at hin
  refine va_tb X.1 X.2.1 hz hS hin (v := .int (Int32.ofInt (((sby_.getD i []).getD x.toNat 0).toInt))) (by rw [show (Int32.ofInt x).toNatClampNeg = x.toNat by omega, hw.1]) hd k2
theorem i2c_b : ∀ n : Nat, n < 128 → ((Int32.ofInt (n : Int)).toUInt32 % 65536).toInt32 = Int32.ofInt (n : Int) := by decide +kernel
theorem nar_b : ∀ n : Nat, n < 128 → narrow .char (.int (Int32.ofInt (n : Int))) = .int (Int32.ofInt (n : Int)) ∧ narrow .byte (.int (Int32.ofInt (n : Int))) = .int (Int32.ofInt (n : Int)) := by decide +kernel
theorem j_i2c {x : Int} (hp : 0 ≤ pc) (h : 0 ≤ x ∧ x ≤ 127) (hd : decode Y.2.1 pc.toNat = .ok (.i2c, 1)) (kk : J_ Y T0 P bc bs (pc + 1) ls (vI x :: st) T) : J_ Y T0 P bc bs pc ls (vI x :: st) T := by
  intro l p e s m args below meth c D cA ad0 A X ad H locs cells slots lsC hc hs hR hS hB hT hL hl hln
  have k2 := kk l p e s m args below meth c D cA ad0 A X ad H locs cells slots lsC hc hs hR hS hB hT hL hl hln
  rw [show (pc + 1).toNat = pc.toNat + 1 by omega] at k2
  have h1 := i2c_b x.toNat (by omega)
  rw [show ((x.toNat : Nat) : Int) = x by omega] at h1
  exact lv_i2c X.1 X.2.1 hd h1 k2
theorem j_iretN {x : Int} (hr : Y.2.2.2.1 = some .char ∨ Y.2.2.2.1 = some .byte) (h : 0 ≤ x ∧ x ≤ 127) (hd : decode Y.2.1 pc.toNat = .ok (.ireturn, 1)) (k : P T (some (vI x))) : J_ Y T0 P bc bs pc ls [vI x] T := by
  intro l p e' s m args below meth c D cA ad0 A X ad H locs cells slots lsC hc hs hR hS hB hT hL hl hn
  refine W.widen (k := Y.2.2.2.2.cells) (n := Y.2.2.2.2.slots) (by omega) (by omega) ?_
  have hq : ∀ t : State, t.heap = H → s.WarmedH t.vm → Qc_ D cA ad0 T0 A P args s (.returned (some (.int (Int32.ofInt x)))) t := fun t ht _ => ⟨⟨T, ad, some (vI x), rfl, k, hT, fun v hv => by cases hv; exact ok_head hL, by rw [ht]; exact hR, hB⟩, hS.F ht⟩
  have h1 := nar_b x.toNat (by omega)
  rw [show ((x.toNat : Nat) : Int) = x by omega] at h1
  rcases hr with hr | hr
  · exact W.zret (ty := .char) X.1 X.2.1 (X.2.2.2.1.trans hr) h1.1 hq hS.2.2 hd X.2.2.2.2.1
  · exact W.zret (ty := .byte) X.1 X.2.1 (X.2.2.2.1.trans hr) h1.2 hq hS.2.2 hd X.2.2.2.2.1
/-- a call of a text's method -/
def ck82_ (own : String) (idx : Nat) (y : MethodName) (Yc : Zm) (n : Nat) : Prop := GoodIn lw_g (wsV own idx y.cls y (.code y Yc.2.1 Yc.2.2.1 Yc.2.2.2.1 :: lw_g)) ∧ (y.cls ≠ "java/lang/invoke/MethodHandle" ∧ y.cls ≠ "java/lang/invoke/VarHandle" ∧ (parseMethodDescriptor y.desc).map (fun d => d.parameters.length) = some n) ∧ y.cls = "java/lang/String"
theorem j_callK {idx n i : Nat} (as : List Zv) (hi : i < 3) (hC : Ct_ y Yc T (vR 82 (i : Int) :: as) Qp) (hcv : ck82_ Y.1 idx y Yc n) (hd : decode Y.2.1 pc.toNat = .ok (.invokevirtual idx, 3)) (hp : 0 ≤ pc) (hn : as.length = n) (hrm : rf_ Yc Y = true) (hrest : rest.length ≤ 4) (hmc : Yc.2.2.2.2.cells ≤ bc) (hms : Yc.2.2.2.2.slots ≤ bs) {st0 : List Zv} (hst : st0 = as.reverse ++ vR 82 (i : Int) :: rest) (kk : ∀ (T' : Zt) (r : Option Zv), Qp T' r → J_ Y T0 P (bc - Yc.2.2.2.2.cells) (bs - Yc.2.2.2.2.slots) (pc + 3) ls (r.toList ++ rest) T') : J_ Y T0 P bc bs pc ls st0 T := by
  subst hst
  intro l p e s m args below meth c D cA ad0 A X ad H locs cells slots lsC hc hs hR hS hB hT hL hl hln
  obtain ⟨hG, hdd, hcs⟩ := hcv
  simp only [rf_, Bool.and_eq_true, decide_eq_true_eq] at hrm
  have hLr : ok_l T ls rest := ⟨hL.1, fun v hv => hL.2 v (by simp [hv])⟩
  have hAA : ∀ q, A_ ad T H.size q → A q := by
    rintro q (⟨k, i, ha, rfl⟩ | h)
    · exact Rp_in hR ha
    · exact X.2.2.2.2.2.2.2.2.2.1 q (Nat.le_trans hS.1 h)
  have hrc := vk_recv X.2.2.2.2.2.2.2.2.2.2.1.2.1 hi hS
  have ea : ad 82 (i : Int) = ad0 82 (i : Int) := hB.2 82 _ (Or.inl (by omega))
  rw [show ad0 82 (i : Int) = ad 82 (i : Int) from ea.symm, ← hcs] at hrc
  refine j_back X hc hs hR hS hB hLr hl hln hp hmc hms (va_runV (As := as.map (en_v ad)) (rest := rest.map (en_v ad)) (b := ad 82 (i : Int)) ⟨X.1, X.2.1, X.2.2.1, X.2.2.2.2.2.2.1, X.2.2.2.2.2.1⟩ (hC l D cA ad H.size) (cwV n X.2.2.2.2.2.1 hG rfl rfl rfl ⟨rfl, hdd⟩ hrm) ⟨pc_blind, hrc, fun U hU hW => ⟨rfl, by rw [hU], by rw [hU]; exact Rp_A hR (fun _ _ _ _ => trivial), va_K.moved hW.alike X.2.2.2.2.2.2.2.1, ex_warm hW X.2.2.2.2.2.2.2.2.1, se_call X.2.2.2.2.2.2.2.2.2.2.1 hS hAA hU hW (fun k i hk => hB.2 k i (Or.inl hk)), hT, fun v hv => hL.2 v ?_⟩⟩ rfl (by rw [List.length_map]; exact hn) (hl.1) ?_ (lv_room ?_) hd ⟨by omega, by omega⟩) (fun T' r h => kk T' r h)
  · rcases List.mem_cons.mp hv with rfl | h
    · simp
    · simp [h]
  · show List.map (en_v ad) (as.reverse ++ vR 82 (i : Int) :: rest) = _
    rw [List.map_append, List.map_reverse, List.map_cons]
    rfl
  · have := en_sum (ad := ad) rest
    omega
end JS
theorem bv_all : ∀ i, i < 3 → ∀ v ∈ sby_.getD i [], 0 ≤ v.toInt ∧ v.toInt ≤ 127 := by decide +kernel
/-- a byte of a text -/
def cb8_ (i : Nat) (x : Int) : Int := ((sby_.getD i []).getD x.toNat 0).toInt
theorem bv_k {i : Nat} (hi : i < 3) (k : Nat) : 0 ≤ ((sby_.getD i []).getD k 0).toInt ∧ ((sby_.getD i []).getD k 0).toInt ≤ 127 := by
  rw [List.getD_eq_getElem?_getD (l := sby_.getD i [])]
  cases h : (sby_.getD i [])[k]? with
  | none => exact ⟨by decide, by decide⟩
  | some v => exact bv_all i hi v (List.mem_of_getElem? h)
theorem cb8_b {i : Nat} (hi : i < 3) (x : Int) : 0 ≤ cb8_ i x ∧ cb8_ i x ≤ 127 := bv_k hi _
theorem an_255 : ∀ n : Nat, n < 128 → an_ (n : Int) 255 = (n : Int) := by decide +kernel
theorem an_25 {x : Int} (h : 0 ≤ x ∧ x ≤ 127) : an_ x 255 = x := by
  have h1 := an_255 x.toNat (by omega)
  rw [show ((x.toNat : Nat) : Int) = x by omega] at h1
  exact h1
/-- the words of a text that end before a place -/
def ct9_ (i : Nat) (k : Nat) : Nat := (((sby_.getD i []).take k).filter (fun v => v == 59)).length
def tx_1 (i k : Nat) : Bool := decide (ct9_ i (k + 1) = ct9_ i k + (if cb8_ i (k : Int) = 59 then 1 else 0)) && decide (ct9_ i (k + 1) ≤ ([14, 4, 7] : List Nat).getD i 0)
theorem tx_a : ∀ i, i < 3 → ∀ k, k < sle_.getD i 0 → tx_1 i k = true := by decide +kernel
theorem tx_q {i : Nat} {k : Int} (hi : i < 3) (hk : 0 ≤ k ∧ k < ((sle_.getD i 0 : Nat) : Int)) : (ct9_ i (k + 1).toNat : Int) = ct9_ i k.toNat + (if cb8_ i k = 59 then 1 else 0) ∧ (ct9_ i (k + 1).toNat : Int) ≤ ((([14, 4, 7] : List Nat).getD i 0 : Nat) : Int) := by
  have h := tx_a i hi k.toNat (by omega)
  unfold tx_1 at h
  simp only [Bool.and_eq_true, decide_eq_true_eq] at h
  rw [show ((k.toNat : Nat) : Int) = k by omega] at h
  rw [show (k + 1).toNat = k.toNat + 1 by omega]
  refine ⟨?_, by omega⟩
  rw [h.1]
  split <;> omega
abbrev RJ0 : String := "java/lang/String"
def fJ0 : Zf := ([], [], [], [])
theorem tb_J0 : tb_ RJ0 fJ0 := ⟨fun _ h => absurd h List.not_mem_nil, fun _ h => absurd h List.not_mem_nil, fun _ h => absurd h List.not_mem_nil, fun _ h => absurd h List.not_mem_nil⟩
abbrev RJ1 : String := "java/lang/StringLatin1"
def fJ1 : Zf := ([], [], [], [])
theorem tb_J1 : tb_ RJ1 fJ1 := ⟨fun _ h => absurd h List.not_mem_nil, fun _ h => absurd h List.not_mem_nil, fun _ h => absurd h List.not_mem_nil, fun _ h => absurd h List.not_mem_nil⟩
abbrev RJ3 : String := "jdk/internal/util/Preconditions"
def fJ3 : Zf := ([], [], [], [])
theorem tb_J3 : tb_ RJ3 fJ3 := ⟨fun _ h => absurd h List.not_mem_nil, fun _ h => absurd h List.not_mem_nil, fun _ h => absurd h List.not_mem_nil, fun _ h => absurd h List.not_mem_nil⟩
abbrev cJ3_checkIndex_8e157 : ByteArray := prog_22_method_11_code
def yJ3_checkIndex_8e157 : MethodName := ⟨RJ3, "checkIndex", "(IILjava/util/function/BiFunction;)I"⟩
def zJ3_checkIndex_8e157 : Zm := (RJ3, cJ3_checkIndex_8e157, 3, (some .int), { frames := 0, cells := 0, slots := 0, locals := 0 })
theorem bk_J3_checkIndex_8e157_0 : ck_ fJ3 (some .int) cJ3_checkIndex_8e157 0 [.iload 0, .ifCond .lt 9, .iload 0, .iload 1, .if_icmp .lt 16, .aload 2, .iload 0, .iload 1] 12 = true := qck_r (nn_ _) (by decide +kernel)
theorem bs_J3_checkIndex_8e157_0 {P : Zt → Option Zv → Prop} (K : Int → Zl → List Zv → Zt → Prop) : sx_ K P [.iload 0, .ifCond .lt 9, .iload 0, .iload 1, .if_icmp .lt 16, .aload 2, .iload 0, .iload 1] 12 = x_iload 0 (x_ifCond .lt 9 K (x_iload 0 (x_iload 1 (x_if_icmp .lt 16 K (x_aload 2 (x_iload 0 (x_iload 1 (K 12)))))))) := ((xe_iload 0).trans (congrArg (x_iload 0) ((xe_ifCond .lt 9).trans (congrArg (x_ifCond .lt 9 K) ((xe_iload 0).trans (congrArg (x_iload 0) ((xe_iload 1).trans (congrArg (x_iload 1) ((xe_if_icmp .lt 16).trans (congrArg (x_if_icmp .lt 16 K) ((xe_aload 2).trans (congrArg (x_aload 2) ((xe_iload 0).trans (congrArg (x_iload 0) ((xe_iload 1).trans (congrArg (x_iload 1) xe_nil))))))))))))))))
theorem bk_J3_checkIndex_8e157_16 : ck_ fJ3 (some .int) cJ3_checkIndex_8e157 16 [.iload 0, .ireturn] 18 = true := qck_r (nn_ _) (by decide +kernel)
theorem bs_J3_checkIndex_8e157_16 {P : Zt → Option Zv → Prop} (K : Int → Zl → List Zv → Zt → Prop) : sx_ K P [.iload 0, .ireturn] 18 = x_iload 0 (x_ireturn P) := ((xe_iload 0).trans (congrArg (x_iload 0) (xe_ireturn)))
abbrev po_J3_checkIndex_n (T : Zt) (a n : Int) : Zt → Option Zv → Prop := fun T' r => T = T' ∧ r = some (vI (a))
set_option maxHeartbeats 4000000 in
theorem ct_J3_checkIndex_n {T : Zt} {a n : Int} (h1 : 0 ≤ a ∧ a < n) : Ct_ yJ3_checkIndex_8e157 zJ3_checkIndex_8e157 T [vI a, vI n, vN] (po_J3_checkIndex_n T a n) := by
  refine ct_of (by decide) rfl rfl (Nat.le_of_ble_eq_true rfl) (fun hT hav => ?_)
  have hr_a : -2147483648 ≤ a ∧ a ≤ 2147483647 := hav (vI a) (by simp)
  have hr_n : -2147483648 ≤ n ∧ n ≤ 2147483647 := hav (vI n) (by simp)
  have hz : zJ3_checkIndex_8e157.2.2.2.1 = some .boolean → ∀ (T' : Zt) (x : Int), po_J3_checkIndex_n T a n T' (some (vI x)) → 0 ≤ x ∧ x ≤ 1 := fun h => by cases h
  show J_ zJ3_checkIndex_8e157 T (po_J3_checkIndex_n T a n) 0 0 0 [some (vI a), some (vI n), some (vN)] [] T
  refine j_blx (F := fJ3) tb_J3 (nn_ _) bk_J3_checkIndex_8e157_0 bs_J3_checkIndex_8e157_0 hz (fun K hK => ?_)
  refine And.intro (fun c1 => ?_) (fun c1 => ?_)
  · exact absurd c1 (by omega)
  · refine And.intro (fun c2 => ?_) (fun c2 => ?_)
    · refine hK 16 _ [] T ?_
      refine j_blx (F := fJ3) tb_J3 (nn_ _) bk_J3_checkIndex_8e157_16 bs_J3_checkIndex_8e157_16 hz (fun K hK => ?_)
      refine (show po_J3_checkIndex_n T a n T (some (vI a)) from ?_)
      exact ⟨rfl, rfl⟩
    · exact absurd c2 (by omega)
abbrev po_J3_checkIndex_r (T : Zt) (a n : Int) : Zt → Option Zv → Prop := fun T' r => T = T' ∧ r = some (vI (a))
set_option maxHeartbeats 4000000 in
theorem ct_J3_checkIndex_r {T : Zt} {a n : Int} (h1 : 0 ≤ a ∧ a < n) : Ct_ yJ3_checkIndex_8e157 zJ3_checkIndex_8e157 T [vI a, vI n, vR 84 0] (po_J3_checkIndex_r T a n) := by
  refine ct_of (by decide) rfl rfl (Nat.le_of_ble_eq_true rfl) (fun hT hav => ?_)
  have hr_a : -2147483648 ≤ a ∧ a ≤ 2147483647 := hav (vI a) (by simp)
  have hr_n : -2147483648 ≤ n ∧ n ≤ 2147483647 := hav (vI n) (by simp)
  have hz : zJ3_checkIndex_8e157.2.2.2.1 = some .boolean → ∀ (T' : Zt) (x : Int), po_J3_checkIndex_r T a n T' (some (vI x)) → 0 ≤ x ∧ x ≤ 1 := fun h => by cases h
  show J_ zJ3_checkIndex_8e157 T (po_J3_checkIndex_r T a n) 0 0 0 [some (vI a), some (vI n), some (vR 84 0)] [] T
  refine j_blx (F := fJ3) tb_J3 (nn_ _) bk_J3_checkIndex_8e157_0 bs_J3_checkIndex_8e157_0 hz (fun K hK => ?_)
  refine And.intro (fun c1 => ?_) (fun c1 => ?_)
  · exact absurd c1 (by omega)
  · refine And.intro (fun c2 => ?_) (fun c2 => ?_)
    · refine hK 16 _ [] T ?_
      refine j_blx (F := fJ3) tb_J3 (nn_ _) bk_J3_checkIndex_8e157_16 bs_J3_checkIndex_8e157_16 hz (fun K hK => ?_)
      refine (show po_J3_checkIndex_r T a n T (some (vI a)) from ?_)
      exact ⟨rfl, rfl⟩
    · exact absurd c2 (by omega)
abbrev cJ0_checkIndex_df160 : ByteArray := prog_17_method_155_code
def yJ0_checkIndex_df160 : MethodName := ⟨RJ0, "checkIndex", "(II)V"⟩
def zJ0_checkIndex_df160 : Zm := (RJ0, cJ0_checkIndex_df160, 2, none, { frames := 1, cells := 0, slots := 0, locals := 22 })
theorem bk_J0_checkIndex_df160_0 : ck_ fJ0 none cJ0_checkIndex_df160 0 [.iload 0, .iload 1] 2 = true := qck_r (nn_ _) (by decide +kernel)
theorem bs_J0_checkIndex_df160_0 {P : Zt → Option Zv → Prop} (K : Int → Zl → List Zv → Zt → Prop) : sx_ K P [.iload 0, .iload 1] 2 = x_iload 0 (x_iload 1 (K 2)) := ((xe_iload 0).trans (congrArg (x_iload 0) ((xe_iload 1).trans (congrArg (x_iload 1) xe_nil))))
set_option maxRecDepth 100000 in
theorem cl_J0_1059 : cs_ RJ0 1059 yJ3_checkIndex_8e157 zJ3_checkIndex_8e157 3 := ⟨gi_S (lw_b3 21 (by decide +kernel) rfl : Cond.methodLink RJ0 1059 yJ3_checkIndex_8e157 ∈ lw_g) (lw_b3 22 (by decide +kernel) rfl : Cond.static yJ3_checkIndex_8e157 ∈ lw_g) (lw_b1 13 (by decide +kernel) rfl : Cond.initialized yJ3_checkIndex_8e157.cls ∈ lw_g) (lw_b3 23 rfl rfl : Cond.code yJ3_checkIndex_8e157 cJ3_checkIndex_8e157 3 (some .int) ∈ lw_g), ⟨by decide, by decide, by decide +kernel⟩⟩
theorem bk_J0_checkIndex_df160_8 : ck_ fJ0 none cJ0_checkIndex_df160 8 [.pop, .return_] 10 = true := qck_r (nn_ _) (by decide +kernel)
theorem bs_J0_checkIndex_df160_8 {P : Zt → Option Zv → Prop} (K : Int → Zl → List Zv → Zt → Prop) : sx_ K P [.pop, .return_] 10 = x_pop (x_return_ P) := ((xe_pop).trans (congrArg (x_pop) (xe_return_)))
abbrev po_J0_checkIndex_df160 (T : Zt) (a n : Int) : Zt → Option Zv → Prop := fun T' r => T = T' ∧ r = none
set_option maxHeartbeats 4000000 in
theorem ct_J0_checkIndex_df160 {T : Zt} {a n : Int} (h1 : 0 ≤ a ∧ a < n) : Ct_ yJ0_checkIndex_df160 zJ0_checkIndex_df160 T [vI a, vI n] (po_J0_checkIndex_df160 T a n) := by
  refine ct_of (by decide) rfl rfl (Nat.le_of_ble_eq_true rfl) (fun hT hav => ?_)
  have hr_a : -2147483648 ≤ a ∧ a ≤ 2147483647 := hav (vI a) (by simp)
  have hr_n : -2147483648 ≤ n ∧ n ≤ 2147483647 := hav (vI n) (by simp)
  have hz : zJ0_checkIndex_df160.2.2.2.1 = some .boolean → ∀ (T' : Zt) (x : Int), po_J0_checkIndex_df160 T a n T' (some (vI x)) → 0 ≤ x ∧ x ≤ 1 := fun h => by cases h
  show J_ zJ0_checkIndex_df160 T (po_J0_checkIndex_df160 T a n) 0 0 0 [some (vI a), some (vI n)] [] T
  refine j_blx (F := fJ0) tb_J0 (nn_ _) bk_J0_checkIndex_df160_0 bs_J0_checkIndex_df160_0 hz (fun K hK => ?_)
  refine hK 2 _ [vI n, vI a] T ?_
  refine j_gsF (pc := 2) (by decide) (lw_b3 19 (by decide +kernel) rfl : Cond.fieldLink RJ0 1053 "jdk/internal/util/Preconditions" "SIOOBE_FORMATTER" "Ljava/util/function/BiFunction;" ∈ lw_g) (by decide +kernel) ?_ ?_
  · show J_ zJ0_checkIndex_df160 T (po_J0_checkIndex_df160 T a n) 0 0 5 _ [vN, vI n, vI a] T
    refine j_callS (y := yJ3_checkIndex_8e157) (Yc := zJ3_checkIndex_8e157) (rest := []) [vI a, vI n, vN] (ct_J3_checkIndex_n (T := T) (by omega)) cl_J0_1059 (qd_c (by decide +kernel)) (nn_ _) rfl (rf_of rfl) (Nat.le_of_ble_eq_true rfl) (Nat.le_of_ble_eq_true rfl) (Nat.le_of_ble_eq_true rfl) rfl ?_
    rintro _ _ ⟨rfl, rfl⟩
    show J_ zJ0_checkIndex_df160 T (po_J0_checkIndex_df160 T a n) 0 0 8 _ [vI a] T
    refine j_blx (F := fJ0) tb_J0 (nn_ _) bk_J0_checkIndex_df160_8 bs_J0_checkIndex_df160_8 hz (fun K hK => ?_)
    refine (show po_J0_checkIndex_df160 T a n T (none) from ?_)
    exact ⟨rfl, rfl⟩
  · show J_ zJ0_checkIndex_df160 T (po_J0_checkIndex_df160 T a n) 0 0 5 _ [vR 84 0, vI n, vI a] T
    refine j_callS (y := yJ3_checkIndex_8e157) (Yc := zJ3_checkIndex_8e157) (rest := []) [vI a, vI n, vR 84 0] (ct_J3_checkIndex_r (T := T) (by omega)) cl_J0_1059 (qd_c (by decide +kernel)) (nn_ _) rfl (rf_of rfl) (Nat.le_of_ble_eq_true rfl) (Nat.le_of_ble_eq_true rfl) (Nat.le_of_ble_eq_true rfl) rfl ?_
    rintro _ _ ⟨rfl, rfl⟩
    show J_ zJ0_checkIndex_df160 T (po_J0_checkIndex_df160 T a n) 0 0 8 _ [vI a] T
    refine j_blx (F := fJ0) tb_J0 (nn_ _) bk_J0_checkIndex_df160_8 bs_J0_checkIndex_df160_8 hz (fun K hK => ?_)
    refine (show po_J0_checkIndex_df160 T a n T (none) from ?_)
    exact ⟨rfl, rfl⟩
abbrev cJ0_coder_7d493 : ByteArray := prog_17_method_152_code
def yJ0_coder_7d493 : MethodName := ⟨RJ0, "coder", "()B"⟩
def zJ0_coder_7d493 : Zm := (RJ0, cJ0_coder_7d493, 1, (some .byte), { frames := 0, cells := 0, slots := 0, locals := 0 })
theorem bk_J0_coder_7d493_3 : ck_ fJ0 (some .byte) cJ0_coder_7d493 3 [.ifCond .eq 13, .aload 0] 7 = true := qck_r (nn_ _) (by decide +kernel)
theorem bs_J0_coder_7d493_3 {P : Zt → Option Zv → Prop} (K : Int → Zl → List Zv → Zt → Prop) : sx_ K P [.ifCond .eq 13, .aload 0] 7 = x_ifCond .eq 13 K (x_aload 0 (K 7)) := ((xe_ifCond .eq 13).trans (congrArg (x_ifCond .eq 13 K) ((xe_aload 0).trans (congrArg (x_aload 0) xe_nil))))
theorem bk_J0_coder_7d493_10 : ck_ fJ0 (some .byte) cJ0_coder_7d493 10 [.goto 14] 13 = true := qck_r (nn_ _) (by decide +kernel)
theorem bs_J0_coder_7d493_10 {P : Zt → Option Zv → Prop} (K : Int → Zl → List Zv → Zt → Prop) : sx_ K P [.goto 14] 13 = x_goto 14 K := (xe_goto 14)
abbrev po_J0_coder_0 (T : Zt) : Zt → Option Zv → Prop := fun T' r => T = T' ∧ r = some (vI (0))
set_option maxHeartbeats 4000000 in
theorem ct_J0_coder_0 {T : Zt} : Ct_ yJ0_coder_7d493 zJ0_coder_7d493 T [vR 82 0] (po_J0_coder_0 T) := by
  refine ct_of (by decide) rfl rfl (Nat.le_of_ble_eq_true rfl) (fun hT hav => ?_)
  have hz : zJ0_coder_7d493.2.2.2.1 = some .boolean → ∀ (T' : Zt) (x : Int), po_J0_coder_0 T T' (some (vI x)) → 0 ≤ x ∧ x ≤ 1 := fun h => by cases h
  show J_ zJ0_coder_7d493 T (po_J0_coder_0 T) 0 0 0 [some (vR 82 0)] [] T
  refine j_gsC (pc := 0) (by decide) (lw_b3 3 (by decide +kernel) rfl : Cond.fieldLink RJ0 38 "java/lang/String" "COMPACT_STRINGS" "Z" ∈ lw_g) (by decide +kernel) ?_
  show J_ zJ0_coder_7d493 T (po_J0_coder_0 T) 0 0 3 _ [vI 1] T
  refine j_blx (F := fJ0) tb_J0 (nn_ _) bk_J0_coder_7d493_3 bs_J0_coder_7d493_3 hz (fun K hK => ?_)
  refine And.intro (fun c1 => ?_) (fun c1 => ?_)
  · exact absurd c1 (by decide)
  · refine hK 7 _ [vR 82 0] T ?_
    refine j_gfC (pc := 7) (i := 0) (by decide) (by decide) (lw_b10 119 (by decide +kernel) rfl : Cond.fieldLink RJ0 15 "java/lang/String" "coder" "B" ∈ lw_g) (by decide +kernel) ?_
    show J_ zJ0_coder_7d493 T (po_J0_coder_0 T) 0 0 10 _ [vI 0] T
    refine j_blx (F := fJ0) tb_J0 (nn_ _) bk_J0_coder_7d493_10 bs_J0_coder_7d493_10 hz (fun K hK => ?_)
    refine hK 14 _ [vI 0] T ?_
    refine j_iretN (pc := 14) (Or.inr rfl) ⟨by decide, by decide⟩ (by decide +kernel) ?_
    refine (show po_J0_coder_0 T T (some (vI 0)) from ?_)
    exact ⟨rfl, rfl⟩
abbrev cJ0_isLatin1_aae02 : ByteArray := prog_17_method_154_code
def yJ0_isLatin1_aae02 : MethodName := ⟨RJ0, "isLatin1", "()Z"⟩
def zJ0_isLatin1_aae02 : Zm := (RJ0, cJ0_isLatin1_aae02, 1, (some .boolean), { frames := 0, cells := 0, slots := 0, locals := 0 })
theorem bk_J0_isLatin1_aae02_3 : ck_ fJ0 (some .boolean) cJ0_isLatin1_aae02 3 [.ifCond .eq 17, .aload 0] 7 = true := qck_r (nn_ _) (by decide +kernel)
theorem bs_J0_isLatin1_aae02_3 {P : Zt → Option Zv → Prop} (K : Int → Zl → List Zv → Zt → Prop) : sx_ K P [.ifCond .eq 17, .aload 0] 7 = x_ifCond .eq 17 K (x_aload 0 (K 7)) := ((xe_ifCond .eq 17).trans (congrArg (x_ifCond .eq 17 K) ((xe_aload 0).trans (congrArg (x_aload 0) xe_nil))))
theorem bk_J0_isLatin1_aae02_10 : ck_ fJ0 (some .boolean) cJ0_isLatin1_aae02 10 [.ifCond .ne 17, .iconst 1, .goto 18] 17 = true := qck_r (nn_ _) (by decide +kernel)
theorem bs_J0_isLatin1_aae02_10 {P : Zt → Option Zv → Prop} (K : Int → Zl → List Zv → Zt → Prop) : sx_ K P [.ifCond .ne 17, .iconst 1, .goto 18] 17 = x_ifCond .ne 17 K (x_iconst 1 (x_goto 18 K)) := ((xe_ifCond .ne 17).trans (congrArg (x_ifCond .ne 17 K) ((xe_iconst 1).trans (congrArg (x_iconst 1) (xe_goto 18)))))
theorem bk_J0_isLatin1_aae02_18 : ck_ fJ0 (some .boolean) cJ0_isLatin1_aae02 18 [.ireturn] 19 = true := qck_r (nn_ _) (by decide +kernel)
theorem bs_J0_isLatin1_aae02_18 {P : Zt → Option Zv → Prop} (K : Int → Zl → List Zv → Zt → Prop) : sx_ K P [.ireturn] 19 = x_ireturn P := (xe_ireturn)
abbrev po_J0_isLatin1_0 (T : Zt) : Zt → Option Zv → Prop := fun T' r => T = T' ∧ r = some (vI (1))
set_option maxHeartbeats 4000000 in
theorem ct_J0_isLatin1_0 {T : Zt} : Ct_ yJ0_isLatin1_aae02 zJ0_isLatin1_aae02 T [vR 82 0] (po_J0_isLatin1_0 T) := by
  refine ct_of (by decide) rfl rfl (Nat.le_of_ble_eq_true rfl) (fun hT hav => ?_)
  have hz : zJ0_isLatin1_aae02.2.2.2.1 = some .boolean → ∀ (T' : Zt) (x : Int), po_J0_isLatin1_0 T T' (some (vI x)) → 0 ≤ x ∧ x ≤ 1 := fun _ T' x h => by obtain ⟨-, e⟩ := h; cases e; omega
  show J_ zJ0_isLatin1_aae02 T (po_J0_isLatin1_0 T) 0 0 0 [some (vR 82 0)] [] T
  refine j_gsC (pc := 0) (by decide) (lw_b3 3 (by decide +kernel) rfl : Cond.fieldLink RJ0 38 "java/lang/String" "COMPACT_STRINGS" "Z" ∈ lw_g) (by decide +kernel) ?_
  show J_ zJ0_isLatin1_aae02 T (po_J0_isLatin1_0 T) 0 0 3 _ [vI 1] T
  refine j_blx (F := fJ0) tb_J0 (nn_ _) bk_J0_isLatin1_aae02_3 bs_J0_isLatin1_aae02_3 hz (fun K hK => ?_)
  refine And.intro (fun c1 => ?_) (fun c1 => ?_)
  · exact absurd c1 (by decide)
  · refine hK 7 _ [vR 82 0] T ?_
    refine j_gfC (pc := 7) (i := 0) (by decide) (by decide) (lw_b10 119 (by decide +kernel) rfl : Cond.fieldLink RJ0 15 "java/lang/String" "coder" "B" ∈ lw_g) (by decide +kernel) ?_
    show J_ zJ0_isLatin1_aae02 T (po_J0_isLatin1_0 T) 0 0 10 _ [vI 0] T
    refine j_blx (F := fJ0) tb_J0 (nn_ _) bk_J0_isLatin1_aae02_10 bs_J0_isLatin1_aae02_10 hz (fun K hK => ?_)
    refine And.intro (fun c2 => ?_) (fun c2 => ?_)
    · exact absurd c2 (by decide)
    · refine hK 18 _ [vI 1] T ?_
      refine j_blx (F := fJ0) tb_J0 (nn_ _) bk_J0_isLatin1_aae02_18 bs_J0_isLatin1_aae02_18 hz (fun K hK => ?_)
      refine (show po_J0_isLatin1_0 T T (some (vI 1)) from ?_)
      exact ⟨rfl, rfl⟩
abbrev cJ0_length_8abf5 : ByteArray := prog_17_method_54_code
def yJ0_length_8abf5 : MethodName := ⟨RJ0, "length", "()I"⟩
def zJ0_length_8abf5 : Zm := (RJ0, cJ0_length_8abf5, 1, (some .int), { frames := 1, cells := 0, slots := 0, locals := 20 })
theorem bk_J0_length_8abf5_0 : ck_ fJ0 (some .int) cJ0_length_8abf5 0 [.aload 0] 1 = true := qck_r (nn_ _) (by decide +kernel)
theorem bs_J0_length_8abf5_0 {P : Zt → Option Zv → Prop} (K : Int → Zl → List Zv → Zt → Prop) : sx_ K P [.aload 0] 1 = x_aload 0 (K 1) := ((xe_aload 0).trans (congrArg (x_aload 0) xe_nil))
theorem bk_J0_length_8abf5_5 : ck_ fJ0 (some .int) cJ0_length_8abf5 5 [.aload 0] 6 = true := qck_r (nn_ _) (by decide +kernel)
theorem bs_J0_length_8abf5_5 {P : Zt → Option Zv → Prop} (K : Int → Zl → List Zv → Zt → Prop) : sx_ K P [.aload 0] 6 = x_aload 0 (K 6) := ((xe_aload 0).trans (congrArg (x_aload 0) xe_nil))
set_option maxRecDepth 100000 in
theorem ck82_J0_335 : ck82_ RJ0 335 yJ0_coder_7d493 zJ0_coder_7d493 0 := ⟨gi_V (lw_b2 239 (by decide +kernel) rfl : Cond.methodLink RJ0 335 yJ0_coder_7d493 ∈ lw_g) (lw_b3 0 (by decide +kernel) rfl : Cond.instanceMethod yJ0_coder_7d493 ∈ lw_g) (lw_b3 1 (by decide +kernel) rfl : Cond.selects yJ0_coder_7d493.cls yJ0_coder_7d493 yJ0_coder_7d493 ∈ lw_g) (lw_b1 11 (by decide +kernel) rfl : Cond.initialized yJ0_coder_7d493.cls ∈ lw_g) (lw_b3 2 rfl rfl : Cond.code yJ0_coder_7d493 cJ0_coder_7d493 1 (some .byte) ∈ lw_g), ⟨by decide, by decide, by decide +kernel⟩, rfl⟩
theorem bk_J0_length_8abf5_9 : ck_ fJ0 (some .int) cJ0_length_8abf5 9 [.ishr, .ireturn] 11 = true := qck_r (nn_ _) (by decide +kernel)
theorem bs_J0_length_8abf5_9 {P : Zt → Option Zv → Prop} (K : Int → Zl → List Zv → Zt → Prop) : sx_ K P [.ishr, .ireturn] 11 = x_ishr (x_ireturn P) := ((xe_ishr).trans (congrArg (x_ishr) (xe_ireturn)))
abbrev po_J0_length_0 (T : Zt) : Zt → Option Zv → Prop := fun T' r => T = T' ∧ r = some (vI (82))
set_option maxHeartbeats 4000000 in
theorem ct_J0_length_0 {T : Zt} : Ct_ yJ0_length_8abf5 zJ0_length_8abf5 T [vR 82 0] (po_J0_length_0 T) := by
  refine ct_of (by decide) rfl rfl (Nat.le_of_ble_eq_true rfl) (fun hT hav => ?_)
  have hz : zJ0_length_8abf5.2.2.2.1 = some .boolean → ∀ (T' : Zt) (x : Int), po_J0_length_0 T T' (some (vI x)) → 0 ≤ x ∧ x ≤ 1 := fun h => by cases h
  show J_ zJ0_length_8abf5 T (po_J0_length_0 T) 0 0 0 [some (vR 82 0)] [] T
  refine j_blx (F := fJ0) tb_J0 (nn_ _) bk_J0_length_8abf5_0 bs_J0_length_8abf5_0 hz (fun K hK => ?_)
  refine hK 1 _ [vR 82 0] T ?_
  refine j_gfV (pc := 1) (i := 0) (by decide) (by decide) (lw_b10 118 (by decide +kernel) rfl : Cond.fieldLink RJ0 9 "java/lang/String" "value" "[B" ∈ lw_g) (by decide +kernel) ?_
  show J_ zJ0_length_8abf5 T (po_J0_length_0 T) 0 0 4 _ [vR 83 0] T
  refine j_len83 (pc := 4) (i := 0) (n := 82) (by decide) (by decide) (by decide) (by decide) (by decide +kernel) ?_
  show J_ zJ0_length_8abf5 T (po_J0_length_0 T) 0 0 5 _ [vI 82] T
  refine j_blx (F := fJ0) tb_J0 (nn_ _) bk_J0_length_8abf5_5 bs_J0_length_8abf5_5 hz (fun K hK => ?_)
  refine hK 6 _ [vR 82 0, vI 82] T ?_
  refine j_callK (i := 0) (y := yJ0_coder_7d493) (Yc := zJ0_coder_7d493) (rest := [vI 82]) [] (by decide) (ct_J0_coder_0 (T := T)) ck82_J0_335 (by decide +kernel) (by decide) rfl (by decide +kernel) (Nat.le_of_ble_eq_true rfl) (by decide) (by decide) rfl ?_
  rintro _ _ ⟨rfl, rfl⟩
  show J_ zJ0_length_8abf5 T (po_J0_length_0 T) 0 0 9 _ [vI 0, vI 82] T
  refine j_blx (F := fJ0) tb_J0 (nn_ _) bk_J0_length_8abf5_9 bs_J0_length_8abf5_9 hz (fun K hK => ?_)
  intro w1 w1b
  refine (show po_J0_length_0 T T (some (vI (sr_ 82 0))) from ?_)
  exact ⟨rfl, by rw [show sr_ 82 0 = 82 by decide]⟩
abbrev cJ1_charAt_3b067 : ByteArray := prog_18_method_2_code
def yJ1_charAt_3b067 : MethodName := ⟨RJ1, "charAt", "([BI)C"⟩
def zJ1_charAt_3b067 : Zm := (RJ1, cJ1_charAt_3b067, 2, (some .char), { frames := 2, cells := 0, slots := 0, locals := 43 })
theorem bk_J1_charAt_3b067_0 : ck_ fJ1 (some .char) cJ1_charAt_3b067 0 [.iload 1, .aload 0] 2 = true := qck_r (nn_ _) (by decide +kernel)
theorem bs_J1_charAt_3b067_0 {P : Zt → Option Zv → Prop} (K : Int → Zl → List Zv → Zt → Prop) : sx_ K P [.iload 1, .aload 0] 2 = x_iload 1 (x_aload 0 (K 2)) := ((xe_iload 1).trans (congrArg (x_iload 1) ((xe_aload 0).trans (congrArg (x_aload 0) xe_nil))))
set_option maxRecDepth 100000 in
theorem cl_J1_9 : cs_ RJ1 9 yJ0_checkIndex_df160 zJ0_checkIndex_df160 2 := ⟨gi_S (lw_b3 16 (by decide +kernel) rfl : Cond.methodLink RJ1 9 yJ0_checkIndex_df160 ∈ lw_g) (lw_b3 17 (by decide +kernel) rfl : Cond.static yJ0_checkIndex_df160 ∈ lw_g) (lw_b1 11 (by decide +kernel) rfl : Cond.initialized yJ0_checkIndex_df160.cls ∈ lw_g) (lw_b3 18 rfl rfl : Cond.code yJ0_checkIndex_df160 cJ0_checkIndex_df160 2 none ∈ lw_g), ⟨by decide, by decide, by decide +kernel⟩⟩
theorem bk_J1_charAt_3b067_6 : ck_ fJ1 (some .char) cJ1_charAt_3b067 6 [.aload 0, .iload 1] 8 = true := qck_r (nn_ _) (by decide +kernel)
theorem bs_J1_charAt_3b067_6 {P : Zt → Option Zv → Prop} (K : Int → Zl → List Zv → Zt → Prop) : sx_ K P [.aload 0, .iload 1] 8 = x_aload 0 (x_iload 1 (K 8)) := ((xe_aload 0).trans (congrArg (x_aload 0) ((xe_iload 1).trans (congrArg (x_iload 1) xe_nil))))
theorem bk_J1_charAt_3b067_9 : ck_ fJ1 (some .char) cJ1_charAt_3b067 9 [.iconst 255, .iand] 13 = true := qck_r (nn_ _) (by decide +kernel)
theorem bs_J1_charAt_3b067_9 {P : Zt → Option Zv → Prop} (K : Int → Zl → List Zv → Zt → Prop) : sx_ K P [.iconst 255, .iand] 13 = x_iconst 255 (x_iand (K 13)) := ((xe_iconst 255).trans (congrArg (x_iconst 255) ((xe_iand).trans (congrArg (x_iand) xe_nil))))
abbrev po_J1_charAt_0 (T : Zt) (a : Int) : Zt → Option Zv → Prop := fun T' r => T = T' ∧ r = some (vI (cb8_ 0 a))
set_option maxHeartbeats 4000000 in
theorem ct_J1_charAt_0 {T : Zt} {a : Int} (h1 : 0 ≤ a ∧ a < 82) : Ct_ yJ1_charAt_3b067 zJ1_charAt_3b067 T [vR 83 0, vI a] (po_J1_charAt_0 T a) := by
  refine ct_of (by decide) rfl rfl (Nat.le_of_ble_eq_true rfl) (fun hT hav => ?_)
  have hr_a : -2147483648 ≤ a ∧ a ≤ 2147483647 := hav (vI a) (by simp)
  have hz : zJ1_charAt_3b067.2.2.2.1 = some .boolean → ∀ (T' : Zt) (x : Int), po_J1_charAt_0 T a T' (some (vI x)) → 0 ≤ x ∧ x ≤ 1 := fun h => by cases h
  show J_ zJ1_charAt_3b067 T (po_J1_charAt_0 T a) 0 0 0 [some (vR 83 0), some (vI a)] [] T
  refine j_blx (F := fJ1) tb_J1 (nn_ _) bk_J1_charAt_3b067_0 bs_J1_charAt_3b067_0 hz (fun K hK => ?_)
  refine hK 2 _ [vR 83 0, vI a] T ?_
  refine j_len83 (pc := 2) (i := 0) (n := 82) (by decide) (by decide) (by decide) (by decide) (by decide +kernel) ?_
  show J_ zJ1_charAt_3b067 T (po_J1_charAt_0 T a) 0 0 3 _ [vI 82, vI a] T
  refine j_callS (y := yJ0_checkIndex_df160) (Yc := zJ0_checkIndex_df160) (rest := []) [vI a, vI 82] (ct_J0_checkIndex_df160 (T := T) (by omega)) cl_J1_9 (qd_c (by decide +kernel)) (nn_ _) rfl (rf_of rfl) (Nat.le_of_ble_eq_true rfl) (Nat.le_of_ble_eq_true rfl) (Nat.le_of_ble_eq_true rfl) rfl ?_
  rintro _ _ ⟨rfl, rfl⟩
  show J_ zJ1_charAt_3b067 T (po_J1_charAt_0 T a) 0 0 6 _ [] T
  refine j_blx (F := fJ1) tb_J1 (nn_ _) bk_J1_charAt_3b067_6 bs_J1_charAt_3b067_6 hz (fun K hK => ?_)
  refine hK 8 _ [vI a, vR 83 0] T ?_
  refine j_ba83 (pc := 8) (i := 0) (n := 82) (by decide) (by decide) (by decide) (by omega) (by omega) (by decide) (fun k _ => ⟨i3_b _, bv_k (by decide) k⟩) (by decide +kernel) ?_
  have hcb := cb8_b (i := 0) (by decide) a
  show J_ zJ1_charAt_3b067 T (po_J1_charAt_0 T a) 0 0 9 _ [vI (cb8_ 0 a)] T
  refine j_blx (F := fJ1) tb_J1 (nn_ _) bk_J1_charAt_3b067_9 bs_J1_charAt_3b067_9 hz (fun K hK => ?_)
  intro w1 w1b
  refine hK 13 _ [vI (an_ (cb8_ 0 a) 255)] T ?_
  rw [an_25 hcb]
  refine j_i2c (pc := 13) (by decide) hcb (by decide +kernel) ?_
  show J_ zJ1_charAt_3b067 T (po_J1_charAt_0 T a) 0 0 14 _ [vI (cb8_ 0 a)] T
  refine j_iretN (pc := 14) (Or.inl rfl) hcb (by decide +kernel) ?_
  refine (show po_J1_charAt_0 T a T (some (vI (cb8_ 0 a))) from ?_)
  exact ⟨rfl, rfl⟩
abbrev cJ0_charAt_5068e : ByteArray := prog_17_method_56_code
def yJ0_charAt_5068e : MethodName := ⟨RJ0, "charAt", "(I)C"⟩
def zJ0_charAt_5068e : Zm := (RJ0, cJ0_charAt_5068e, 2, (some .char), { frames := 3, cells := 0, slots := 0, locals := 64 })
theorem bk_J0_charAt_5068e_0 : ck_ fJ0 (some .char) cJ0_charAt_5068e 0 [.aload 0] 1 = true := qck_r (nn_ _) (by decide +kernel)
theorem bs_J0_charAt_5068e_0 {P : Zt → Option Zv → Prop} (K : Int → Zl → List Zv → Zt → Prop) : sx_ K P [.aload 0] 1 = x_aload 0 (K 1) := ((xe_aload 0).trans (congrArg (x_aload 0) xe_nil))
set_option maxRecDepth 100000 in
theorem ck82_J0_492 : ck82_ RJ0 492 yJ0_isLatin1_aae02 zJ0_isLatin1_aae02 0 := ⟨gi_V (lw_b3 9 (by decide +kernel) rfl : Cond.methodLink RJ0 492 yJ0_isLatin1_aae02 ∈ lw_g) (lw_b3 10 (by decide +kernel) rfl : Cond.instanceMethod yJ0_isLatin1_aae02 ∈ lw_g) (lw_b3 11 (by decide +kernel) rfl : Cond.selects yJ0_isLatin1_aae02.cls yJ0_isLatin1_aae02 yJ0_isLatin1_aae02 ∈ lw_g) (lw_b1 11 (by decide +kernel) rfl : Cond.initialized yJ0_isLatin1_aae02.cls ∈ lw_g) (lw_b3 12 rfl rfl : Cond.code yJ0_isLatin1_aae02 cJ0_isLatin1_aae02 1 (some .boolean) ∈ lw_g), ⟨by decide, by decide, by decide +kernel⟩, rfl⟩
theorem bk_J0_charAt_5068e_4 : ck_ fJ0 (some .char) cJ0_charAt_5068e 4 [.ifCond .eq 16, .aload 0] 8 = true := qck_r (nn_ _) (by decide +kernel)
theorem bs_J0_charAt_5068e_4 {P : Zt → Option Zv → Prop} (K : Int → Zl → List Zv → Zt → Prop) : sx_ K P [.ifCond .eq 16, .aload 0] 8 = x_ifCond .eq 16 K (x_aload 0 (K 8)) := ((xe_ifCond .eq 16).trans (congrArg (x_ifCond .eq 16 K) ((xe_aload 0).trans (congrArg (x_aload 0) xe_nil))))
theorem bk_J0_charAt_5068e_11 : ck_ fJ0 (some .char) cJ0_charAt_5068e 11 [.iload 1] 12 = true := qck_r (nn_ _) (by decide +kernel)
theorem bs_J0_charAt_5068e_11 {P : Zt → Option Zv → Prop} (K : Int → Zl → List Zv → Zt → Prop) : sx_ K P [.iload 1] 12 = x_iload 1 (K 12) := ((xe_iload 1).trans (congrArg (x_iload 1) xe_nil))
set_option maxRecDepth 100000 in
theorem cl_J0_495 : cs_ RJ0 495 yJ1_charAt_3b067 zJ1_charAt_3b067 2 := ⟨gi_S (lw_b3 13 (by decide +kernel) rfl : Cond.methodLink RJ0 495 yJ1_charAt_3b067 ∈ lw_g) (lw_b3 14 (by decide +kernel) rfl : Cond.static yJ1_charAt_3b067 ∈ lw_g) (lw_b1 12 (by decide +kernel) rfl : Cond.initialized yJ1_charAt_3b067.cls ∈ lw_g) (lw_b3 15 rfl rfl : Cond.code yJ1_charAt_3b067 cJ1_charAt_3b067 2 (some .char) ∈ lw_g), ⟨by decide, by decide, by decide +kernel⟩⟩
abbrev po_J0_charAt_0 (T : Zt) (a : Int) : Zt → Option Zv → Prop := fun T' r => T = T' ∧ r = some (vI (cb8_ 0 a))
set_option maxHeartbeats 4000000 in
theorem ct_J0_charAt_0 {T : Zt} {a : Int} (h1 : 0 ≤ a ∧ a < 82) : Ct_ yJ0_charAt_5068e zJ0_charAt_5068e T [vR 82 0, vI a] (po_J0_charAt_0 T a) := by
  refine ct_of (by decide) rfl rfl (Nat.le_of_ble_eq_true rfl) (fun hT hav => ?_)
  have hr_a : -2147483648 ≤ a ∧ a ≤ 2147483647 := hav (vI a) (by simp)
  have hz : zJ0_charAt_5068e.2.2.2.1 = some .boolean → ∀ (T' : Zt) (x : Int), po_J0_charAt_0 T a T' (some (vI x)) → 0 ≤ x ∧ x ≤ 1 := fun h => by cases h
  show J_ zJ0_charAt_5068e T (po_J0_charAt_0 T a) 0 0 0 [some (vR 82 0), some (vI a)] [] T
  refine j_blx (F := fJ0) tb_J0 (nn_ _) bk_J0_charAt_5068e_0 bs_J0_charAt_5068e_0 hz (fun K hK => ?_)
  refine hK 1 _ [vR 82 0] T ?_
  refine j_callK (i := 0) (y := yJ0_isLatin1_aae02) (Yc := zJ0_isLatin1_aae02) (rest := []) [] (by decide) (ct_J0_isLatin1_0 (T := T)) ck82_J0_492 (by decide +kernel) (by decide) rfl (by decide +kernel) (Nat.le_of_ble_eq_true rfl) (by decide) (by decide) rfl ?_
  rintro _ _ ⟨rfl, rfl⟩
  show J_ zJ0_charAt_5068e T (po_J0_charAt_0 T a) 0 0 4 _ [vI 1] T
  refine j_blx (F := fJ0) tb_J0 (nn_ _) bk_J0_charAt_5068e_4 bs_J0_charAt_5068e_4 hz (fun K hK => ?_)
  refine And.intro (fun c1 => ?_) (fun c1 => ?_)
  · exact absurd c1 (by decide)
  · refine hK 8 _ [vR 82 0] T ?_
    refine j_gfV (pc := 8) (i := 0) (by decide) (by decide) (lw_b10 118 (by decide +kernel) rfl : Cond.fieldLink RJ0 9 "java/lang/String" "value" "[B" ∈ lw_g) (by decide +kernel) ?_
    show J_ zJ0_charAt_5068e T (po_J0_charAt_0 T a) 0 0 11 _ [vR 83 0] T
    refine j_blx (F := fJ0) tb_J0 (nn_ _) bk_J0_charAt_5068e_11 bs_J0_charAt_5068e_11 hz (fun K hK => ?_)
    refine hK 12 _ [vI a, vR 83 0] T ?_
    refine j_callS (y := yJ1_charAt_3b067) (Yc := zJ1_charAt_3b067) (rest := []) [vR 83 0, vI a] (ct_J1_charAt_0 (T := T) (by omega)) cl_J0_495 (qd_c (by decide +kernel)) (nn_ _) rfl (rf_of rfl) (Nat.le_of_ble_eq_true rfl) (Nat.le_of_ble_eq_true rfl) (Nat.le_of_ble_eq_true rfl) rfl ?_
    rintro _ _ ⟨rfl, rfl⟩
    show J_ zJ0_charAt_5068e T (po_J0_charAt_0 T a) 0 0 15 _ [vI (cb8_ 0 a)] T
    refine j_iretN (pc := 15) (Or.inl rfl) (cb8_b (by decide) a) (by decide +kernel) ?_
    refine (show po_J0_charAt_0 T a T (some (vI (cb8_ 0 a))) from ?_)
    exact ⟨rfl, rfl⟩
abbrev po_J0_coder_1 (T : Zt) : Zt → Option Zv → Prop := fun T' r => T = T' ∧ r = some (vI (0))
set_option maxHeartbeats 4000000 in
theorem ct_J0_coder_1 {T : Zt} : Ct_ yJ0_coder_7d493 zJ0_coder_7d493 T [vR 82 1] (po_J0_coder_1 T) := by
  refine ct_of (by decide) rfl rfl (Nat.le_of_ble_eq_true rfl) (fun hT hav => ?_)
  have hz : zJ0_coder_7d493.2.2.2.1 = some .boolean → ∀ (T' : Zt) (x : Int), po_J0_coder_1 T T' (some (vI x)) → 0 ≤ x ∧ x ≤ 1 := fun h => by cases h
  show J_ zJ0_coder_7d493 T (po_J0_coder_1 T) 0 0 0 [some (vR 82 1)] [] T
  refine j_gsC (pc := 0) (by decide) (lw_b3 3 (by decide +kernel) rfl : Cond.fieldLink RJ0 38 "java/lang/String" "COMPACT_STRINGS" "Z" ∈ lw_g) (by decide +kernel) ?_
  show J_ zJ0_coder_7d493 T (po_J0_coder_1 T) 0 0 3 _ [vI 1] T
  refine j_blx (F := fJ0) tb_J0 (nn_ _) bk_J0_coder_7d493_3 bs_J0_coder_7d493_3 hz (fun K hK => ?_)
  refine And.intro (fun c1 => ?_) (fun c1 => ?_)
  · exact absurd c1 (by decide)
  · refine hK 7 _ [vR 82 1] T ?_
    refine j_gfC (pc := 7) (i := 1) (by decide) (by decide) (lw_b10 119 (by decide +kernel) rfl : Cond.fieldLink RJ0 15 "java/lang/String" "coder" "B" ∈ lw_g) (by decide +kernel) ?_
    show J_ zJ0_coder_7d493 T (po_J0_coder_1 T) 0 0 10 _ [vI 0] T
    refine j_blx (F := fJ0) tb_J0 (nn_ _) bk_J0_coder_7d493_10 bs_J0_coder_7d493_10 hz (fun K hK => ?_)
    refine hK 14 _ [vI 0] T ?_
    refine j_iretN (pc := 14) (Or.inr rfl) ⟨by decide, by decide⟩ (by decide +kernel) ?_
    refine (show po_J0_coder_1 T T (some (vI 0)) from ?_)
    exact ⟨rfl, rfl⟩
abbrev po_J0_isLatin1_1 (T : Zt) : Zt → Option Zv → Prop := fun T' r => T = T' ∧ r = some (vI (1))
set_option maxHeartbeats 4000000 in
theorem ct_J0_isLatin1_1 {T : Zt} : Ct_ yJ0_isLatin1_aae02 zJ0_isLatin1_aae02 T [vR 82 1] (po_J0_isLatin1_1 T) := by
  refine ct_of (by decide) rfl rfl (Nat.le_of_ble_eq_true rfl) (fun hT hav => ?_)
  have hz : zJ0_isLatin1_aae02.2.2.2.1 = some .boolean → ∀ (T' : Zt) (x : Int), po_J0_isLatin1_1 T T' (some (vI x)) → 0 ≤ x ∧ x ≤ 1 := fun _ T' x h => by obtain ⟨-, e⟩ := h; cases e; omega
  show J_ zJ0_isLatin1_aae02 T (po_J0_isLatin1_1 T) 0 0 0 [some (vR 82 1)] [] T
  refine j_gsC (pc := 0) (by decide) (lw_b3 3 (by decide +kernel) rfl : Cond.fieldLink RJ0 38 "java/lang/String" "COMPACT_STRINGS" "Z" ∈ lw_g) (by decide +kernel) ?_
  show J_ zJ0_isLatin1_aae02 T (po_J0_isLatin1_1 T) 0 0 3 _ [vI 1] T
  refine j_blx (F := fJ0) tb_J0 (nn_ _) bk_J0_isLatin1_aae02_3 bs_J0_isLatin1_aae02_3 hz (fun K hK => ?_)
  refine And.intro (fun c1 => ?_) (fun c1 => ?_)
  · exact absurd c1 (by decide)
  · refine hK 7 _ [vR 82 1] T ?_
    refine j_gfC (pc := 7) (i := 1) (by decide) (by decide) (lw_b10 119 (by decide +kernel) rfl : Cond.fieldLink RJ0 15 "java/lang/String" "coder" "B" ∈ lw_g) (by decide +kernel) ?_
    show J_ zJ0_isLatin1_aae02 T (po_J0_isLatin1_1 T) 0 0 10 _ [vI 0] T
    refine j_blx (F := fJ0) tb_J0 (nn_ _) bk_J0_isLatin1_aae02_10 bs_J0_isLatin1_aae02_10 hz (fun K hK => ?_)
    refine And.intro (fun c2 => ?_) (fun c2 => ?_)
    · exact absurd c2 (by decide)
    · refine hK 18 _ [vI 1] T ?_
      refine j_blx (F := fJ0) tb_J0 (nn_ _) bk_J0_isLatin1_aae02_18 bs_J0_isLatin1_aae02_18 hz (fun K hK => ?_)
      refine (show po_J0_isLatin1_1 T T (some (vI 1)) from ?_)
      exact ⟨rfl, rfl⟩
abbrev po_J0_length_1 (T : Zt) : Zt → Option Zv → Prop := fun T' r => T = T' ∧ r = some (vI (36))
set_option maxHeartbeats 4000000 in
theorem ct_J0_length_1 {T : Zt} : Ct_ yJ0_length_8abf5 zJ0_length_8abf5 T [vR 82 1] (po_J0_length_1 T) := by
  refine ct_of (by decide) rfl rfl (Nat.le_of_ble_eq_true rfl) (fun hT hav => ?_)
  have hz : zJ0_length_8abf5.2.2.2.1 = some .boolean → ∀ (T' : Zt) (x : Int), po_J0_length_1 T T' (some (vI x)) → 0 ≤ x ∧ x ≤ 1 := fun h => by cases h
  show J_ zJ0_length_8abf5 T (po_J0_length_1 T) 0 0 0 [some (vR 82 1)] [] T
  refine j_blx (F := fJ0) tb_J0 (nn_ _) bk_J0_length_8abf5_0 bs_J0_length_8abf5_0 hz (fun K hK => ?_)
  refine hK 1 _ [vR 82 1] T ?_
  refine j_gfV (pc := 1) (i := 1) (by decide) (by decide) (lw_b10 118 (by decide +kernel) rfl : Cond.fieldLink RJ0 9 "java/lang/String" "value" "[B" ∈ lw_g) (by decide +kernel) ?_
  show J_ zJ0_length_8abf5 T (po_J0_length_1 T) 0 0 4 _ [vR 83 1] T
  refine j_len83 (pc := 4) (i := 1) (n := 36) (by decide) (by decide) (by decide) (by decide) (by decide +kernel) ?_
  show J_ zJ0_length_8abf5 T (po_J0_length_1 T) 0 0 5 _ [vI 36] T
  refine j_blx (F := fJ0) tb_J0 (nn_ _) bk_J0_length_8abf5_5 bs_J0_length_8abf5_5 hz (fun K hK => ?_)
  refine hK 6 _ [vR 82 1, vI 36] T ?_
  refine j_callK (i := 1) (y := yJ0_coder_7d493) (Yc := zJ0_coder_7d493) (rest := [vI 36]) [] (by decide) (ct_J0_coder_1 (T := T)) ck82_J0_335 (by decide +kernel) (by decide) rfl (by decide +kernel) (Nat.le_of_ble_eq_true rfl) (by decide) (by decide) rfl ?_
  rintro _ _ ⟨rfl, rfl⟩
  show J_ zJ0_length_8abf5 T (po_J0_length_1 T) 0 0 9 _ [vI 0, vI 36] T
  refine j_blx (F := fJ0) tb_J0 (nn_ _) bk_J0_length_8abf5_9 bs_J0_length_8abf5_9 hz (fun K hK => ?_)
  intro w1 w1b
  refine (show po_J0_length_1 T T (some (vI (sr_ 36 0))) from ?_)
  exact ⟨rfl, by rw [show sr_ 36 0 = 36 by decide]⟩
abbrev po_J1_charAt_1 (T : Zt) (a : Int) : Zt → Option Zv → Prop := fun T' r => T = T' ∧ r = some (vI (cb8_ 1 a))
set_option maxHeartbeats 4000000 in
theorem ct_J1_charAt_1 {T : Zt} {a : Int} (h1 : 0 ≤ a ∧ a < 36) : Ct_ yJ1_charAt_3b067 zJ1_charAt_3b067 T [vR 83 1, vI a] (po_J1_charAt_1 T a) := by
  refine ct_of (by decide) rfl rfl (Nat.le_of_ble_eq_true rfl) (fun hT hav => ?_)
  have hr_a : -2147483648 ≤ a ∧ a ≤ 2147483647 := hav (vI a) (by simp)
  have hz : zJ1_charAt_3b067.2.2.2.1 = some .boolean → ∀ (T' : Zt) (x : Int), po_J1_charAt_1 T a T' (some (vI x)) → 0 ≤ x ∧ x ≤ 1 := fun h => by cases h
  show J_ zJ1_charAt_3b067 T (po_J1_charAt_1 T a) 0 0 0 [some (vR 83 1), some (vI a)] [] T
  refine j_blx (F := fJ1) tb_J1 (nn_ _) bk_J1_charAt_3b067_0 bs_J1_charAt_3b067_0 hz (fun K hK => ?_)
  refine hK 2 _ [vR 83 1, vI a] T ?_
  refine j_len83 (pc := 2) (i := 1) (n := 36) (by decide) (by decide) (by decide) (by decide) (by decide +kernel) ?_
  show J_ zJ1_charAt_3b067 T (po_J1_charAt_1 T a) 0 0 3 _ [vI 36, vI a] T
  refine j_callS (y := yJ0_checkIndex_df160) (Yc := zJ0_checkIndex_df160) (rest := []) [vI a, vI 36] (ct_J0_checkIndex_df160 (T := T) (by omega)) cl_J1_9 (qd_c (by decide +kernel)) (nn_ _) rfl (rf_of rfl) (Nat.le_of_ble_eq_true rfl) (Nat.le_of_ble_eq_true rfl) (Nat.le_of_ble_eq_true rfl) rfl ?_
  rintro _ _ ⟨rfl, rfl⟩
  show J_ zJ1_charAt_3b067 T (po_J1_charAt_1 T a) 0 0 6 _ [] T
  refine j_blx (F := fJ1) tb_J1 (nn_ _) bk_J1_charAt_3b067_6 bs_J1_charAt_3b067_6 hz (fun K hK => ?_)
  refine hK 8 _ [vI a, vR 83 1] T ?_
  refine j_ba83 (pc := 8) (i := 1) (n := 36) (by decide) (by decide) (by decide) (by omega) (by omega) (by decide) (fun k _ => ⟨i3_b _, bv_k (by decide) k⟩) (by decide +kernel) ?_
  have hcb := cb8_b (i := 1) (by decide) a
  show J_ zJ1_charAt_3b067 T (po_J1_charAt_1 T a) 0 0 9 _ [vI (cb8_ 1 a)] T
  refine j_blx (F := fJ1) tb_J1 (nn_ _) bk_J1_charAt_3b067_9 bs_J1_charAt_3b067_9 hz (fun K hK => ?_)
  intro w1 w1b
  refine hK 13 _ [vI (an_ (cb8_ 1 a) 255)] T ?_
  rw [an_25 hcb]
  refine j_i2c (pc := 13) (by decide) hcb (by decide +kernel) ?_
  show J_ zJ1_charAt_3b067 T (po_J1_charAt_1 T a) 0 0 14 _ [vI (cb8_ 1 a)] T
  refine j_iretN (pc := 14) (Or.inl rfl) hcb (by decide +kernel) ?_
  refine (show po_J1_charAt_1 T a T (some (vI (cb8_ 1 a))) from ?_)
  exact ⟨rfl, rfl⟩
abbrev po_J0_charAt_1 (T : Zt) (a : Int) : Zt → Option Zv → Prop := fun T' r => T = T' ∧ r = some (vI (cb8_ 1 a))
set_option maxHeartbeats 4000000 in
theorem ct_J0_charAt_1 {T : Zt} {a : Int} (h1 : 0 ≤ a ∧ a < 36) : Ct_ yJ0_charAt_5068e zJ0_charAt_5068e T [vR 82 1, vI a] (po_J0_charAt_1 T a) := by
  refine ct_of (by decide) rfl rfl (Nat.le_of_ble_eq_true rfl) (fun hT hav => ?_)
  have hr_a : -2147483648 ≤ a ∧ a ≤ 2147483647 := hav (vI a) (by simp)
  have hz : zJ0_charAt_5068e.2.2.2.1 = some .boolean → ∀ (T' : Zt) (x : Int), po_J0_charAt_1 T a T' (some (vI x)) → 0 ≤ x ∧ x ≤ 1 := fun h => by cases h
  show J_ zJ0_charAt_5068e T (po_J0_charAt_1 T a) 0 0 0 [some (vR 82 1), some (vI a)] [] T
  refine j_blx (F := fJ0) tb_J0 (nn_ _) bk_J0_charAt_5068e_0 bs_J0_charAt_5068e_0 hz (fun K hK => ?_)
  refine hK 1 _ [vR 82 1] T ?_
  refine j_callK (i := 1) (y := yJ0_isLatin1_aae02) (Yc := zJ0_isLatin1_aae02) (rest := []) [] (by decide) (ct_J0_isLatin1_1 (T := T)) ck82_J0_492 (by decide +kernel) (by decide) rfl (by decide +kernel) (Nat.le_of_ble_eq_true rfl) (by decide) (by decide) rfl ?_
  rintro _ _ ⟨rfl, rfl⟩
  show J_ zJ0_charAt_5068e T (po_J0_charAt_1 T a) 0 0 4 _ [vI 1] T
  refine j_blx (F := fJ0) tb_J0 (nn_ _) bk_J0_charAt_5068e_4 bs_J0_charAt_5068e_4 hz (fun K hK => ?_)
  refine And.intro (fun c1 => ?_) (fun c1 => ?_)
  · exact absurd c1 (by decide)
  · refine hK 8 _ [vR 82 1] T ?_
    refine j_gfV (pc := 8) (i := 1) (by decide) (by decide) (lw_b10 118 (by decide +kernel) rfl : Cond.fieldLink RJ0 9 "java/lang/String" "value" "[B" ∈ lw_g) (by decide +kernel) ?_
    show J_ zJ0_charAt_5068e T (po_J0_charAt_1 T a) 0 0 11 _ [vR 83 1] T
    refine j_blx (F := fJ0) tb_J0 (nn_ _) bk_J0_charAt_5068e_11 bs_J0_charAt_5068e_11 hz (fun K hK => ?_)
    refine hK 12 _ [vI a, vR 83 1] T ?_
    refine j_callS (y := yJ1_charAt_3b067) (Yc := zJ1_charAt_3b067) (rest := []) [vR 83 1, vI a] (ct_J1_charAt_1 (T := T) (by omega)) cl_J0_495 (qd_c (by decide +kernel)) (nn_ _) rfl (rf_of rfl) (Nat.le_of_ble_eq_true rfl) (Nat.le_of_ble_eq_true rfl) (Nat.le_of_ble_eq_true rfl) rfl ?_
    rintro _ _ ⟨rfl, rfl⟩
    show J_ zJ0_charAt_5068e T (po_J0_charAt_1 T a) 0 0 15 _ [vI (cb8_ 1 a)] T
    refine j_iretN (pc := 15) (Or.inl rfl) (cb8_b (by decide) a) (by decide +kernel) ?_
    refine (show po_J0_charAt_1 T a T (some (vI (cb8_ 1 a))) from ?_)
    exact ⟨rfl, rfl⟩
abbrev po_J0_coder_2 (T : Zt) : Zt → Option Zv → Prop := fun T' r => T = T' ∧ r = some (vI (0))
set_option maxHeartbeats 4000000 in
theorem ct_J0_coder_2 {T : Zt} : Ct_ yJ0_coder_7d493 zJ0_coder_7d493 T [vR 82 2] (po_J0_coder_2 T) := by
  refine ct_of (by decide) rfl rfl (Nat.le_of_ble_eq_true rfl) (fun hT hav => ?_)
  have hz : zJ0_coder_7d493.2.2.2.1 = some .boolean → ∀ (T' : Zt) (x : Int), po_J0_coder_2 T T' (some (vI x)) → 0 ≤ x ∧ x ≤ 1 := fun h => by cases h
  show J_ zJ0_coder_7d493 T (po_J0_coder_2 T) 0 0 0 [some (vR 82 2)] [] T
  refine j_gsC (pc := 0) (by decide) (lw_b3 3 (by decide +kernel) rfl : Cond.fieldLink RJ0 38 "java/lang/String" "COMPACT_STRINGS" "Z" ∈ lw_g) (by decide +kernel) ?_
  show J_ zJ0_coder_7d493 T (po_J0_coder_2 T) 0 0 3 _ [vI 1] T
  refine j_blx (F := fJ0) tb_J0 (nn_ _) bk_J0_coder_7d493_3 bs_J0_coder_7d493_3 hz (fun K hK => ?_)
  refine And.intro (fun c1 => ?_) (fun c1 => ?_)
  · exact absurd c1 (by decide)
  · refine hK 7 _ [vR 82 2] T ?_
    refine j_gfC (pc := 7) (i := 2) (by decide) (by decide) (lw_b10 119 (by decide +kernel) rfl : Cond.fieldLink RJ0 15 "java/lang/String" "coder" "B" ∈ lw_g) (by decide +kernel) ?_
    show J_ zJ0_coder_7d493 T (po_J0_coder_2 T) 0 0 10 _ [vI 0] T
    refine j_blx (F := fJ0) tb_J0 (nn_ _) bk_J0_coder_7d493_10 bs_J0_coder_7d493_10 hz (fun K hK => ?_)
    refine hK 14 _ [vI 0] T ?_
    refine j_iretN (pc := 14) (Or.inr rfl) ⟨by decide, by decide⟩ (by decide +kernel) ?_
    refine (show po_J0_coder_2 T T (some (vI 0)) from ?_)
    exact ⟨rfl, rfl⟩
abbrev po_J0_isLatin1_2 (T : Zt) : Zt → Option Zv → Prop := fun T' r => T = T' ∧ r = some (vI (1))
set_option maxHeartbeats 4000000 in
theorem ct_J0_isLatin1_2 {T : Zt} : Ct_ yJ0_isLatin1_aae02 zJ0_isLatin1_aae02 T [vR 82 2] (po_J0_isLatin1_2 T) := by
  refine ct_of (by decide) rfl rfl (Nat.le_of_ble_eq_true rfl) (fun hT hav => ?_)
  have hz : zJ0_isLatin1_aae02.2.2.2.1 = some .boolean → ∀ (T' : Zt) (x : Int), po_J0_isLatin1_2 T T' (some (vI x)) → 0 ≤ x ∧ x ≤ 1 := fun _ T' x h => by obtain ⟨-, e⟩ := h; cases e; omega
  show J_ zJ0_isLatin1_aae02 T (po_J0_isLatin1_2 T) 0 0 0 [some (vR 82 2)] [] T
  refine j_gsC (pc := 0) (by decide) (lw_b3 3 (by decide +kernel) rfl : Cond.fieldLink RJ0 38 "java/lang/String" "COMPACT_STRINGS" "Z" ∈ lw_g) (by decide +kernel) ?_
  show J_ zJ0_isLatin1_aae02 T (po_J0_isLatin1_2 T) 0 0 3 _ [vI 1] T
  refine j_blx (F := fJ0) tb_J0 (nn_ _) bk_J0_isLatin1_aae02_3 bs_J0_isLatin1_aae02_3 hz (fun K hK => ?_)
  refine And.intro (fun c1 => ?_) (fun c1 => ?_)
  · exact absurd c1 (by decide)
  · refine hK 7 _ [vR 82 2] T ?_
    refine j_gfC (pc := 7) (i := 2) (by decide) (by decide) (lw_b10 119 (by decide +kernel) rfl : Cond.fieldLink RJ0 15 "java/lang/String" "coder" "B" ∈ lw_g) (by decide +kernel) ?_
    show J_ zJ0_isLatin1_aae02 T (po_J0_isLatin1_2 T) 0 0 10 _ [vI 0] T
    refine j_blx (F := fJ0) tb_J0 (nn_ _) bk_J0_isLatin1_aae02_10 bs_J0_isLatin1_aae02_10 hz (fun K hK => ?_)
    refine And.intro (fun c2 => ?_) (fun c2 => ?_)
    · exact absurd c2 (by decide)
    · refine hK 18 _ [vI 1] T ?_
      refine j_blx (F := fJ0) tb_J0 (nn_ _) bk_J0_isLatin1_aae02_18 bs_J0_isLatin1_aae02_18 hz (fun K hK => ?_)
      refine (show po_J0_isLatin1_2 T T (some (vI 1)) from ?_)
      exact ⟨rfl, rfl⟩
abbrev po_J0_length_2 (T : Zt) : Zt → Option Zv → Prop := fun T' r => T = T' ∧ r = some (vI (37))
set_option maxHeartbeats 4000000 in
theorem ct_J0_length_2 {T : Zt} : Ct_ yJ0_length_8abf5 zJ0_length_8abf5 T [vR 82 2] (po_J0_length_2 T) := by
  refine ct_of (by decide) rfl rfl (Nat.le_of_ble_eq_true rfl) (fun hT hav => ?_)
  have hz : zJ0_length_8abf5.2.2.2.1 = some .boolean → ∀ (T' : Zt) (x : Int), po_J0_length_2 T T' (some (vI x)) → 0 ≤ x ∧ x ≤ 1 := fun h => by cases h
  show J_ zJ0_length_8abf5 T (po_J0_length_2 T) 0 0 0 [some (vR 82 2)] [] T
  refine j_blx (F := fJ0) tb_J0 (nn_ _) bk_J0_length_8abf5_0 bs_J0_length_8abf5_0 hz (fun K hK => ?_)
  refine hK 1 _ [vR 82 2] T ?_
  refine j_gfV (pc := 1) (i := 2) (by decide) (by decide) (lw_b10 118 (by decide +kernel) rfl : Cond.fieldLink RJ0 9 "java/lang/String" "value" "[B" ∈ lw_g) (by decide +kernel) ?_
  show J_ zJ0_length_8abf5 T (po_J0_length_2 T) 0 0 4 _ [vR 83 2] T
  refine j_len83 (pc := 4) (i := 2) (n := 37) (by decide) (by decide) (by decide) (by decide) (by decide +kernel) ?_
  show J_ zJ0_length_8abf5 T (po_J0_length_2 T) 0 0 5 _ [vI 37] T
  refine j_blx (F := fJ0) tb_J0 (nn_ _) bk_J0_length_8abf5_5 bs_J0_length_8abf5_5 hz (fun K hK => ?_)
  refine hK 6 _ [vR 82 2, vI 37] T ?_
  refine j_callK (i := 2) (y := yJ0_coder_7d493) (Yc := zJ0_coder_7d493) (rest := [vI 37]) [] (by decide) (ct_J0_coder_2 (T := T)) ck82_J0_335 (by decide +kernel) (by decide) rfl (by decide +kernel) (Nat.le_of_ble_eq_true rfl) (by decide) (by decide) rfl ?_
  rintro _ _ ⟨rfl, rfl⟩
  show J_ zJ0_length_8abf5 T (po_J0_length_2 T) 0 0 9 _ [vI 0, vI 37] T
  refine j_blx (F := fJ0) tb_J0 (nn_ _) bk_J0_length_8abf5_9 bs_J0_length_8abf5_9 hz (fun K hK => ?_)
  intro w1 w1b
  refine (show po_J0_length_2 T T (some (vI (sr_ 37 0))) from ?_)
  exact ⟨rfl, by rw [show sr_ 37 0 = 37 by decide]⟩
abbrev po_J1_charAt_2 (T : Zt) (a : Int) : Zt → Option Zv → Prop := fun T' r => T = T' ∧ r = some (vI (cb8_ 2 a))
set_option maxHeartbeats 4000000 in
theorem ct_J1_charAt_2 {T : Zt} {a : Int} (h1 : 0 ≤ a ∧ a < 37) : Ct_ yJ1_charAt_3b067 zJ1_charAt_3b067 T [vR 83 2, vI a] (po_J1_charAt_2 T a) := by
  refine ct_of (by decide) rfl rfl (Nat.le_of_ble_eq_true rfl) (fun hT hav => ?_)
  have hr_a : -2147483648 ≤ a ∧ a ≤ 2147483647 := hav (vI a) (by simp)
  have hz : zJ1_charAt_3b067.2.2.2.1 = some .boolean → ∀ (T' : Zt) (x : Int), po_J1_charAt_2 T a T' (some (vI x)) → 0 ≤ x ∧ x ≤ 1 := fun h => by cases h
  show J_ zJ1_charAt_3b067 T (po_J1_charAt_2 T a) 0 0 0 [some (vR 83 2), some (vI a)] [] T
  refine j_blx (F := fJ1) tb_J1 (nn_ _) bk_J1_charAt_3b067_0 bs_J1_charAt_3b067_0 hz (fun K hK => ?_)
  refine hK 2 _ [vR 83 2, vI a] T ?_
  refine j_len83 (pc := 2) (i := 2) (n := 37) (by decide) (by decide) (by decide) (by decide) (by decide +kernel) ?_
  show J_ zJ1_charAt_3b067 T (po_J1_charAt_2 T a) 0 0 3 _ [vI 37, vI a] T
  refine j_callS (y := yJ0_checkIndex_df160) (Yc := zJ0_checkIndex_df160) (rest := []) [vI a, vI 37] (ct_J0_checkIndex_df160 (T := T) (by omega)) cl_J1_9 (qd_c (by decide +kernel)) (nn_ _) rfl (rf_of rfl) (Nat.le_of_ble_eq_true rfl) (Nat.le_of_ble_eq_true rfl) (Nat.le_of_ble_eq_true rfl) rfl ?_
  rintro _ _ ⟨rfl, rfl⟩
  show J_ zJ1_charAt_3b067 T (po_J1_charAt_2 T a) 0 0 6 _ [] T
  refine j_blx (F := fJ1) tb_J1 (nn_ _) bk_J1_charAt_3b067_6 bs_J1_charAt_3b067_6 hz (fun K hK => ?_)
  refine hK 8 _ [vI a, vR 83 2] T ?_
  refine j_ba83 (pc := 8) (i := 2) (n := 37) (by decide) (by decide) (by decide) (by omega) (by omega) (by decide) (fun k _ => ⟨i3_b _, bv_k (by decide) k⟩) (by decide +kernel) ?_
  have hcb := cb8_b (i := 2) (by decide) a
  show J_ zJ1_charAt_3b067 T (po_J1_charAt_2 T a) 0 0 9 _ [vI (cb8_ 2 a)] T
  refine j_blx (F := fJ1) tb_J1 (nn_ _) bk_J1_charAt_3b067_9 bs_J1_charAt_3b067_9 hz (fun K hK => ?_)
  intro w1 w1b
  refine hK 13 _ [vI (an_ (cb8_ 2 a) 255)] T ?_
  rw [an_25 hcb]
  refine j_i2c (pc := 13) (by decide) hcb (by decide +kernel) ?_
  show J_ zJ1_charAt_3b067 T (po_J1_charAt_2 T a) 0 0 14 _ [vI (cb8_ 2 a)] T
  refine j_iretN (pc := 14) (Or.inl rfl) hcb (by decide +kernel) ?_
  refine (show po_J1_charAt_2 T a T (some (vI (cb8_ 2 a))) from ?_)
  exact ⟨rfl, rfl⟩
abbrev po_J0_charAt_2 (T : Zt) (a : Int) : Zt → Option Zv → Prop := fun T' r => T = T' ∧ r = some (vI (cb8_ 2 a))
set_option maxHeartbeats 4000000 in
theorem ct_J0_charAt_2 {T : Zt} {a : Int} (h1 : 0 ≤ a ∧ a < 37) : Ct_ yJ0_charAt_5068e zJ0_charAt_5068e T [vR 82 2, vI a] (po_J0_charAt_2 T a) := by
  refine ct_of (by decide) rfl rfl (Nat.le_of_ble_eq_true rfl) (fun hT hav => ?_)
  have hr_a : -2147483648 ≤ a ∧ a ≤ 2147483647 := hav (vI a) (by simp)
  have hz : zJ0_charAt_5068e.2.2.2.1 = some .boolean → ∀ (T' : Zt) (x : Int), po_J0_charAt_2 T a T' (some (vI x)) → 0 ≤ x ∧ x ≤ 1 := fun h => by cases h
  show J_ zJ0_charAt_5068e T (po_J0_charAt_2 T a) 0 0 0 [some (vR 82 2), some (vI a)] [] T
  refine j_blx (F := fJ0) tb_J0 (nn_ _) bk_J0_charAt_5068e_0 bs_J0_charAt_5068e_0 hz (fun K hK => ?_)
  refine hK 1 _ [vR 82 2] T ?_
  refine j_callK (i := 2) (y := yJ0_isLatin1_aae02) (Yc := zJ0_isLatin1_aae02) (rest := []) [] (by decide) (ct_J0_isLatin1_2 (T := T)) ck82_J0_492 (by decide +kernel) (by decide) rfl (by decide +kernel) (Nat.le_of_ble_eq_true rfl) (by decide) (by decide) rfl ?_
  rintro _ _ ⟨rfl, rfl⟩
  show J_ zJ0_charAt_5068e T (po_J0_charAt_2 T a) 0 0 4 _ [vI 1] T
  refine j_blx (F := fJ0) tb_J0 (nn_ _) bk_J0_charAt_5068e_4 bs_J0_charAt_5068e_4 hz (fun K hK => ?_)
  refine And.intro (fun c1 => ?_) (fun c1 => ?_)
  · exact absurd c1 (by decide)
  · refine hK 8 _ [vR 82 2] T ?_
    refine j_gfV (pc := 8) (i := 2) (by decide) (by decide) (lw_b10 118 (by decide +kernel) rfl : Cond.fieldLink RJ0 9 "java/lang/String" "value" "[B" ∈ lw_g) (by decide +kernel) ?_
    show J_ zJ0_charAt_5068e T (po_J0_charAt_2 T a) 0 0 11 _ [vR 83 2] T
    refine j_blx (F := fJ0) tb_J0 (nn_ _) bk_J0_charAt_5068e_11 bs_J0_charAt_5068e_11 hz (fun K hK => ?_)
    refine hK 12 _ [vI a, vR 83 2] T ?_
    refine j_callS (y := yJ1_charAt_3b067) (Yc := zJ1_charAt_3b067) (rest := []) [vR 83 2, vI a] (ct_J1_charAt_2 (T := T) (by omega)) cl_J0_495 (qd_c (by decide +kernel)) (nn_ _) rfl (rf_of rfl) (Nat.le_of_ble_eq_true rfl) (Nat.le_of_ble_eq_true rfl) (Nat.le_of_ble_eq_true rfl) rfl ?_
    rintro _ _ ⟨rfl, rfl⟩
    show J_ zJ0_charAt_5068e T (po_J0_charAt_2 T a) 0 0 15 _ [vI (cb8_ 2 a)] T
    refine j_iretN (pc := 15) (Or.inl rfl) (cb8_b (by decide) a) (by decide +kernel) ?_
    refine (show po_J0_charAt_2 T a T (some (vI (cb8_ 2 a))) from ?_)
    exact ⟨rfl, rfl⟩
