abbrev cX10_sign : ByteArray := prog_1_method_2_code
def yX10_sign : MethodName := ⟨RX10, "sign", "(I)I"⟩
theorem dX10_sign_0 : decode cX10_sign 0 = .ok (.iload_n 1, 1) := by decide +kernel
theorem dX10_sign_1 : decode cX10_sign 1 = .ok (.bipush 10, 2) := by decide +kernel
theorem dX10_sign_3 : decode cX10_sign 3 = .ok (.if_icmp .eq 18, 3) := by decide +kernel
theorem dX10_sign_21 : decode cX10_sign 21 = .ok (.aload_n 0, 1) := by decide +kernel
theorem dX10_sign_22 : decode cX10_sign 22 = .ok (.getfield 12, 3) := by decide +kernel
theorem dX10_sign_25 : decode cX10_sign 25 = .ok (.getfield 66, 3) := by decide +kernel
theorem kw_37 : Cond.fieldLink RX10 66 "SportsHouse$RuleText" "length" "I" ∈ lw_g := lw_at 37 (by decide +kernel) rfl
theorem dX10_sign_28 : decode cX10_sign 28 = .ok (.sipush 400, 3) := by decide +kernel
theorem dX10_sign_31 : decode cX10_sign 31 = .ok (.if_icmp .lt 6, 3) := by decide +kernel
theorem dX10_sign_37 : decode cX10_sign 37 = .ok (.aload_n 0, 1) := by decide +kernel
theorem dX10_sign_38 : decode cX10_sign 38 = .ok (.getfield 12, 3) := by decide +kernel
theorem dX10_sign_41 : decode cX10_sign 41 = .ok (.getfield 70, 3) := by decide +kernel
theorem kw_36 : Cond.fieldLink RX10 70 "SportsHouse$RuleText" "bytes" "[I" ∈ lw_g := lw_at 36 (by decide +kernel) rfl
theorem dX10_sign_44 : decode cX10_sign 44 = .ok (.aload_n 0, 1) := by decide +kernel
theorem dX10_sign_45 : decode cX10_sign 45 = .ok (.getfield 12, 3) := by decide +kernel
theorem dX10_sign_48 : decode cX10_sign 48 = .ok (.getfield 66, 3) := by decide +kernel
theorem dX10_sign_51 : decode cX10_sign 51 = .ok (.iload_n 1, 1) := by decide +kernel
theorem dX10_sign_52 : decode cX10_sign 52 = .ok (.iastore, 1) := by decide +kernel
theorem dX10_sign_53 : decode cX10_sign 53 = .ok (.aload_n 0, 1) := by decide +kernel
theorem dX10_sign_54 : decode cX10_sign 54 = .ok (.getfield 12, 3) := by decide +kernel
theorem dX10_sign_57 : decode cX10_sign 57 = .ok (.dup, 1) := by decide +kernel
theorem dX10_sign_58 : decode cX10_sign 58 = .ok (.getfield 66, 3) := by decide +kernel
theorem dX10_sign_61 : decode cX10_sign 61 = .ok (.iconst 1, 1) := by decide +kernel
theorem dX10_sign_62 : decode cX10_sign 62 = .ok (.iadd, 1) := by decide +kernel
theorem dX10_sign_63 : decode cX10_sign 63 = .ok (.putfield 66, 3) := by decide +kernel
theorem dX10_sign_66 : decode cX10_sign 66 = .ok (.aload_n 0, 1) := by decide +kernel
theorem dX10_sign_67 : decode cX10_sign 67 = .ok (.getfield 12, 3) := by decide +kernel
theorem dX10_sign_70 : decode cX10_sign 70 = .ok (.getfield 66, 3) := by decide +kernel
theorem dX10_sign_73 : decode cX10_sign 73 = .ok (.ireturn, 1) := by decide +kernel
theorem dX10_sign_6 : decode cX10_sign 6 = .ok (.iload_n 1, 1) := by decide +kernel
theorem dX10_sign_7 : decode cX10_sign 7 = .ok (.bipush 32, 2) := by decide +kernel
theorem dX10_sign_9 : decode cX10_sign 9 = .ok (.if_icmp .lt 9, 3) := by decide +kernel
theorem dX10_sign_18 : decode cX10_sign 18 = .ok (.bipush (-3), 2) := by decide +kernel
theorem dX10_sign_20 : decode cX10_sign 20 = .ok (.ireturn, 1) := by decide +kernel
theorem dX10_sign_12 : decode cX10_sign 12 = .ok (.iload_n 1, 1) := by decide +kernel
theorem dX10_sign_13 : decode cX10_sign 13 = .ok (.bipush 126, 2) := by decide +kernel
theorem dX10_sign_15 : decode cX10_sign 15 = .ok (.if_icmp .le 6, 3) := by decide +kernel
def sp_X10_sign (na : Int32) : Int32 := if na = 10 then 1 else if na < 32 then (-3) else if na ≤ 126 then 1 else (-3)
set_option maxHeartbeats 4000000 in
set_option maxRecDepth 100000 in
theorem ct_X10_sign (l : Launch) (dC : Nat → ClassId) (dI : Nat → Nat → Nat) (x0 : Nat) (rt : Nat) (ab : Nat) (fx : List Value) (frt : List Value) (kab : ClassId) (gab : Nat → Int32) (hfx_0 : fx[0]? = some (.ref rt)) (hn_frt : frt.length = 10) (hfrt_0 : frt[0]? = some (.ref ab)) (hfrt_1 : frt[1]? = some (.int 0)) (sz : Nat) (na : Int32) : Met l yX10_sign (.code yX10_sign cX10_sign 2 (some .int) :: lw_g) ({ frames := 2, cells := 0, slots := 0, locals := 120 }) (ro_P dC dI [(x0, .inr (10, fx)), (rt, .inr (5, frt)), (ab, .inl (kab, 400, .inl gab))] [(kab, .int)] sz [.ref x0, .int na]) (ri_Q (sp_X10_sign na) (va_A [(x0, .inr (10, fx)), (rt, .inr (5, frt)), (ab, .inl (kab, 400, .inl gab))] sz)) 0 0 (va_A [(x0, .inr (10, fx)), (rt, .inr (5, frt)), (ab, .inl (kab, 400, .inl gab))] sz) := by
  refine ro_entry (by decide) (Nat.le_of_ble_eq_true rfl) ?_
  intro p e s m below meth c ls hx hb hr hlocks ht hown hin hml hsz hP hK hD hE hl
  subst hsz
  have hD := hD.self (sz := s.heap.size)
  generalize hAe : va_A [(x0, .inr (10, fx)), (rt, .inr (5, frt)), (ab, .inl (kab, 400, .inl gab))] s.heap.size = A at hD ⊢
  have hA : ∀ q, s.heap.size ≤ q → A q := fun q h => by rw [← hAe]; exact Or.inr h
  have hS : va_S A s.heap s.heap [] := va_S.rf
  have hl : lv_has ls 2 [(0, .ref x0), (1, .int na)] := hl
  have hown : s.vm.findClass RX10 = some m.cls := hown
  refine lv_iload_n hx hb dX10_sign_0 rfl (lv_at hl 1 rfl) ?_
  refine lv_bipush (v := 10) hx hb dX10_sign_1 (by decide) ?_
  refine lv_icmp_eq (tgt := 21) hx hb dX10_sign_3 (by decide) (fun c1 => ?_) (fun c1 => ?_)
  · refine lv_aload_n hx hb dX10_sign_21 rfl (lv_at hl 0 rfl) ?_
    refine va_get (D := (dC, dI)) (ci := 10) (v := .ref rt) (C := RX10) (T := TX10) (N := 7) hx hb ht inX10 hown hK hP 0 rfl rfl 0 (by decide) (ht _ kw_405) (fun _ h9 => h9) hfx_0 dX10_sign_22 ?_
    refine va_get (D := (dC, dI)) (ci := 5) (v := .int 0) (C := RX5) (T := TX5) (N := 10) hx hb ht inX5 hown hK hP 1 rfl rfl 1 (by decide) (ht _ kw_37) (fun _ h9 => h9) hfrt_1 dX10_sign_25 ?_
    refine lv_sipush (v := 400) hx hb dX10_sign_28 (by decide) ?_
    refine lv_icmp_lt (tgt := 37) hx hb dX10_sign_31 (by decide) (fun c2 => ?_) (fun c2 => ?_)
    rotate_left
    · exact absurd (by decide) c2
    refine lv_aload_n hx hb dX10_sign_37 rfl (lv_at hl 0 rfl) ?_
    refine va_get (D := (dC, dI)) (ci := 10) (v := .ref rt) (C := RX10) (T := TX10) (N := 7) hx hb ht inX10 hown hK hP 0 rfl rfl 0 (by decide) (ht _ kw_405) (fun _ h9 => h9) hfx_0 dX10_sign_38 ?_
    refine va_get (D := (dC, dI)) (ci := 5) (v := .ref ab) (C := RX5) (T := TX5) (N := 10) hx hb ht inX5 hown hK hP 1 rfl rfl 0 (by decide) (ht _ kw_36) (fun _ h9 => h9) hfrt_0 dX10_sign_41 ?_
    refine lv_aload_n hx hb dX10_sign_44 rfl (lv_at hl 0 rfl) ?_
    refine va_get (D := (dC, dI)) (ci := 10) (v := .ref rt) (C := RX10) (T := TX10) (N := 7) hx hb ht inX10 hown hK hP 0 rfl rfl 0 (by decide) (ht _ kw_405) (fun _ h9 => h9) hfx_0 dX10_sign_45 ?_
    refine va_get (D := (dC, dI)) (ci := 5) (v := .int 0) (C := RX5) (T := TX5) (N := 10) hx hb ht inX5 hown hK hP 1 rfl rfl 1 (by decide) (ht _ kw_37) (fun _ h9 => h9) hfrt_1 dX10_sign_48 ?_
    refine lv_iload_n hx hb dX10_sign_51 rfl (lv_at hl 1 rfl) ?_
    refine va_iast hx hb hK hP hD hS 2 0 rfl rfl (by unfold vp_in; decide) dX10_sign_52 (fun H locs hP hD hS => ?_)
    generalize upd gab (0 : Int32).toNatClampNeg na = g3 at hP hD
    have hP : va_P (dC, dI) vwCl [(x0, .inr (10, fx)), (rt, .inr (5, frt)), (ab, .inl (kab, 400, .inl g3))] H := hP
    have hD : va_D A [(x0, .inr (10, fx)), (rt, .inr (5, frt)), (ab, .inl (kab, 400, .inl g3))] := hD
    refine lv_aload_n hx hb dX10_sign_53 rfl (lv_at hl 0 rfl) ?_
    refine va_get (D := (dC, dI)) (ci := 10) (v := .ref rt) (C := RX10) (T := TX10) (N := 7) hx hb ht inX10 hown hK hP 0 rfl rfl 0 (by decide) (ht _ kw_405) (fun _ h9 => h9) hfx_0 dX10_sign_54 ?_
    refine lv_dup hx hb dX10_sign_57 rfl ?_
    refine va_get (D := (dC, dI)) (ci := 5) (v := .int 0) (C := RX5) (T := TX5) (N := 10) hx hb ht inX5 hown hK hP 1 rfl rfl 1 (by decide) (ht _ kw_37) (fun _ h9 => h9) hfrt_1 dX10_sign_58 ?_
    refine lv_iconst (v := 1) hx hb dX10_sign_61 (by decide) ?_
    refine lv_iadd hx hb dX10_sign_62 ?_
    refine lv_topi (fun r4 er4 => ?_)
    have er4 : r4 = 1 := er4.trans (by decide)
    subst er4
    refine va_put (D := (dC, dI)) (ci := 5) (v := .int 1) (ty := .int) (C := RX5) (T := TX5) (N := 10) hx hb ht inX5 tyX5 tyX5_ok nmX5 hown hK hP hD hS 1 rfl rfl 1 (by decide) (ht _ kw_37) (fun _ h9 => h9) rfl (by decide +kernel) rfl rfl (gs_lt hn_frt (by decide)) dX10_sign_63 (fun H locs hP hD hS => ?_)
    have hP : va_P (dC, dI) vwCl [(x0, .inr (10, fx)), (rt, .inr (5, (frt.set 1 (.int 1)))), (ab, .inl (kab, 400, .inl g3))] H := hP
    have hD : va_D A [(x0, .inr (10, fx)), (rt, .inr (5, (frt.set 1 (.int 1)))), (ab, .inl (kab, 400, .inl g3))] := hD
    refine lv_aload_n hx hb dX10_sign_66 rfl (lv_at hl 0 rfl) ?_
    refine va_get (D := (dC, dI)) (ci := 10) (v := .ref rt) (C := RX10) (T := TX10) (N := 7) hx hb ht inX10 hown hK hP 0 rfl rfl 0 (by decide) (ht _ kw_405) (fun _ h9 => h9) hfx_0 dX10_sign_67 ?_
    refine va_get (D := (dC, dI)) (ci := 5) (v := .int 1) (C := RX5) (T := TX5) (N := 10) hx hb ht inX5 hown hK hP 1 rfl rfl 1 (by decide) (ht _ kw_37) (fun _ h9 => h9) (gs_eq (gs_lt hn_frt (by decide))) dX10_sign_70 ?_
    exact W.iret hx hb hr (fun t ht9 hW => ⟨⟨_, (), rfl, (by unfold sp_X10_sign; rw [if_pos c1]), trivial⟩, hS.F ht9⟩) hS.2.2 dX10_sign_73
  · refine lv_iload_n hx hb dX10_sign_6 rfl (lv_at hl 1 rfl) ?_
    refine lv_bipush (v := 32) hx hb dX10_sign_7 (by decide) ?_
    refine lv_icmp_lt (tgt := 18) hx hb dX10_sign_9 (by decide) (fun c5 => ?_) (fun c5 => ?_)
    · refine lv_bipush (v := (-3)) hx hb dX10_sign_18 (by decide) ?_
      exact W.iret hx hb hr (fun t ht9 hW => ⟨⟨_, (), rfl, (by unfold sp_X10_sign; rw [if_neg c1, if_pos c5]), trivial⟩, hS.F ht9⟩) hS.2.2 dX10_sign_20
    · refine lv_iload_n hx hb dX10_sign_12 rfl (lv_at hl 1 rfl) ?_
      refine lv_bipush (v := 126) hx hb dX10_sign_13 (by decide) ?_
      refine lv_icmp_le (tgt := 21) hx hb dX10_sign_15 (by decide) (fun c6 => ?_) (fun c6 => ?_)
      · refine lv_aload_n hx hb dX10_sign_21 rfl (lv_at hl 0 rfl) ?_
        refine va_get (D := (dC, dI)) (ci := 10) (v := .ref rt) (C := RX10) (T := TX10) (N := 7) hx hb ht inX10 hown hK hP 0 rfl rfl 0 (by decide) (ht _ kw_405) (fun _ h9 => h9) hfx_0 dX10_sign_22 ?_
        refine va_get (D := (dC, dI)) (ci := 5) (v := .int 0) (C := RX5) (T := TX5) (N := 10) hx hb ht inX5 hown hK hP 1 rfl rfl 1 (by decide) (ht _ kw_37) (fun _ h9 => h9) hfrt_1 dX10_sign_25 ?_
        refine lv_sipush (v := 400) hx hb dX10_sign_28 (by decide) ?_
        refine lv_icmp_lt (tgt := 37) hx hb dX10_sign_31 (by decide) (fun c7 => ?_) (fun c7 => ?_)
        rotate_left
        · exact absurd (by decide) c7
        refine lv_aload_n hx hb dX10_sign_37 rfl (lv_at hl 0 rfl) ?_
        refine va_get (D := (dC, dI)) (ci := 10) (v := .ref rt) (C := RX10) (T := TX10) (N := 7) hx hb ht inX10 hown hK hP 0 rfl rfl 0 (by decide) (ht _ kw_405) (fun _ h9 => h9) hfx_0 dX10_sign_38 ?_
        refine va_get (D := (dC, dI)) (ci := 5) (v := .ref ab) (C := RX5) (T := TX5) (N := 10) hx hb ht inX5 hown hK hP 1 rfl rfl 0 (by decide) (ht _ kw_36) (fun _ h9 => h9) hfrt_0 dX10_sign_41 ?_
        refine lv_aload_n hx hb dX10_sign_44 rfl (lv_at hl 0 rfl) ?_
        refine va_get (D := (dC, dI)) (ci := 10) (v := .ref rt) (C := RX10) (T := TX10) (N := 7) hx hb ht inX10 hown hK hP 0 rfl rfl 0 (by decide) (ht _ kw_405) (fun _ h9 => h9) hfx_0 dX10_sign_45 ?_
        refine va_get (D := (dC, dI)) (ci := 5) (v := .int 0) (C := RX5) (T := TX5) (N := 10) hx hb ht inX5 hown hK hP 1 rfl rfl 1 (by decide) (ht _ kw_37) (fun _ h9 => h9) hfrt_1 dX10_sign_48 ?_
        refine lv_iload_n hx hb dX10_sign_51 rfl (lv_at hl 1 rfl) ?_
        refine va_iast hx hb hK hP hD hS 2 0 rfl rfl (by unfold vp_in; decide) dX10_sign_52 (fun H locs hP hD hS => ?_)
        generalize upd gab (0 : Int32).toNatClampNeg na = g8 at hP hD
        have hP : va_P (dC, dI) vwCl [(x0, .inr (10, fx)), (rt, .inr (5, frt)), (ab, .inl (kab, 400, .inl g8))] H := hP
        have hD : va_D A [(x0, .inr (10, fx)), (rt, .inr (5, frt)), (ab, .inl (kab, 400, .inl g8))] := hD
        refine lv_aload_n hx hb dX10_sign_53 rfl (lv_at hl 0 rfl) ?_
        refine va_get (D := (dC, dI)) (ci := 10) (v := .ref rt) (C := RX10) (T := TX10) (N := 7) hx hb ht inX10 hown hK hP 0 rfl rfl 0 (by decide) (ht _ kw_405) (fun _ h9 => h9) hfx_0 dX10_sign_54 ?_
        refine lv_dup hx hb dX10_sign_57 rfl ?_
        refine va_get (D := (dC, dI)) (ci := 5) (v := .int 0) (C := RX5) (T := TX5) (N := 10) hx hb ht inX5 hown hK hP 1 rfl rfl 1 (by decide) (ht _ kw_37) (fun _ h9 => h9) hfrt_1 dX10_sign_58 ?_
        refine lv_iconst (v := 1) hx hb dX10_sign_61 (by decide) ?_
        refine lv_iadd hx hb dX10_sign_62 ?_
        refine lv_topi (fun r9 er9 => ?_)
        have er9 : r9 = 1 := er9.trans (by decide)
        subst er9
        refine va_put (D := (dC, dI)) (ci := 5) (v := .int 1) (ty := .int) (C := RX5) (T := TX5) (N := 10) hx hb ht inX5 tyX5 tyX5_ok nmX5 hown hK hP hD hS 1 rfl rfl 1 (by decide) (ht _ kw_37) (fun _ h9 => h9) rfl (by decide +kernel) rfl rfl (gs_lt hn_frt (by decide)) dX10_sign_63 (fun H locs hP hD hS => ?_)
        have hP : va_P (dC, dI) vwCl [(x0, .inr (10, fx)), (rt, .inr (5, (frt.set 1 (.int 1)))), (ab, .inl (kab, 400, .inl g8))] H := hP
        have hD : va_D A [(x0, .inr (10, fx)), (rt, .inr (5, (frt.set 1 (.int 1)))), (ab, .inl (kab, 400, .inl g8))] := hD
        refine lv_aload_n hx hb dX10_sign_66 rfl (lv_at hl 0 rfl) ?_
        refine va_get (D := (dC, dI)) (ci := 10) (v := .ref rt) (C := RX10) (T := TX10) (N := 7) hx hb ht inX10 hown hK hP 0 rfl rfl 0 (by decide) (ht _ kw_405) (fun _ h9 => h9) hfx_0 dX10_sign_67 ?_
        refine va_get (D := (dC, dI)) (ci := 5) (v := .int 1) (C := RX5) (T := TX5) (N := 10) hx hb ht inX5 hown hK hP 1 rfl rfl 1 (by decide) (ht _ kw_37) (fun _ h9 => h9) (gs_eq (gs_lt hn_frt (by decide))) dX10_sign_70 ?_
        exact W.iret hx hb hr (fun t ht9 hW => ⟨⟨_, (), rfl, (by unfold sp_X10_sign; rw [if_neg c1, if_neg c5, if_pos c6]), trivial⟩, hS.F ht9⟩) hS.2.2 dX10_sign_73
      · refine lv_bipush (v := (-3)) hx hb dX10_sign_18 (by decide) ?_
        exact W.iret hx hb hr (fun t ht9 hW => ⟨⟨_, (), rfl, (by unfold sp_X10_sign; rw [if_neg c1, if_neg c5, if_neg c6]), trivial⟩, hS.F ht9⟩) hS.2.2 dX10_sign_20
abbrev cX10_wipe : ByteArray := prog_1_method_3_code
def yX10_wipe : MethodName := ⟨RX10, "wipe", "()I"⟩
theorem dX10_wipe_0 : decode cX10_wipe 0 = .ok (.aload_n 0, 1) := by decide +kernel
theorem dX10_wipe_1 : decode cX10_wipe 1 = .ok (.getfield 12, 3) := by decide +kernel
theorem dX10_wipe_4 : decode cX10_wipe 4 = .ok (.getfield 66, 3) := by decide +kernel
theorem dX10_wipe_7 : decode cX10_wipe 7 = .ok (.istore_n 1, 1) := by decide +kernel
theorem dX10_wipe_8 : decode cX10_wipe 8 = .ok (.aload_n 0, 1) := by decide +kernel
theorem dX10_wipe_9 : decode cX10_wipe 9 = .ok (.getfield 12, 3) := by decide +kernel
theorem dX10_wipe_12 : decode cX10_wipe 12 = .ok (.iconst 0, 1) := by decide +kernel
theorem dX10_wipe_13 : decode cX10_wipe 13 = .ok (.putfield 66, 3) := by decide +kernel
theorem dX10_wipe_16 : decode cX10_wipe 16 = .ok (.iload_n 1, 1) := by decide +kernel
theorem dX10_wipe_17 : decode cX10_wipe 17 = .ok (.ireturn, 1) := by decide +kernel
set_option maxHeartbeats 4000000 in
set_option maxRecDepth 100000 in
theorem ct_X10_wipe (l : Launch) (dC : Nat → ClassId) (dI : Nat → Nat → Nat) (x0 : Nat) (rt : Nat) (fx : List Value) (frt : List Value) (hfx_0 : fx[0]? = some (.ref rt)) (hn_frt : frt.length = 10) (hfrt_1 : frt[1]? = some (.int 0)) (sz : Nat)  : Met l yX10_wipe (.code yX10_wipe cX10_wipe 2 (some .int) :: lw_g) ({ frames := 2, cells := 0, slots := 0, locals := 120 }) (ro_P dC dI [(x0, .inr (10, fx)), (rt, .inr (5, frt))] [] sz [.ref x0]) (ri_Q 0 (va_A [(x0, .inr (10, fx)), (rt, .inr (5, frt))] sz)) 0 0 (va_A [(x0, .inr (10, fx)), (rt, .inr (5, frt))] sz) := by
  refine ro_entry (by decide) (Nat.le_of_ble_eq_true rfl) ?_
  intro p e s m below meth c ls hx hb hr hlocks ht hown hin hml hsz hP hK hD hE hl
  subst hsz
  have hD := hD.self (sz := s.heap.size)
  generalize hAe : va_A [(x0, .inr (10, fx)), (rt, .inr (5, frt))] s.heap.size = A at hD ⊢
  have hA : ∀ q, s.heap.size ≤ q → A q := fun q h => by rw [← hAe]; exact Or.inr h
  have hS : va_S A s.heap s.heap [] := va_S.rf
  have hl : lv_has ls 2 [(0, .ref x0)] := hl
  have hown : s.vm.findClass RX10 = some m.cls := hown
  refine lv_aload_n hx hb dX10_wipe_0 rfl (lv_at hl 0 rfl) ?_
  refine va_get (D := (dC, dI)) (ci := 10) (v := .ref rt) (C := RX10) (T := TX10) (N := 7) hx hb ht inX10 hown hK hP 0 rfl rfl 0 (by decide) (ht _ kw_405) (fun _ h9 => h9) hfx_0 dX10_wipe_1 ?_
  refine va_get (D := (dC, dI)) (ci := 5) (v := .int 0) (C := RX5) (T := TX5) (N := 10) hx hb ht inX5 hown hK hP 1 rfl rfl 1 (by decide) (ht _ kw_37) (fun _ h9 => h9) hfrt_1 dX10_wipe_4 ?_
  refine lv_istore_n (lv' := [(1, .int 0), (0, .ref x0)]) hx hb dX10_wipe_7 rfl hl (by decide) rfl (fun ls hl => ?_)
  refine lv_aload_n hx hb dX10_wipe_8 rfl (lv_at hl 1 rfl) ?_
  refine va_get (D := (dC, dI)) (ci := 10) (v := .ref rt) (C := RX10) (T := TX10) (N := 7) hx hb ht inX10 hown hK hP 0 rfl rfl 0 (by decide) (ht _ kw_405) (fun _ h9 => h9) hfx_0 dX10_wipe_9 ?_
  refine lv_iconst (v := 0) hx hb dX10_wipe_12 (by decide) ?_
  refine va_put (D := (dC, dI)) (ci := 5) (v := .int 0) (ty := .int) (C := RX5) (T := TX5) (N := 10) hx hb ht inX5 tyX5 tyX5_ok nmX5 hown hK hP hD hS 1 rfl rfl 1 (by decide) (ht _ kw_37) (fun _ h9 => h9) rfl (by decide +kernel) rfl rfl (gs_lt hn_frt (by decide)) dX10_wipe_13 (fun H locs hP hD hS => ?_)
  have hP : va_P (dC, dI) vwCl [(x0, .inr (10, fx)), (rt, .inr (5, (frt.set 1 (.int 0))))] H := hP
  have hD : va_D A [(x0, .inr (10, fx)), (rt, .inr (5, (frt.set 1 (.int 0))))] := hD
  refine lv_iload_n hx hb dX10_wipe_16 rfl (lv_at hl 0 rfl) ?_
  exact W.iret hx hb hr (fun t ht9 hW => ⟨⟨_, (), rfl, rfl, trivial⟩, hS.F ht9⟩) hS.2.2 dX10_wipe_17
abbrev cX10_club : ByteArray := prog_1_method_7_code
def yX10_club : MethodName := ⟨RX10, "club", "(II)I"⟩
theorem dX10_club_0 : decode cX10_club 0 = .ok (.iload_n 1, 1) := by decide +kernel
theorem dX10_club_1 : decode cX10_club 1 = .ok (.bipush 12, 2) := by decide +kernel
theorem dX10_club_3 : decode cX10_club 3 = .ok (.invokestatic 115, 3) := by decide +kernel
theorem dX10_club_6 : decode cX10_club 6 = .ok (.ifCond .eq 12, 3) := by decide +kernel
theorem dX10_club_18 : decode cX10_club 18 = .ok (.bipush (-3), 2) := by decide +kernel
theorem dX10_club_20 : decode cX10_club 20 = .ok (.ireturn, 1) := by decide +kernel
theorem dX10_club_9 : decode cX10_club 9 = .ok (.iload_n 2, 1) := by decide +kernel
theorem dX10_club_10 : decode cX10_club 10 = .ok (.bipush 8, 2) := by decide +kernel
theorem dX10_club_12 : decode cX10_club 12 = .ok (.invokestatic 115, 3) := by decide +kernel
theorem dX10_club_15 : decode cX10_club 15 = .ok (.ifCond .ne 6, 3) := by decide +kernel
theorem dX10_club_21 : decode cX10_club 21 = .ok (.aload_n 0, 1) := by decide +kernel
theorem dX10_club_22 : decode cX10_club 22 = .ok (.getfield 19, 3) := by decide +kernel
theorem dX10_club_25 : decode cX10_club 25 = .ok (.getfield 119, 3) := by decide +kernel
theorem dX10_club_28 : decode cX10_club 28 = .ok (.bipush 12, 2) := by decide +kernel
theorem dX10_club_30 : decode cX10_club 30 = .ok (.if_icmp .lt 6, 3) := by decide +kernel
theorem dX10_club_36 : decode cX10_club 36 = .ok (.aload_n 0, 1) := by decide +kernel
theorem dX10_club_37 : decode cX10_club 37 = .ok (.getfield 19, 3) := by decide +kernel
theorem dX10_club_40 : decode cX10_club 40 = .ok (.getfield 119, 3) := by decide +kernel
theorem dX10_club_43 : decode cX10_club 43 = .ok (.istore_n 3, 1) := by decide +kernel
theorem dX10_club_44 : decode cX10_club 44 = .ok (.aload_n 0, 1) := by decide +kernel
theorem dX10_club_45 : decode cX10_club 45 = .ok (.getfield 19, 3) := by decide +kernel
theorem dX10_club_48 : decode cX10_club 48 = .ok (.getfield 122, 3) := by decide +kernel
theorem kw_80 : Cond.fieldLink RX10 122 "SportsHouse$Things" "stadium" "[I" ∈ lw_g := lw_at 80 (by decide +kernel) rfl
theorem dX10_club_51 : decode cX10_club 51 = .ok (.iload_n 3, 1) := by decide +kernel
theorem dX10_club_52 : decode cX10_club 52 = .ok (.iload_n 1, 1) := by decide +kernel
theorem dX10_club_53 : decode cX10_club 53 = .ok (.iastore, 1) := by decide +kernel
theorem dX10_club_54 : decode cX10_club 54 = .ok (.aload_n 0, 1) := by decide +kernel
theorem dX10_club_55 : decode cX10_club 55 = .ok (.getfield 19, 3) := by decide +kernel
theorem dX10_club_58 : decode cX10_club 58 = .ok (.getfield 125, 3) := by decide +kernel
theorem kw_86 : Cond.fieldLink RX10 125 "SportsHouse$Things" "country" "[I" ∈ lw_g := lw_at 86 (by decide +kernel) rfl
theorem dX10_club_61 : decode cX10_club 61 = .ok (.iload_n 3, 1) := by decide +kernel
theorem dX10_club_62 : decode cX10_club 62 = .ok (.iload_n 2, 1) := by decide +kernel
theorem dX10_club_63 : decode cX10_club 63 = .ok (.iastore, 1) := by decide +kernel
theorem dX10_club_64 : decode cX10_club 64 = .ok (.aload_n 0, 1) := by decide +kernel
theorem dX10_club_65 : decode cX10_club 65 = .ok (.getfield 19, 3) := by decide +kernel
theorem dX10_club_68 : decode cX10_club 68 = .ok (.dup, 1) := by decide +kernel
theorem dX10_club_69 : decode cX10_club 69 = .ok (.getfield 119, 3) := by decide +kernel
theorem dX10_club_72 : decode cX10_club 72 = .ok (.iconst 1, 1) := by decide +kernel
theorem dX10_club_73 : decode cX10_club 73 = .ok (.iadd, 1) := by decide +kernel
theorem dX10_club_74 : decode cX10_club 74 = .ok (.putfield 119, 3) := by decide +kernel
theorem dX10_club_77 : decode cX10_club 77 = .ok (.iload_n 3, 1) := by decide +kernel
theorem dX10_club_78 : decode cX10_club 78 = .ok (.ireturn, 1) := by decide +kernel
def sp_X10_club (na : Int32) (nb : Int32) : Int32 := if (sp_X10_isBelow na 12) = 0 then (-3) else if (sp_X10_isBelow nb 8) = 0 then (-3) else 0
set_option maxHeartbeats 4000000 in
set_option maxRecDepth 100000 in
theorem ct_X10_club (l : Launch) (dC : Nat → ClassId) (dI : Nat → Nat → Nat) (x0 : Nat) (th : Nat) (as : Nat) (ac : Nat) (fx : List Value) (fth : List Value) (kas : ClassId) (gas : Nat → Int32) (kac : ClassId) (gac : Nat → Int32) (hfx_1 : fx[1]? = some (.ref th)) (hn_fth : fth.length = 14) (hfth_0 : fth[0]? = some (.ref as)) (hfth_1 : fth[1]? = some (.ref ac)) (hfth_2 : fth[2]? = some (.int 0)) (sz : Nat) (na : Int32) (nb : Int32) : Met l yX10_club (.code yX10_club cX10_club 4 (some .int) :: lw_g) ({ frames := 2, cells := 0, slots := 0, locals := 120 }) (ro_P dC dI [(x0, .inr (10, fx)), (th, .inr (8, fth)), (as, .inl (kas, 12, .inl gas)), (ac, .inl (kac, 12, .inl gac))] [(kas, .int), (kac, .int)] sz [.ref x0, .int na, .int nb]) (ri_Q (sp_X10_club na nb) (va_A [(x0, .inr (10, fx)), (th, .inr (8, fth)), (as, .inl (kas, 12, .inl gas)), (ac, .inl (kac, 12, .inl gac))] sz)) 0 0 (va_A [(x0, .inr (10, fx)), (th, .inr (8, fth)), (as, .inl (kas, 12, .inl gas)), (ac, .inl (kac, 12, .inl gac))] sz) := by
  refine ro_entry (by decide) (Nat.le_of_ble_eq_true rfl) ?_
  intro p e s m below meth c ls hx hb hr hlocks ht hown hin hml hsz hP hK hD hE hl
  subst hsz
  have hD := hD.self (sz := s.heap.size)
  generalize hAe : va_A [(x0, .inr (10, fx)), (th, .inr (8, fth)), (as, .inl (kas, 12, .inl gas)), (ac, .inl (kac, 12, .inl gac))] s.heap.size = A at hD ⊢
  have hA : ∀ q, s.heap.size ≤ q → A q := fun q h => by rw [← hAe]; exact Or.inr h
  have hS : va_S A s.heap s.heap [] := va_S.rf
  have hl : lv_has ls 4 [(0, .ref x0), (1, .int na), (2, .int nb)] := hl
  have hown : s.vm.findClass RX10 = some m.cls := hown
  refine lv_iload_n hx hb dX10_club_0 rfl (lv_at hl 1 rfl) ?_
  refine lv_bipush (v := 12) hx hb dX10_club_1 (by decide) ?_
  refine ro_callS (n := 2) (As := [.int na, .int 12]) (rest := []) hx hb hml hown ht hK hP hS hA hE (ct_X10_isBelow l dC dI  _ na 12) gv_X10_115 rfl rfl (by decide +kernel) ⟨Nat.le_of_ble_eq_true rfl, Nat.le_of_ble_eq_true rfl⟩ rfl hl.1 (Nat.le_of_ble_eq_true rfl) ⟨Nat.le_of_ble_eq_true rfl, Nat.le_of_ble_eq_true rfl⟩ rfl dX10_club_3 (fun H locs hP hS => ?_)
  refine lv_if_eq (tgt := 18) hx hb dX10_club_6 (by decide) (fun c1 => ?_) (fun c1 => ?_)
  · refine lv_bipush (v := (-3)) hx hb dX10_club_18 (by decide) ?_
    exact W.iret hx hb hr (fun t ht9 hW => ⟨⟨_, (), rfl, (by unfold sp_X10_club; rw [if_pos c1]), trivial⟩, hS.F ht9⟩) hS.2.2 dX10_club_20
  · refine lv_iload_n hx hb dX10_club_9 rfl (lv_at hl 2 rfl) ?_
    refine lv_bipush (v := 8) hx hb dX10_club_10 (by decide) ?_
    refine ro_callS (n := 2) (As := [.int nb, .int 8]) (rest := []) hx hb hml hown ht hK hP hS hA hE (ct_X10_isBelow l dC dI  _ nb 8) gv_X10_115 rfl rfl (by decide +kernel) ⟨Nat.le_of_ble_eq_true rfl, Nat.le_of_ble_eq_true rfl⟩ rfl hl.1 (Nat.le_of_ble_eq_true rfl) ⟨Nat.le_of_ble_eq_true rfl, Nat.le_of_ble_eq_true rfl⟩ rfl dX10_club_12 (fun H locs hP hS => ?_)
    refine lv_if_ne (tgt := 21) hx hb dX10_club_15 (by decide) (fun c2 => ?_) (fun c2 => ?_)
    · refine lv_aload_n hx hb dX10_club_21 rfl (lv_at hl 0 rfl) ?_
      refine va_get (D := (dC, dI)) (ci := 10) (v := .ref th) (C := RX10) (T := TX10) (N := 7) hx hb ht inX10 hown hK hP 0 rfl rfl 1 (by decide) (ht _ kw_406) (fun _ h9 => h9) hfx_1 dX10_club_22 ?_
      refine va_get (D := (dC, dI)) (ci := 8) (v := .int 0) (C := RX8) (T := TX8) (N := 14) hx hb ht inX8 hown hK hP 1 rfl rfl 2 (by decide) (ht _ kw_87) (fun _ h9 => h9) hfth_2 dX10_club_25 ?_
      refine lv_bipush (v := 12) hx hb dX10_club_28 (by decide) ?_
      refine lv_icmp_lt (tgt := 36) hx hb dX10_club_30 (by decide) (fun c3 => ?_) (fun c3 => ?_)
      rotate_left
      · exact absurd (by decide) c3
      refine lv_aload_n hx hb dX10_club_36 rfl (lv_at hl 0 rfl) ?_
      refine va_get (D := (dC, dI)) (ci := 10) (v := .ref th) (C := RX10) (T := TX10) (N := 7) hx hb ht inX10 hown hK hP 0 rfl rfl 1 (by decide) (ht _ kw_406) (fun _ h9 => h9) hfx_1 dX10_club_37 ?_
      refine va_get (D := (dC, dI)) (ci := 8) (v := .int 0) (C := RX8) (T := TX8) (N := 14) hx hb ht inX8 hown hK hP 1 rfl rfl 2 (by decide) (ht _ kw_87) (fun _ h9 => h9) hfth_2 dX10_club_40 ?_
      refine lv_istore_n (lv' := [(3, .int 0), (0, .ref x0), (1, .int na), (2, .int nb)]) hx hb dX10_club_43 rfl hl (by decide) rfl (fun ls hl => ?_)
      refine lv_aload_n hx hb dX10_club_44 rfl (lv_at hl 1 rfl) ?_
      refine va_get (D := (dC, dI)) (ci := 10) (v := .ref th) (C := RX10) (T := TX10) (N := 7) hx hb ht inX10 hown hK hP 0 rfl rfl 1 (by decide) (ht _ kw_406) (fun _ h9 => h9) hfx_1 dX10_club_45 ?_
      refine va_get (D := (dC, dI)) (ci := 8) (v := .ref as) (C := RX8) (T := TX8) (N := 14) hx hb ht inX8 hown hK hP 1 rfl rfl 0 (by decide) (ht _ kw_80) (fun _ h9 => h9) hfth_0 dX10_club_48 ?_
      refine lv_iload_n hx hb dX10_club_51 rfl (lv_at hl 0 rfl) ?_
      refine lv_iload_n hx hb dX10_club_52 rfl (lv_at hl 2 rfl) ?_
      refine va_iast hx hb hK hP hD hS 2 0 rfl rfl (by unfold vp_in; decide) dX10_club_53 (fun H locs hP hD hS => ?_)
      generalize upd gas (0 : Int32).toNatClampNeg na = g4 at hP hD
      have hP : va_P (dC, dI) vwCl [(x0, .inr (10, fx)), (th, .inr (8, fth)), (as, .inl (kas, 12, .inl g4)), (ac, .inl (kac, 12, .inl gac))] H := hP
      have hD : va_D A [(x0, .inr (10, fx)), (th, .inr (8, fth)), (as, .inl (kas, 12, .inl g4)), (ac, .inl (kac, 12, .inl gac))] := hD
      refine lv_aload_n hx hb dX10_club_54 rfl (lv_at hl 1 rfl) ?_
      refine va_get (D := (dC, dI)) (ci := 10) (v := .ref th) (C := RX10) (T := TX10) (N := 7) hx hb ht inX10 hown hK hP 0 rfl rfl 1 (by decide) (ht _ kw_406) (fun _ h9 => h9) hfx_1 dX10_club_55 ?_
      refine va_get (D := (dC, dI)) (ci := 8) (v := .ref ac) (C := RX8) (T := TX8) (N := 14) hx hb ht inX8 hown hK hP 1 rfl rfl 1 (by decide) (ht _ kw_86) (fun _ h9 => h9) hfth_1 dX10_club_58 ?_
      refine lv_iload_n hx hb dX10_club_61 rfl (lv_at hl 0 rfl) ?_
      refine lv_iload_n hx hb dX10_club_62 rfl (lv_at hl 3 rfl) ?_
      refine va_iast hx hb hK hP hD hS 3 1 rfl rfl (by unfold vp_in; decide) dX10_club_63 (fun H locs hP hD hS => ?_)
      generalize upd gac (0 : Int32).toNatClampNeg nb = g5 at hP hD
      have hP : va_P (dC, dI) vwCl [(x0, .inr (10, fx)), (th, .inr (8, fth)), (as, .inl (kas, 12, .inl g4)), (ac, .inl (kac, 12, .inl g5))] H := hP
      have hD : va_D A [(x0, .inr (10, fx)), (th, .inr (8, fth)), (as, .inl (kas, 12, .inl g4)), (ac, .inl (kac, 12, .inl g5))] := hD
      refine lv_aload_n hx hb dX10_club_64 rfl (lv_at hl 1 rfl) ?_
      refine va_get (D := (dC, dI)) (ci := 10) (v := .ref th) (C := RX10) (T := TX10) (N := 7) hx hb ht inX10 hown hK hP 0 rfl rfl 1 (by decide) (ht _ kw_406) (fun _ h9 => h9) hfx_1 dX10_club_65 ?_
      refine lv_dup hx hb dX10_club_68 rfl ?_
      refine va_get (D := (dC, dI)) (ci := 8) (v := .int 0) (C := RX8) (T := TX8) (N := 14) hx hb ht inX8 hown hK hP 1 rfl rfl 2 (by decide) (ht _ kw_87) (fun _ h9 => h9) hfth_2 dX10_club_69 ?_
      refine lv_iconst (v := 1) hx hb dX10_club_72 (by decide) ?_
      refine lv_iadd hx hb dX10_club_73 ?_
      refine lv_topi (fun r6 er6 => ?_)
      have er6 : r6 = 1 := er6.trans (by decide)
      subst er6
      refine va_put (D := (dC, dI)) (ci := 8) (v := .int 1) (ty := .int) (C := RX8) (T := TX8) (N := 14) hx hb ht inX8 tyX8 tyX8_ok nmX8 hown hK hP hD hS 1 rfl rfl 2 (by decide) (ht _ kw_87) (fun _ h9 => h9) rfl (by decide +kernel) rfl rfl (gs_lt hn_fth (by decide)) dX10_club_74 (fun H locs hP hD hS => ?_)
      have hP : va_P (dC, dI) vwCl [(x0, .inr (10, fx)), (th, .inr (8, (fth.set 2 (.int 1)))), (as, .inl (kas, 12, .inl g4)), (ac, .inl (kac, 12, .inl g5))] H := hP
      have hD : va_D A [(x0, .inr (10, fx)), (th, .inr (8, (fth.set 2 (.int 1)))), (as, .inl (kas, 12, .inl g4)), (ac, .inl (kac, 12, .inl g5))] := hD
      refine lv_iload_n hx hb dX10_club_77 rfl (lv_at hl 0 rfl) ?_
      exact W.iret hx hb hr (fun t ht9 hW => ⟨⟨_, (), rfl, (by unfold sp_X10_club; rw [if_neg c1, if_neg c2]), trivial⟩, hS.F ht9⟩) hS.2.2 dX10_club_78
    · refine lv_bipush (v := (-3)) hx hb dX10_club_18 (by decide) ?_
      exact W.iret hx hb hr (fun t ht9 hW => ⟨⟨_, (), rfl, (by unfold sp_X10_club; rw [if_neg c1, if_pos c2]), trivial⟩, hS.F ht9⟩) hS.2.2 dX10_club_20
abbrev cX10_person : ByteArray := prog_1_method_8_code
def yX10_person : MethodName := ⟨RX10, "person", "()I"⟩
theorem dX10_person_0 : decode cX10_person 0 = .ok (.aload_n 0, 1) := by decide +kernel
theorem dX10_person_1 : decode cX10_person 1 = .ok (.getfield 19, 3) := by decide +kernel
theorem dX10_person_4 : decode cX10_person 4 = .ok (.getfield 128, 3) := by decide +kernel
theorem dX10_person_7 : decode cX10_person 7 = .ok (.sipush 200, 3) := by decide +kernel
theorem dX10_person_10 : decode cX10_person 10 = .ok (.if_icmp .lt 6, 3) := by decide +kernel
theorem dX10_person_16 : decode cX10_person 16 = .ok (.aload_n 0, 1) := by decide +kernel
theorem dX10_person_17 : decode cX10_person 17 = .ok (.getfield 19, 3) := by decide +kernel
theorem dX10_person_20 : decode cX10_person 20 = .ok (.getfield 128, 3) := by decide +kernel
theorem dX10_person_23 : decode cX10_person 23 = .ok (.istore_n 1, 1) := by decide +kernel
theorem dX10_person_24 : decode cX10_person 24 = .ok (.aload_n 0, 1) := by decide +kernel
theorem dX10_person_25 : decode cX10_person 25 = .ok (.getfield 19, 3) := by decide +kernel
theorem dX10_person_28 : decode cX10_person 28 = .ok (.getfield 131, 3) := by decide +kernel
theorem kw_90 : Cond.fieldLink RX10 131 "SportsHouse$Things" "firstSpan" "[I" ∈ lw_g := lw_at 90 (by decide +kernel) rfl
theorem dX10_person_31 : decode cX10_person 31 = .ok (.iload_n 1, 1) := by decide +kernel
theorem dX10_person_32 : decode cX10_person 32 = .ok (.iconst (-1), 1) := by decide +kernel
theorem dX10_person_33 : decode cX10_person 33 = .ok (.iastore, 1) := by decide +kernel
theorem dX10_person_34 : decode cX10_person 34 = .ok (.aload_n 0, 1) := by decide +kernel
theorem dX10_person_35 : decode cX10_person 35 = .ok (.getfield 19, 3) := by decide +kernel
theorem dX10_person_38 : decode cX10_person 38 = .ok (.dup, 1) := by decide +kernel
theorem dX10_person_39 : decode cX10_person 39 = .ok (.getfield 128, 3) := by decide +kernel
theorem dX10_person_42 : decode cX10_person 42 = .ok (.iconst 1, 1) := by decide +kernel
theorem dX10_person_43 : decode cX10_person 43 = .ok (.iadd, 1) := by decide +kernel
theorem dX10_person_44 : decode cX10_person 44 = .ok (.putfield 128, 3) := by decide +kernel
theorem dX10_person_47 : decode cX10_person 47 = .ok (.iload_n 1, 1) := by decide +kernel
theorem dX10_person_48 : decode cX10_person 48 = .ok (.ireturn, 1) := by decide +kernel
set_option maxHeartbeats 4000000 in
set_option maxRecDepth 100000 in
theorem ct_X10_person (l : Launch) (dC : Nat → ClassId) (dI : Nat → Nat → Nat) (x0 : Nat) (th : Nat) (af : Nat) (fx : List Value) (fth : List Value) (kaf : ClassId) (gaf : Nat → Int32) (hfx_1 : fx[1]? = some (.ref th)) (hn_fth : fth.length = 14) (hfth_3 : fth[3]? = some (.int 0)) (hfth_4 : fth[4]? = some (.ref af)) (sz : Nat)  : Met l yX10_person (.code yX10_person cX10_person 2 (some .int) :: lw_g) ({ frames := 2, cells := 0, slots := 0, locals := 120 }) (ro_P dC dI [(x0, .inr (10, fx)), (th, .inr (8, fth)), (af, .inl (kaf, 200, .inl gaf))] [(kaf, .int)] sz [.ref x0]) (ri_Q 0 (va_A [(x0, .inr (10, fx)), (th, .inr (8, fth)), (af, .inl (kaf, 200, .inl gaf))] sz)) 0 0 (va_A [(x0, .inr (10, fx)), (th, .inr (8, fth)), (af, .inl (kaf, 200, .inl gaf))] sz) := by
  refine ro_entry (by decide) (Nat.le_of_ble_eq_true rfl) ?_
  intro p e s m below meth c ls hx hb hr hlocks ht hown hin hml hsz hP hK hD hE hl
  subst hsz
  have hD := hD.self (sz := s.heap.size)
  generalize hAe : va_A [(x0, .inr (10, fx)), (th, .inr (8, fth)), (af, .inl (kaf, 200, .inl gaf))] s.heap.size = A at hD ⊢
  have hA : ∀ q, s.heap.size ≤ q → A q := fun q h => by rw [← hAe]; exact Or.inr h
  have hS : va_S A s.heap s.heap [] := va_S.rf
  have hl : lv_has ls 2 [(0, .ref x0)] := hl
  have hown : s.vm.findClass RX10 = some m.cls := hown
  refine lv_aload_n hx hb dX10_person_0 rfl (lv_at hl 0 rfl) ?_
  refine va_get (D := (dC, dI)) (ci := 10) (v := .ref th) (C := RX10) (T := TX10) (N := 7) hx hb ht inX10 hown hK hP 0 rfl rfl 1 (by decide) (ht _ kw_406) (fun _ h9 => h9) hfx_1 dX10_person_1 ?_
  refine va_get (D := (dC, dI)) (ci := 8) (v := .int 0) (C := RX8) (T := TX8) (N := 14) hx hb ht inX8 hown hK hP 1 rfl rfl 3 (by decide) (ht _ kw_88) (fun _ h9 => h9) hfth_3 dX10_person_4 ?_
  refine lv_sipush (v := 200) hx hb dX10_person_7 (by decide) ?_
  refine lv_icmp_lt (tgt := 16) hx hb dX10_person_10 (by decide) (fun c1 => ?_) (fun c1 => ?_)
  rotate_left
  · exact absurd (by decide) c1
  refine lv_aload_n hx hb dX10_person_16 rfl (lv_at hl 0 rfl) ?_
  refine va_get (D := (dC, dI)) (ci := 10) (v := .ref th) (C := RX10) (T := TX10) (N := 7) hx hb ht inX10 hown hK hP 0 rfl rfl 1 (by decide) (ht _ kw_406) (fun _ h9 => h9) hfx_1 dX10_person_17 ?_
  refine va_get (D := (dC, dI)) (ci := 8) (v := .int 0) (C := RX8) (T := TX8) (N := 14) hx hb ht inX8 hown hK hP 1 rfl rfl 3 (by decide) (ht _ kw_88) (fun _ h9 => h9) hfth_3 dX10_person_20 ?_
  refine lv_istore_n (lv' := [(1, .int 0), (0, .ref x0)]) hx hb dX10_person_23 rfl hl (by decide) rfl (fun ls hl => ?_)
  refine lv_aload_n hx hb dX10_person_24 rfl (lv_at hl 1 rfl) ?_
  refine va_get (D := (dC, dI)) (ci := 10) (v := .ref th) (C := RX10) (T := TX10) (N := 7) hx hb ht inX10 hown hK hP 0 rfl rfl 1 (by decide) (ht _ kw_406) (fun _ h9 => h9) hfx_1 dX10_person_25 ?_
  refine va_get (D := (dC, dI)) (ci := 8) (v := .ref af) (C := RX8) (T := TX8) (N := 14) hx hb ht inX8 hown hK hP 1 rfl rfl 4 (by decide) (ht _ kw_90) (fun _ h9 => h9) hfth_4 dX10_person_28 ?_
  refine lv_iload_n hx hb dX10_person_31 rfl (lv_at hl 0 rfl) ?_
  refine lv_iconst (v := (-1)) hx hb dX10_person_32 (by decide) ?_
  refine va_iast hx hb hK hP hD hS 2 0 rfl rfl (by unfold vp_in; decide) dX10_person_33 (fun H locs hP hD hS => ?_)
  generalize upd gaf (0 : Int32).toNatClampNeg (-1) = g2 at hP hD
  have hP : va_P (dC, dI) vwCl [(x0, .inr (10, fx)), (th, .inr (8, fth)), (af, .inl (kaf, 200, .inl g2))] H := hP
  have hD : va_D A [(x0, .inr (10, fx)), (th, .inr (8, fth)), (af, .inl (kaf, 200, .inl g2))] := hD
  refine lv_aload_n hx hb dX10_person_34 rfl (lv_at hl 1 rfl) ?_
  refine va_get (D := (dC, dI)) (ci := 10) (v := .ref th) (C := RX10) (T := TX10) (N := 7) hx hb ht inX10 hown hK hP 0 rfl rfl 1 (by decide) (ht _ kw_406) (fun _ h9 => h9) hfx_1 dX10_person_35 ?_
  refine lv_dup hx hb dX10_person_38 rfl ?_
  refine va_get (D := (dC, dI)) (ci := 8) (v := .int 0) (C := RX8) (T := TX8) (N := 14) hx hb ht inX8 hown hK hP 1 rfl rfl 3 (by decide) (ht _ kw_88) (fun _ h9 => h9) hfth_3 dX10_person_39 ?_
  refine lv_iconst (v := 1) hx hb dX10_person_42 (by decide) ?_
  refine lv_iadd hx hb dX10_person_43 ?_
  refine lv_topi (fun r3 er3 => ?_)
  have er3 : r3 = 1 := er3.trans (by decide)
  subst er3
  refine va_put (D := (dC, dI)) (ci := 8) (v := .int 1) (ty := .int) (C := RX8) (T := TX8) (N := 14) hx hb ht inX8 tyX8 tyX8_ok nmX8 hown hK hP hD hS 1 rfl rfl 3 (by decide) (ht _ kw_88) (fun _ h9 => h9) rfl (by decide +kernel) rfl rfl (gs_lt hn_fth (by decide)) dX10_person_44 (fun H locs hP hD hS => ?_)
  have hP : va_P (dC, dI) vwCl [(x0, .inr (10, fx)), (th, .inr (8, (fth.set 3 (.int 1)))), (af, .inl (kaf, 200, .inl g2))] H := hP
  have hD : va_D A [(x0, .inr (10, fx)), (th, .inr (8, (fth.set 3 (.int 1)))), (af, .inl (kaf, 200, .inl g2))] := hD
  refine lv_iload_n hx hb dX10_person_47 rfl (lv_at hl 0 rfl) ?_
  exact W.iret hx hb hr (fun t ht9 hW => ⟨⟨_, (), rfl, rfl, trivial⟩, hS.F ht9⟩) hS.2.2 dX10_person_48
abbrev cX10_official : ByteArray := prog_1_method_10_code
def yX10_official : MethodName := ⟨RX10, "official", "(II)I"⟩
theorem dX10_official_0 : decode cX10_official 0 = .ok (.iload_n 1, 1) := by decide +kernel
theorem dX10_official_1 : decode cX10_official 1 = .ok (.bipush 12, 2) := by decide +kernel
theorem dX10_official_3 : decode cX10_official 3 = .ok (.invokestatic 115, 3) := by decide +kernel
theorem dX10_official_6 : decode cX10_official 6 = .ok (.ifCond .eq 12, 3) := by decide +kernel
theorem dX10_official_18 : decode cX10_official 18 = .ok (.bipush (-3), 2) := by decide +kernel
theorem dX10_official_20 : decode cX10_official 20 = .ok (.ireturn, 1) := by decide +kernel
theorem dX10_official_9 : decode cX10_official 9 = .ok (.iload_n 2, 1) := by decide +kernel
theorem dX10_official_10 : decode cX10_official 10 = .ok (.bipush 8, 2) := by decide +kernel
theorem dX10_official_12 : decode cX10_official 12 = .ok (.invokestatic 115, 3) := by decide +kernel
theorem dX10_official_15 : decode cX10_official 15 = .ok (.ifCond .ne 6, 3) := by decide +kernel
theorem dX10_official_21 : decode cX10_official 21 = .ok (.aload_n 0, 1) := by decide +kernel
theorem dX10_official_22 : decode cX10_official 22 = .ok (.getfield 19, 3) := by decide +kernel
theorem dX10_official_25 : decode cX10_official 25 = .ok (.getfield 154, 3) := by decide +kernel
theorem dX10_official_28 : decode cX10_official 28 = .ok (.bipush 8, 2) := by decide +kernel
theorem dX10_official_30 : decode cX10_official 30 = .ok (.if_icmp .lt 6, 3) := by decide +kernel
theorem dX10_official_36 : decode cX10_official 36 = .ok (.aload_n 0, 1) := by decide +kernel
theorem dX10_official_37 : decode cX10_official 37 = .ok (.getfield 19, 3) := by decide +kernel
theorem dX10_official_40 : decode cX10_official 40 = .ok (.getfield 154, 3) := by decide +kernel
theorem dX10_official_43 : decode cX10_official 43 = .ok (.istore_n 3, 1) := by decide +kernel
theorem dX10_official_44 : decode cX10_official 44 = .ok (.aload_n 0, 1) := by decide +kernel
theorem dX10_official_45 : decode cX10_official 45 = .ok (.getfield 19, 3) := by decide +kernel
theorem dX10_official_48 : decode cX10_official 48 = .ok (.getfield 157, 3) := by decide +kernel
theorem kw_99 : Cond.fieldLink RX10 157 "SportsHouse$Things" "officialHome" "[I" ∈ lw_g := lw_at 99 (by decide +kernel) rfl
theorem dX10_official_51 : decode cX10_official 51 = .ok (.iload_n 3, 1) := by decide +kernel
theorem dX10_official_52 : decode cX10_official 52 = .ok (.iload_n 1, 1) := by decide +kernel
theorem dX10_official_53 : decode cX10_official 53 = .ok (.iastore, 1) := by decide +kernel
theorem dX10_official_54 : decode cX10_official 54 = .ok (.aload_n 0, 1) := by decide +kernel
theorem dX10_official_55 : decode cX10_official 55 = .ok (.getfield 19, 3) := by decide +kernel
theorem dX10_official_58 : decode cX10_official 58 = .ok (.getfield 160, 3) := by decide +kernel
theorem kw_102 : Cond.fieldLink RX10 160 "SportsHouse$Things" "officialCountry" "[I" ∈ lw_g := lw_at 102 (by decide +kernel) rfl
theorem dX10_official_61 : decode cX10_official 61 = .ok (.iload_n 3, 1) := by decide +kernel
theorem dX10_official_62 : decode cX10_official 62 = .ok (.iload_n 2, 1) := by decide +kernel
theorem dX10_official_63 : decode cX10_official 63 = .ok (.iastore, 1) := by decide +kernel
theorem dX10_official_64 : decode cX10_official 64 = .ok (.aload_n 0, 1) := by decide +kernel
theorem dX10_official_65 : decode cX10_official 65 = .ok (.getfield 19, 3) := by decide +kernel
theorem dX10_official_68 : decode cX10_official 68 = .ok (.dup, 1) := by decide +kernel
theorem dX10_official_69 : decode cX10_official 69 = .ok (.getfield 154, 3) := by decide +kernel
theorem dX10_official_72 : decode cX10_official 72 = .ok (.iconst 1, 1) := by decide +kernel
theorem dX10_official_73 : decode cX10_official 73 = .ok (.iadd, 1) := by decide +kernel
theorem dX10_official_74 : decode cX10_official 74 = .ok (.putfield 154, 3) := by decide +kernel
theorem dX10_official_77 : decode cX10_official 77 = .ok (.iload_n 3, 1) := by decide +kernel
theorem dX10_official_78 : decode cX10_official 78 = .ok (.ireturn, 1) := by decide +kernel
def sp_X10_official (na : Int32) (nb : Int32) : Int32 := if (sp_X10_isBelow na 12) = 0 then (-3) else if (sp_X10_isBelow nb 8) = 0 then (-3) else 0
set_option maxHeartbeats 4000000 in
set_option maxRecDepth 100000 in
theorem ct_X10_official (l : Launch) (dC : Nat → ClassId) (dI : Nat → Nat → Nat) (x0 : Nat) (th : Nat) (ao : Nat) (ap : Nat) (fx : List Value) (fth : List Value) (kao : ClassId) (gao : Nat → Int32) (kap : ClassId) (gap : Nat → Int32) (hfx_1 : fx[1]? = some (.ref th)) (hn_fth : fth.length = 14) (hfth_10 : fth[10]? = some (.ref ao)) (hfth_11 : fth[11]? = some (.ref ap)) (hfth_12 : fth[12]? = some (.int 0)) (sz : Nat) (na : Int32) (nb : Int32) : Met l yX10_official (.code yX10_official cX10_official 4 (some .int) :: lw_g) ({ frames := 2, cells := 0, slots := 0, locals := 120 }) (ro_P dC dI [(x0, .inr (10, fx)), (th, .inr (8, fth)), (ao, .inl (kao, 8, .inl gao)), (ap, .inl (kap, 8, .inl gap))] [(kao, .int), (kap, .int)] sz [.ref x0, .int na, .int nb]) (ri_Q (sp_X10_official na nb) (va_A [(x0, .inr (10, fx)), (th, .inr (8, fth)), (ao, .inl (kao, 8, .inl gao)), (ap, .inl (kap, 8, .inl gap))] sz)) 0 0 (va_A [(x0, .inr (10, fx)), (th, .inr (8, fth)), (ao, .inl (kao, 8, .inl gao)), (ap, .inl (kap, 8, .inl gap))] sz) := by
  refine ro_entry (by decide) (Nat.le_of_ble_eq_true rfl) ?_
  intro p e s m below meth c ls hx hb hr hlocks ht hown hin hml hsz hP hK hD hE hl
  subst hsz
  have hD := hD.self (sz := s.heap.size)
  generalize hAe : va_A [(x0, .inr (10, fx)), (th, .inr (8, fth)), (ao, .inl (kao, 8, .inl gao)), (ap, .inl (kap, 8, .inl gap))] s.heap.size = A at hD ⊢
  have hA : ∀ q, s.heap.size ≤ q → A q := fun q h => by rw [← hAe]; exact Or.inr h
  have hS : va_S A s.heap s.heap [] := va_S.rf
  have hl : lv_has ls 4 [(0, .ref x0), (1, .int na), (2, .int nb)] := hl
  have hown : s.vm.findClass RX10 = some m.cls := hown
  refine lv_iload_n hx hb dX10_official_0 rfl (lv_at hl 1 rfl) ?_
  refine lv_bipush (v := 12) hx hb dX10_official_1 (by decide) ?_
  refine ro_callS (n := 2) (As := [.int na, .int 12]) (rest := []) hx hb hml hown ht hK hP hS hA hE (ct_X10_isBelow l dC dI  _ na 12) gv_X10_115 rfl rfl (by decide +kernel) ⟨Nat.le_of_ble_eq_true rfl, Nat.le_of_ble_eq_true rfl⟩ rfl hl.1 (Nat.le_of_ble_eq_true rfl) ⟨Nat.le_of_ble_eq_true rfl, Nat.le_of_ble_eq_true rfl⟩ rfl dX10_official_3 (fun H locs hP hS => ?_)
  refine lv_if_eq (tgt := 18) hx hb dX10_official_6 (by decide) (fun c1 => ?_) (fun c1 => ?_)
  · refine lv_bipush (v := (-3)) hx hb dX10_official_18 (by decide) ?_
    exact W.iret hx hb hr (fun t ht9 hW => ⟨⟨_, (), rfl, (by unfold sp_X10_official; rw [if_pos c1]), trivial⟩, hS.F ht9⟩) hS.2.2 dX10_official_20
  · refine lv_iload_n hx hb dX10_official_9 rfl (lv_at hl 2 rfl) ?_
    refine lv_bipush (v := 8) hx hb dX10_official_10 (by decide) ?_
    refine ro_callS (n := 2) (As := [.int nb, .int 8]) (rest := []) hx hb hml hown ht hK hP hS hA hE (ct_X10_isBelow l dC dI  _ nb 8) gv_X10_115 rfl rfl (by decide +kernel) ⟨Nat.le_of_ble_eq_true rfl, Nat.le_of_ble_eq_true rfl⟩ rfl hl.1 (Nat.le_of_ble_eq_true rfl) ⟨Nat.le_of_ble_eq_true rfl, Nat.le_of_ble_eq_true rfl⟩ rfl dX10_official_12 (fun H locs hP hS => ?_)
    refine lv_if_ne (tgt := 21) hx hb dX10_official_15 (by decide) (fun c2 => ?_) (fun c2 => ?_)
    · refine lv_aload_n hx hb dX10_official_21 rfl (lv_at hl 0 rfl) ?_
      refine va_get (D := (dC, dI)) (ci := 10) (v := .ref th) (C := RX10) (T := TX10) (N := 7) hx hb ht inX10 hown hK hP 0 rfl rfl 1 (by decide) (ht _ kw_406) (fun _ h9 => h9) hfx_1 dX10_official_22 ?_
      refine va_get (D := (dC, dI)) (ci := 8) (v := .int 0) (C := RX8) (T := TX8) (N := 14) hx hb ht inX8 hown hK hP 1 rfl rfl 12 (by decide) (ht _ kw_104) (fun _ h9 => h9) hfth_12 dX10_official_25 ?_
      refine lv_bipush (v := 8) hx hb dX10_official_28 (by decide) ?_
      refine lv_icmp_lt (tgt := 36) hx hb dX10_official_30 (by decide) (fun c3 => ?_) (fun c3 => ?_)
      rotate_left
      · exact absurd (by decide) c3
      refine lv_aload_n hx hb dX10_official_36 rfl (lv_at hl 0 rfl) ?_
      refine va_get (D := (dC, dI)) (ci := 10) (v := .ref th) (C := RX10) (T := TX10) (N := 7) hx hb ht inX10 hown hK hP 0 rfl rfl 1 (by decide) (ht _ kw_406) (fun _ h9 => h9) hfx_1 dX10_official_37 ?_
      refine va_get (D := (dC, dI)) (ci := 8) (v := .int 0) (C := RX8) (T := TX8) (N := 14) hx hb ht inX8 hown hK hP 1 rfl rfl 12 (by decide) (ht _ kw_104) (fun _ h9 => h9) hfth_12 dX10_official_40 ?_
      refine lv_istore_n (lv' := [(3, .int 0), (0, .ref x0), (1, .int na), (2, .int nb)]) hx hb dX10_official_43 rfl hl (by decide) rfl (fun ls hl => ?_)
      refine lv_aload_n hx hb dX10_official_44 rfl (lv_at hl 1 rfl) ?_
      refine va_get (D := (dC, dI)) (ci := 10) (v := .ref th) (C := RX10) (T := TX10) (N := 7) hx hb ht inX10 hown hK hP 0 rfl rfl 1 (by decide) (ht _ kw_406) (fun _ h9 => h9) hfx_1 dX10_official_45 ?_
      refine va_get (D := (dC, dI)) (ci := 8) (v := .ref ao) (C := RX8) (T := TX8) (N := 14) hx hb ht inX8 hown hK hP 1 rfl rfl 10 (by decide) (ht _ kw_99) (fun _ h9 => h9) hfth_10 dX10_official_48 ?_
      refine lv_iload_n hx hb dX10_official_51 rfl (lv_at hl 0 rfl) ?_
      refine lv_iload_n hx hb dX10_official_52 rfl (lv_at hl 2 rfl) ?_
      refine va_iast hx hb hK hP hD hS 2 0 rfl rfl (by unfold vp_in; decide) dX10_official_53 (fun H locs hP hD hS => ?_)
      generalize upd gao (0 : Int32).toNatClampNeg na = g4 at hP hD
      have hP : va_P (dC, dI) vwCl [(x0, .inr (10, fx)), (th, .inr (8, fth)), (ao, .inl (kao, 8, .inl g4)), (ap, .inl (kap, 8, .inl gap))] H := hP
      have hD : va_D A [(x0, .inr (10, fx)), (th, .inr (8, fth)), (ao, .inl (kao, 8, .inl g4)), (ap, .inl (kap, 8, .inl gap))] := hD
      refine lv_aload_n hx hb dX10_official_54 rfl (lv_at hl 1 rfl) ?_
      refine va_get (D := (dC, dI)) (ci := 10) (v := .ref th) (C := RX10) (T := TX10) (N := 7) hx hb ht inX10 hown hK hP 0 rfl rfl 1 (by decide) (ht _ kw_406) (fun _ h9 => h9) hfx_1 dX10_official_55 ?_
      refine va_get (D := (dC, dI)) (ci := 8) (v := .ref ap) (C := RX8) (T := TX8) (N := 14) hx hb ht inX8 hown hK hP 1 rfl rfl 11 (by decide) (ht _ kw_102) (fun _ h9 => h9) hfth_11 dX10_official_58 ?_
      refine lv_iload_n hx hb dX10_official_61 rfl (lv_at hl 0 rfl) ?_
      refine lv_iload_n hx hb dX10_official_62 rfl (lv_at hl 3 rfl) ?_
      refine va_iast hx hb hK hP hD hS 3 1 rfl rfl (by unfold vp_in; decide) dX10_official_63 (fun H locs hP hD hS => ?_)
      generalize upd gap (0 : Int32).toNatClampNeg nb = g5 at hP hD
      have hP : va_P (dC, dI) vwCl [(x0, .inr (10, fx)), (th, .inr (8, fth)), (ao, .inl (kao, 8, .inl g4)), (ap, .inl (kap, 8, .inl g5))] H := hP
      have hD : va_D A [(x0, .inr (10, fx)), (th, .inr (8, fth)), (ao, .inl (kao, 8, .inl g4)), (ap, .inl (kap, 8, .inl g5))] := hD
      refine lv_aload_n hx hb dX10_official_64 rfl (lv_at hl 1 rfl) ?_
      refine va_get (D := (dC, dI)) (ci := 10) (v := .ref th) (C := RX10) (T := TX10) (N := 7) hx hb ht inX10 hown hK hP 0 rfl rfl 1 (by decide) (ht _ kw_406) (fun _ h9 => h9) hfx_1 dX10_official_65 ?_
      refine lv_dup hx hb dX10_official_68 rfl ?_
      refine va_get (D := (dC, dI)) (ci := 8) (v := .int 0) (C := RX8) (T := TX8) (N := 14) hx hb ht inX8 hown hK hP 1 rfl rfl 12 (by decide) (ht _ kw_104) (fun _ h9 => h9) hfth_12 dX10_official_69 ?_
      refine lv_iconst (v := 1) hx hb dX10_official_72 (by decide) ?_
      refine lv_iadd hx hb dX10_official_73 ?_
      refine lv_topi (fun r6 er6 => ?_)
      have er6 : r6 = 1 := er6.trans (by decide)
      subst er6
      refine va_put (D := (dC, dI)) (ci := 8) (v := .int 1) (ty := .int) (C := RX8) (T := TX8) (N := 14) hx hb ht inX8 tyX8 tyX8_ok nmX8 hown hK hP hD hS 1 rfl rfl 12 (by decide) (ht _ kw_104) (fun _ h9 => h9) rfl (by decide +kernel) rfl rfl (gs_lt hn_fth (by decide)) dX10_official_74 (fun H locs hP hD hS => ?_)
      have hP : va_P (dC, dI) vwCl [(x0, .inr (10, fx)), (th, .inr (8, (fth.set 12 (.int 1)))), (ao, .inl (kao, 8, .inl g4)), (ap, .inl (kap, 8, .inl g5))] H := hP
      have hD : va_D A [(x0, .inr (10, fx)), (th, .inr (8, (fth.set 12 (.int 1)))), (ao, .inl (kao, 8, .inl g4)), (ap, .inl (kap, 8, .inl g5))] := hD
      refine lv_iload_n hx hb dX10_official_77 rfl (lv_at hl 0 rfl) ?_
      exact W.iret hx hb hr (fun t ht9 hW => ⟨⟨_, (), rfl, (by unfold sp_X10_official; rw [if_neg c1, if_neg c2]), trivial⟩, hS.F ht9⟩) hS.2.2 dX10_official_78
    · refine lv_bipush (v := (-3)) hx hb dX10_official_18 (by decide) ?_
      exact W.iret hx hb hr (fun t ht9 hW => ⟨⟨_, (), rfl, (by unfold sp_X10_official; rw [if_neg c1, if_pos c2]), trivial⟩, hS.F ht9⟩) hS.2.2 dX10_official_20
abbrev cX10_day : ByteArray := prog_1_method_11_code
def yX10_day : MethodName := ⟨RX10, "day", "(I)I"⟩
theorem dX10_day_0 : decode cX10_day 0 = .ok (.iload_n 1, 1) := by decide +kernel
theorem dX10_day_1 : decode cX10_day 1 = .ok (.invokestatic 140, 3) := by decide +kernel
theorem kw_649 : Cond.methodLink RX10 140 yX10_isDay ∈ lw_g := lw_at 649 (by decide +kernel) rfl
theorem kw_650 : Cond.static yX10_isDay ∈ lw_g := lw_at 650 (by decide +kernel) rfl
theorem kw_651 : Cond.code yX10_isDay cX10_isDay 1 (some .boolean) ∈ lw_g := lw_at 651 (by decide +kernel) rfl
theorem gv_X10_140 : GoodIn lw_g (va_wsS RX10 140 yX10_isDay (.code yX10_isDay cX10_isDay 1 (some .boolean) :: lw_g)) := gi_S kw_649 kw_650 kw_1 kw_651
theorem dX10_day_4 : decode cX10_day 4 = .ok (.ifCond .eq 14, 3) := by decide +kernel
theorem dX10_day_18 : decode cX10_day 18 = .ok (.bipush (-3), 2) := by decide +kernel
theorem dX10_day_20 : decode cX10_day 20 = .ok (.ireturn, 1) := by decide +kernel
theorem dX10_day_7 : decode cX10_day 7 = .ok (.iload_n 1, 1) := by decide +kernel
theorem dX10_day_8 : decode cX10_day 8 = .ok (.aload_n 0, 1) := by decide +kernel
theorem dX10_day_9 : decode cX10_day 9 = .ok (.getfield 19, 3) := by decide +kernel
theorem dX10_day_12 : decode cX10_day 12 = .ok (.getfield 163, 3) := by decide +kernel
theorem dX10_day_15 : decode cX10_day 15 = .ok (.if_icmp .gt 6, 3) := by decide +kernel
theorem dX10_day_21 : decode cX10_day 21 = .ok (.aload_n 0, 1) := by decide +kernel
theorem dX10_day_22 : decode cX10_day 22 = .ok (.getfield 19, 3) := by decide +kernel
theorem dX10_day_25 : decode cX10_day 25 = .ok (.getfield 163, 3) := by decide +kernel
theorem dX10_day_28 : decode cX10_day 28 = .ok (.istore_n 2, 1) := by decide +kernel
theorem dX10_day_29 : decode cX10_day 29 = .ok (.aload_n 0, 1) := by decide +kernel
theorem dX10_day_30 : decode cX10_day 30 = .ok (.getfield 19, 3) := by decide +kernel
theorem dX10_day_33 : decode cX10_day 33 = .ok (.iload_n 1, 1) := by decide +kernel
theorem dX10_day_34 : decode cX10_day 34 = .ok (.putfield 163, 3) := by decide +kernel
theorem dX10_day_37 : decode cX10_day 37 = .ok (.iload_n 2, 1) := by decide +kernel
theorem dX10_day_38 : decode cX10_day 38 = .ok (.ireturn, 1) := by decide +kernel
def sp_X10_day (na : Int32) : Int32 := if (sp_X10_isDay na) = 0 then (-3) else if 0 < na then 0 else (-3)
set_option maxHeartbeats 4000000 in
set_option maxRecDepth 100000 in
theorem ct_X10_day (l : Launch) (dC : Nat → ClassId) (dI : Nat → Nat → Nat) (x0 : Nat) (th : Nat) (fx : List Value) (fth : List Value) (hfx_1 : fx[1]? = some (.ref th)) (hn_fth : fth.length = 14) (hfth_13 : fth[13]? = some (.int 0)) (sz : Nat) (na : Int32) : Met l yX10_day (.code yX10_day cX10_day 3 (some .int) :: lw_g) ({ frames := 2, cells := 0, slots := 0, locals := 120 }) (ro_P dC dI [(x0, .inr (10, fx)), (th, .inr (8, fth))] [] sz [.ref x0, .int na]) (ri_Q (sp_X10_day na) (va_A [(x0, .inr (10, fx)), (th, .inr (8, fth))] sz)) 0 0 (va_A [(x0, .inr (10, fx)), (th, .inr (8, fth))] sz) := by
  refine ro_entry (by decide) (Nat.le_of_ble_eq_true rfl) ?_
  intro p e s m below meth c ls hx hb hr hlocks ht hown hin hml hsz hP hK hD hE hl
  subst hsz
  have hD := hD.self (sz := s.heap.size)
  generalize hAe : va_A [(x0, .inr (10, fx)), (th, .inr (8, fth))] s.heap.size = A at hD ⊢
  have hA : ∀ q, s.heap.size ≤ q → A q := fun q h => by rw [← hAe]; exact Or.inr h
  have hS : va_S A s.heap s.heap [] := va_S.rf
  have hl : lv_has ls 3 [(0, .ref x0), (1, .int na)] := hl
  have hown : s.vm.findClass RX10 = some m.cls := hown
  refine lv_iload_n hx hb dX10_day_0 rfl (lv_at hl 1 rfl) ?_
  refine ro_callS (n := 1) (As := [.int na]) (rest := []) hx hb hml hown ht hK hP hS hA hE (ct_X10_isDay l dC dI  _ na) gv_X10_140 rfl rfl (by decide +kernel) ⟨Nat.le_of_ble_eq_true rfl, Nat.le_of_ble_eq_true rfl⟩ rfl hl.1 (Nat.le_of_ble_eq_true rfl) ⟨Nat.le_of_ble_eq_true rfl, Nat.le_of_ble_eq_true rfl⟩ rfl dX10_day_1 (fun H locs hP hS => ?_)
  refine lv_if_eq (tgt := 18) hx hb dX10_day_4 (by decide) (fun c1 => ?_) (fun c1 => ?_)
  · refine lv_bipush (v := (-3)) hx hb dX10_day_18 (by decide) ?_
    exact W.iret hx hb hr (fun t ht9 hW => ⟨⟨_, (), rfl, (by unfold sp_X10_day; rw [if_pos c1]), trivial⟩, hS.F ht9⟩) hS.2.2 dX10_day_20
  · refine lv_iload_n hx hb dX10_day_7 rfl (lv_at hl 1 rfl) ?_
    refine lv_aload_n hx hb dX10_day_8 rfl (lv_at hl 0 rfl) ?_
    refine va_get (D := (dC, dI)) (ci := 10) (v := .ref th) (C := RX10) (T := TX10) (N := 7) hx hb ht inX10 hown hK hP 0 rfl rfl 1 (by decide) (ht _ kw_406) (fun _ h9 => h9) hfx_1 dX10_day_9 ?_
    refine va_get (D := (dC, dI)) (ci := 8) (v := .int 0) (C := RX8) (T := TX8) (N := 14) hx hb ht inX8 hown hK hP 1 rfl rfl 13 (by decide) (ht _ kw_105) (fun _ h9 => h9) hfth_13 dX10_day_12 ?_
    refine lv_icmp_gt (tgt := 21) hx hb dX10_day_15 (by decide) (fun c2 => ?_) (fun c2 => ?_)
    · refine lv_aload_n hx hb dX10_day_21 rfl (lv_at hl 0 rfl) ?_
      refine va_get (D := (dC, dI)) (ci := 10) (v := .ref th) (C := RX10) (T := TX10) (N := 7) hx hb ht inX10 hown hK hP 0 rfl rfl 1 (by decide) (ht _ kw_406) (fun _ h9 => h9) hfx_1 dX10_day_22 ?_
      refine va_get (D := (dC, dI)) (ci := 8) (v := .int 0) (C := RX8) (T := TX8) (N := 14) hx hb ht inX8 hown hK hP 1 rfl rfl 13 (by decide) (ht _ kw_105) (fun _ h9 => h9) hfth_13 dX10_day_25 ?_
      refine lv_istore_n (lv' := [(2, .int 0), (0, .ref x0), (1, .int na)]) hx hb dX10_day_28 rfl hl (by decide) rfl (fun ls hl => ?_)
      refine lv_aload_n hx hb dX10_day_29 rfl (lv_at hl 1 rfl) ?_
      refine va_get (D := (dC, dI)) (ci := 10) (v := .ref th) (C := RX10) (T := TX10) (N := 7) hx hb ht inX10 hown hK hP 0 rfl rfl 1 (by decide) (ht _ kw_406) (fun _ h9 => h9) hfx_1 dX10_day_30 ?_
      refine lv_iload_n hx hb dX10_day_33 rfl (lv_at hl 2 rfl) ?_
      refine va_put (D := (dC, dI)) (ci := 8) (v := .int na) (ty := .int) (C := RX8) (T := TX8) (N := 14) hx hb ht inX8 tyX8 tyX8_ok nmX8 hown hK hP hD hS 1 rfl rfl 13 (by decide) (ht _ kw_105) (fun _ h9 => h9) rfl (by decide +kernel) rfl rfl (gs_lt hn_fth (by decide)) dX10_day_34 (fun H locs hP hD hS => ?_)
      have hP : va_P (dC, dI) vwCl [(x0, .inr (10, fx)), (th, .inr (8, (fth.set 13 (.int na))))] H := hP
      have hD : va_D A [(x0, .inr (10, fx)), (th, .inr (8, (fth.set 13 (.int na))))] := hD
      refine lv_iload_n hx hb dX10_day_37 rfl (lv_at hl 0 rfl) ?_
      exact W.iret hx hb hr (fun t ht9 hW => ⟨⟨_, (), rfl, (by unfold sp_X10_day; rw [if_neg c1, if_pos c2]), trivial⟩, hS.F ht9⟩) hS.2.2 dX10_day_38
    · refine lv_bipush (v := (-3)) hx hb dX10_day_18 (by decide) ?_
      exact W.iret hx hb hr (fun t ht9 hW => ⟨⟨_, (), rfl, (by unfold sp_X10_day; rw [if_neg c1, if_neg c2]), trivial⟩, hS.F ht9⟩) hS.2.2 dX10_day_20
abbrev cX11_sign : ByteArray := prog_13_method_6_code
def yX11_sign : MethodName := ⟨RX11, "sign", "(I)I"⟩
theorem dX11_sign_0 : decode cX11_sign 0 = .ok (.iload_n 1, 1) := by decide +kernel
theorem dX11_sign_1 : decode cX11_sign 1 = .ok (.bipush 10, 2) := by decide +kernel
theorem dX11_sign_3 : decode cX11_sign 3 = .ok (.if_icmp .eq 17, 3) := by decide +kernel
theorem dX11_sign_20 : decode cX11_sign 20 = .ok (.aload_n 0, 1) := by decide +kernel
theorem dX11_sign_21 : decode cX11_sign 21 = .ok (.getfield 252, 3) := by decide +kernel
theorem kw_1428 : Cond.fieldLink RX11 252 "SportsHouseModel" "length" "I" ∈ lw_g := lw_at 1428 (by decide +kernel) rfl
theorem dX11_sign_24 : decode cX11_sign 24 = .ok (.sipush 400, 3) := by decide +kernel
theorem dX11_sign_27 : decode cX11_sign 27 = .ok (.if_icmp .ne 6, 3) := by decide +kernel
theorem dX11_sign_33 : decode cX11_sign 33 = .ok (.aload_n 0, 1) := by decide +kernel
theorem dX11_sign_34 : decode cX11_sign 34 = .ok (.getfield 7, 3) := by decide +kernel
theorem kw_1427 : Cond.fieldLink RX11 7 "SportsHouseModel" "text" "[I" ∈ lw_g := lw_at 1427 (by decide +kernel) rfl
theorem dX11_sign_37 : decode cX11_sign 37 = .ok (.aload_n 0, 1) := by decide +kernel
theorem dX11_sign_38 : decode cX11_sign 38 = .ok (.getfield 252, 3) := by decide +kernel
theorem dX11_sign_41 : decode cX11_sign 41 = .ok (.iload_n 1, 1) := by decide +kernel
theorem dX11_sign_42 : decode cX11_sign 42 = .ok (.iastore, 1) := by decide +kernel
theorem dX11_sign_43 : decode cX11_sign 43 = .ok (.aload_n 0, 1) := by decide +kernel
theorem dX11_sign_44 : decode cX11_sign 44 = .ok (.dup, 1) := by decide +kernel
theorem dX11_sign_45 : decode cX11_sign 45 = .ok (.getfield 252, 3) := by decide +kernel
theorem dX11_sign_48 : decode cX11_sign 48 = .ok (.iconst 1, 1) := by decide +kernel
theorem dX11_sign_49 : decode cX11_sign 49 = .ok (.iadd, 1) := by decide +kernel
theorem dX11_sign_50 : decode cX11_sign 50 = .ok (.putfield 252, 3) := by decide +kernel
theorem dX11_sign_53 : decode cX11_sign 53 = .ok (.aload_n 0, 1) := by decide +kernel
theorem dX11_sign_54 : decode cX11_sign 54 = .ok (.getfield 252, 3) := by decide +kernel
theorem dX11_sign_57 : decode cX11_sign 57 = .ok (.ireturn, 1) := by decide +kernel
theorem dX11_sign_6 : decode cX11_sign 6 = .ok (.iload_n 1, 1) := by decide +kernel
theorem dX11_sign_7 : decode cX11_sign 7 = .ok (.bipush 32, 2) := by decide +kernel
theorem dX11_sign_9 : decode cX11_sign 9 = .ok (.bipush 126, 2) := by decide +kernel
theorem dX11_sign_11 : decode cX11_sign 11 = .ok (.invokestatic 255, 3) := by decide +kernel
theorem dX11_sign_14 : decode cX11_sign 14 = .ok (.ifCond .ne 6, 3) := by decide +kernel
theorem dX11_sign_17 : decode cX11_sign 17 = .ok (.bipush (-3), 2) := by decide +kernel
theorem dX11_sign_19 : decode cX11_sign 19 = .ok (.ireturn, 1) := by decide +kernel
def sp_X11_sign (na : Int32) : Int32 := if na = 10 then 1 else if (sp_X11_in na 32 126) = 0 then (-3) else 1
set_option maxHeartbeats 4000000 in
set_option maxRecDepth 100000 in
theorem ct_X11_sign (l : Launch) (dC : Nat → ClassId) (dI : Nat → Nat → Nat) (m0 : Nat) (ma : Nat) (fm : List Value) (kma : ClassId) (gma : Nat → Int32) (hn_fm : fm.length = 114) (hfm_0 : fm[0]? = some (.ref ma)) (hfm_1 : fm[1]? = some (.int 0)) (sz : Nat) (na : Int32) : Met l yX11_sign (.code yX11_sign cX11_sign 2 (some .int) :: lw_g) ({ frames := 2, cells := 0, slots := 0, locals := 120 }) (ro_P dC dI [(m0, .inr (11, fm)), (ma, .inl (kma, 400, .inl gma))] [(kma, .int)] sz [.ref m0, .int na]) (ri_Q (sp_X11_sign na) (va_A [(m0, .inr (11, fm)), (ma, .inl (kma, 400, .inl gma))] sz)) 0 0 (va_A [(m0, .inr (11, fm)), (ma, .inl (kma, 400, .inl gma))] sz) := by
  refine ro_entry (by decide) (Nat.le_of_ble_eq_true rfl) ?_
  intro p e s m below meth c ls hx hb hr hlocks ht hown hin hml hsz hP hK hD hE hl
  subst hsz
  have hD := hD.self (sz := s.heap.size)
  generalize hAe : va_A [(m0, .inr (11, fm)), (ma, .inl (kma, 400, .inl gma))] s.heap.size = A at hD ⊢
  have hA : ∀ q, s.heap.size ≤ q → A q := fun q h => by rw [← hAe]; exact Or.inr h
  have hS : va_S A s.heap s.heap [] := va_S.rf
  have hl : lv_has ls 2 [(0, .ref m0), (1, .int na)] := hl
  have hown : s.vm.findClass RX11 = some m.cls := hown
  refine lv_iload_n hx hb dX11_sign_0 rfl (lv_at hl 1 rfl) ?_
  refine lv_bipush (v := 10) hx hb dX11_sign_1 (by decide) ?_
  refine lv_icmp_eq (tgt := 20) hx hb dX11_sign_3 (by decide) (fun c1 => ?_) (fun c1 => ?_)
  · refine lv_aload_n hx hb dX11_sign_20 rfl (lv_at hl 0 rfl) ?_
    refine va_get (D := (dC, dI)) (ci := 11) (v := .int 0) (C := RX11) (T := TX11) (N := 114) hx hb ht inX11 hown hK hP 0 rfl rfl 1 (by decide) (ht _ kw_1428) (fun _ h9 => h9) hfm_1 dX11_sign_21 ?_
    refine lv_sipush (v := 400) hx hb dX11_sign_24 (by decide) ?_
    refine lv_icmp_ne (tgt := 33) hx hb dX11_sign_27 (by decide) (fun c2 => ?_) (fun c2 => ?_)
    rotate_left
    · exact absurd c2 (by decide)
    refine lv_aload_n hx hb dX11_sign_33 rfl (lv_at hl 0 rfl) ?_
    refine va_get (D := (dC, dI)) (ci := 11) (v := .ref ma) (C := RX11) (T := TX11) (N := 114) hx hb ht inX11 hown hK hP 0 rfl rfl 0 (by decide) (ht _ kw_1427) (fun _ h9 => h9) hfm_0 dX11_sign_34 ?_
    refine lv_aload_n hx hb dX11_sign_37 rfl (lv_at hl 0 rfl) ?_
    refine va_get (D := (dC, dI)) (ci := 11) (v := .int 0) (C := RX11) (T := TX11) (N := 114) hx hb ht inX11 hown hK hP 0 rfl rfl 1 (by decide) (ht _ kw_1428) (fun _ h9 => h9) hfm_1 dX11_sign_38 ?_
    refine lv_iload_n hx hb dX11_sign_41 rfl (lv_at hl 1 rfl) ?_
    refine va_iast hx hb hK hP hD hS 1 0 rfl rfl (by unfold vp_in; decide) dX11_sign_42 (fun H locs hP hD hS => ?_)
    generalize upd gma (0 : Int32).toNatClampNeg na = g3 at hP hD
    have hP : va_P (dC, dI) vwCl [(m0, .inr (11, fm)), (ma, .inl (kma, 400, .inl g3))] H := hP
    have hD : va_D A [(m0, .inr (11, fm)), (ma, .inl (kma, 400, .inl g3))] := hD
    refine lv_aload_n hx hb dX11_sign_43 rfl (lv_at hl 0 rfl) ?_
    refine lv_dup hx hb dX11_sign_44 rfl ?_
    refine va_get (D := (dC, dI)) (ci := 11) (v := .int 0) (C := RX11) (T := TX11) (N := 114) hx hb ht inX11 hown hK hP 0 rfl rfl 1 (by decide) (ht _ kw_1428) (fun _ h9 => h9) hfm_1 dX11_sign_45 ?_
    refine lv_iconst (v := 1) hx hb dX11_sign_48 (by decide) ?_
    refine lv_iadd hx hb dX11_sign_49 ?_
    refine lv_topi (fun r4 er4 => ?_)
    have er4 : r4 = 1 := er4.trans (by decide)
    subst er4
    refine va_put (D := (dC, dI)) (ci := 11) (v := .int 1) (ty := .int) (C := RX11) (T := TX11) (N := 114) hx hb ht inX11 tyX11 tyX11_ok nmX11 hown hK hP hD hS 0 rfl rfl 1 (by decide) (ht _ kw_1428) (fun _ h9 => h9) rfl (by decide +kernel) rfl rfl (gs_lt hn_fm (by decide)) dX11_sign_50 (fun H locs hP hD hS => ?_)
    have hP : va_P (dC, dI) vwCl [(m0, .inr (11, (fm.set 1 (.int 1)))), (ma, .inl (kma, 400, .inl g3))] H := hP
    have hD : va_D A [(m0, .inr (11, (fm.set 1 (.int 1)))), (ma, .inl (kma, 400, .inl g3))] := hD
    refine lv_aload_n hx hb dX11_sign_53 rfl (lv_at hl 0 rfl) ?_
    refine va_get (D := (dC, dI)) (ci := 11) (v := .int 1) (C := RX11) (T := TX11) (N := 114) hx hb ht inX11 hown hK hP 0 rfl rfl 1 (by decide) (ht _ kw_1428) (fun _ h9 => h9) (gs_eq (gs_lt hn_fm (by decide))) dX11_sign_54 ?_
    exact W.iret hx hb hr (fun t ht9 hW => ⟨⟨_, (), rfl, (by unfold sp_X11_sign; rw [if_pos c1]), trivial⟩, hS.F ht9⟩) hS.2.2 dX11_sign_57
  · refine lv_iload_n hx hb dX11_sign_6 rfl (lv_at hl 1 rfl) ?_
    refine lv_bipush (v := 32) hx hb dX11_sign_7 (by decide) ?_
    refine lv_bipush (v := 126) hx hb dX11_sign_9 (by decide) ?_
    refine ro_callS (n := 3) (As := [.int na, .int 32, .int 126]) (rest := []) hx hb hml hown ht hK hP hS hA hE (ct_X11_in l dC dI  _ na 32 126) gv_X11_255 rfl rfl (by decide +kernel) ⟨Nat.le_of_ble_eq_true rfl, Nat.le_of_ble_eq_true rfl⟩ rfl hl.1 (Nat.le_of_ble_eq_true rfl) ⟨Nat.le_of_ble_eq_true rfl, Nat.le_of_ble_eq_true rfl⟩ rfl dX11_sign_11 (fun H locs hP hS => ?_)
    refine lv_if_ne (tgt := 20) hx hb dX11_sign_14 (by decide) (fun c5 => ?_) (fun c5 => ?_)
    · refine lv_aload_n hx hb dX11_sign_20 rfl (lv_at hl 0 rfl) ?_
      refine va_get (D := (dC, dI)) (ci := 11) (v := .int 0) (C := RX11) (T := TX11) (N := 114) hx hb ht inX11 hown hK hP 0 rfl rfl 1 (by decide) (ht _ kw_1428) (fun _ h9 => h9) hfm_1 dX11_sign_21 ?_
      refine lv_sipush (v := 400) hx hb dX11_sign_24 (by decide) ?_
      refine lv_icmp_ne (tgt := 33) hx hb dX11_sign_27 (by decide) (fun c6 => ?_) (fun c6 => ?_)
      rotate_left
      · exact absurd c6 (by decide)
      refine lv_aload_n hx hb dX11_sign_33 rfl (lv_at hl 0 rfl) ?_
      refine va_get (D := (dC, dI)) (ci := 11) (v := .ref ma) (C := RX11) (T := TX11) (N := 114) hx hb ht inX11 hown hK hP 0 rfl rfl 0 (by decide) (ht _ kw_1427) (fun _ h9 => h9) hfm_0 dX11_sign_34 ?_
      refine lv_aload_n hx hb dX11_sign_37 rfl (lv_at hl 0 rfl) ?_
      refine va_get (D := (dC, dI)) (ci := 11) (v := .int 0) (C := RX11) (T := TX11) (N := 114) hx hb ht inX11 hown hK hP 0 rfl rfl 1 (by decide) (ht _ kw_1428) (fun _ h9 => h9) hfm_1 dX11_sign_38 ?_
      refine lv_iload_n hx hb dX11_sign_41 rfl (lv_at hl 1 rfl) ?_
      refine va_iast hx hb hK hP hD hS 1 0 rfl rfl (by unfold vp_in; decide) dX11_sign_42 (fun H locs hP hD hS => ?_)
      generalize upd gma (0 : Int32).toNatClampNeg na = g7 at hP hD
      have hP : va_P (dC, dI) vwCl [(m0, .inr (11, fm)), (ma, .inl (kma, 400, .inl g7))] H := hP
      have hD : va_D A [(m0, .inr (11, fm)), (ma, .inl (kma, 400, .inl g7))] := hD
      refine lv_aload_n hx hb dX11_sign_43 rfl (lv_at hl 0 rfl) ?_
      refine lv_dup hx hb dX11_sign_44 rfl ?_
      refine va_get (D := (dC, dI)) (ci := 11) (v := .int 0) (C := RX11) (T := TX11) (N := 114) hx hb ht inX11 hown hK hP 0 rfl rfl 1 (by decide) (ht _ kw_1428) (fun _ h9 => h9) hfm_1 dX11_sign_45 ?_
      refine lv_iconst (v := 1) hx hb dX11_sign_48 (by decide) ?_
      refine lv_iadd hx hb dX11_sign_49 ?_
      refine lv_topi (fun r8 er8 => ?_)
      have er8 : r8 = 1 := er8.trans (by decide)
      subst er8
      refine va_put (D := (dC, dI)) (ci := 11) (v := .int 1) (ty := .int) (C := RX11) (T := TX11) (N := 114) hx hb ht inX11 tyX11 tyX11_ok nmX11 hown hK hP hD hS 0 rfl rfl 1 (by decide) (ht _ kw_1428) (fun _ h9 => h9) rfl (by decide +kernel) rfl rfl (gs_lt hn_fm (by decide)) dX11_sign_50 (fun H locs hP hD hS => ?_)
      have hP : va_P (dC, dI) vwCl [(m0, .inr (11, (fm.set 1 (.int 1)))), (ma, .inl (kma, 400, .inl g7))] H := hP
      have hD : va_D A [(m0, .inr (11, (fm.set 1 (.int 1)))), (ma, .inl (kma, 400, .inl g7))] := hD
      refine lv_aload_n hx hb dX11_sign_53 rfl (lv_at hl 0 rfl) ?_
      refine va_get (D := (dC, dI)) (ci := 11) (v := .int 1) (C := RX11) (T := TX11) (N := 114) hx hb ht inX11 hown hK hP 0 rfl rfl 1 (by decide) (ht _ kw_1428) (fun _ h9 => h9) (gs_eq (gs_lt hn_fm (by decide))) dX11_sign_54 ?_
      exact W.iret hx hb hr (fun t ht9 hW => ⟨⟨_, (), rfl, (by unfold sp_X11_sign; rw [if_neg c1, if_neg c5]), trivial⟩, hS.F ht9⟩) hS.2.2 dX11_sign_57
    · refine lv_bipush (v := (-3)) hx hb dX11_sign_17 (by decide) ?_
      exact W.iret hx hb hr (fun t ht9 hW => ⟨⟨_, (), rfl, (by unfold sp_X11_sign; rw [if_neg c1, if_pos c5]), trivial⟩, hS.F ht9⟩) hS.2.2 dX11_sign_19
abbrev cX11_wipe : ByteArray := prog_13_method_7_code
def yX11_wipe : MethodName := ⟨RX11, "wipe", "()I"⟩
theorem dX11_wipe_0 : decode cX11_wipe 0 = .ok (.aload_n 0, 1) := by decide +kernel
theorem dX11_wipe_1 : decode cX11_wipe 1 = .ok (.getfield 252, 3) := by decide +kernel
theorem dX11_wipe_4 : decode cX11_wipe 4 = .ok (.istore_n 1, 1) := by decide +kernel
theorem dX11_wipe_5 : decode cX11_wipe 5 = .ok (.aload_n 0, 1) := by decide +kernel
theorem dX11_wipe_6 : decode cX11_wipe 6 = .ok (.iconst 0, 1) := by decide +kernel
theorem dX11_wipe_7 : decode cX11_wipe 7 = .ok (.putfield 252, 3) := by decide +kernel
theorem dX11_wipe_10 : decode cX11_wipe 10 = .ok (.iload_n 1, 1) := by decide +kernel
theorem dX11_wipe_11 : decode cX11_wipe 11 = .ok (.ireturn, 1) := by decide +kernel
set_option maxHeartbeats 4000000 in
set_option maxRecDepth 100000 in
theorem ct_X11_wipe (l : Launch) (dC : Nat → ClassId) (dI : Nat → Nat → Nat) (m0 : Nat) (fm : List Value) (hn_fm : fm.length = 114) (hfm_1 : fm[1]? = some (.int 0)) (sz : Nat)  : Met l yX11_wipe (.code yX11_wipe cX11_wipe 2 (some .int) :: lw_g) ({ frames := 2, cells := 0, slots := 0, locals := 120 }) (ro_P dC dI [(m0, .inr (11, fm))] [] sz [.ref m0]) (ri_Q 0 (va_A [(m0, .inr (11, fm))] sz)) 0 0 (va_A [(m0, .inr (11, fm))] sz) := by
  refine ro_entry (by decide) (Nat.le_of_ble_eq_true rfl) ?_
  intro p e s m below meth c ls hx hb hr hlocks ht hown hin hml hsz hP hK hD hE hl
  subst hsz
  have hD := hD.self (sz := s.heap.size)
  generalize hAe : va_A [(m0, .inr (11, fm))] s.heap.size = A at hD ⊢
  have hA : ∀ q, s.heap.size ≤ q → A q := fun q h => by rw [← hAe]; exact Or.inr h
  have hS : va_S A s.heap s.heap [] := va_S.rf
  have hl : lv_has ls 2 [(0, .ref m0)] := hl
  have hown : s.vm.findClass RX11 = some m.cls := hown
  refine lv_aload_n hx hb dX11_wipe_0 rfl (lv_at hl 0 rfl) ?_
  refine va_get (D := (dC, dI)) (ci := 11) (v := .int 0) (C := RX11) (T := TX11) (N := 114) hx hb ht inX11 hown hK hP 0 rfl rfl 1 (by decide) (ht _ kw_1428) (fun _ h9 => h9) hfm_1 dX11_wipe_1 ?_
  refine lv_istore_n (lv' := [(1, .int 0), (0, .ref m0)]) hx hb dX11_wipe_4 rfl hl (by decide) rfl (fun ls hl => ?_)
  refine lv_aload_n hx hb dX11_wipe_5 rfl (lv_at hl 1 rfl) ?_
  refine lv_iconst (v := 0) hx hb dX11_wipe_6 (by decide) ?_
  refine va_put (D := (dC, dI)) (ci := 11) (v := .int 0) (ty := .int) (C := RX11) (T := TX11) (N := 114) hx hb ht inX11 tyX11 tyX11_ok nmX11 hown hK hP hD hS 0 rfl rfl 1 (by decide) (ht _ kw_1428) (fun _ h9 => h9) rfl (by decide +kernel) rfl rfl (gs_lt hn_fm (by decide)) dX11_wipe_7 (fun H locs hP hD hS => ?_)
  have hP : va_P (dC, dI) vwCl [(m0, .inr (11, (fm.set 1 (.int 0))))] H := hP
  have hD : va_D A [(m0, .inr (11, (fm.set 1 (.int 0))))] := hD
  refine lv_iload_n hx hb dX11_wipe_10 rfl (lv_at hl 0 rfl) ?_
  exact W.iret hx hb hr (fun t ht9 hW => ⟨⟨_, (), rfl, rfl, trivial⟩, hS.F ht9⟩) hS.2.2 dX11_wipe_11
abbrev cX11_club : ByteArray := prog_13_method_21_code
def yX11_club : MethodName := ⟨RX11, "club", "(II)I"⟩
theorem dX11_club_0 : decode cX11_club 0 = .ok (.iload_n 1, 1) := by decide +kernel
theorem dX11_club_1 : decode cX11_club 1 = .ok (.iconst 0, 1) := by decide +kernel
theorem dX11_club_2 : decode cX11_club 2 = .ok (.bipush 11, 2) := by decide +kernel
theorem dX11_club_4 : decode cX11_club 4 = .ok (.invokestatic 255, 3) := by decide +kernel
theorem dX11_club_7 : decode cX11_club 7 = .ok (.ifCond .eq 13, 3) := by decide +kernel
theorem dX11_club_20 : decode cX11_club 20 = .ok (.bipush (-3), 2) := by decide +kernel
theorem dX11_club_22 : decode cX11_club 22 = .ok (.ireturn, 1) := by decide +kernel
theorem dX11_club_10 : decode cX11_club 10 = .ok (.iload_n 2, 1) := by decide +kernel
theorem dX11_club_11 : decode cX11_club 11 = .ok (.iconst 0, 1) := by decide +kernel
theorem dX11_club_12 : decode cX11_club 12 = .ok (.bipush 7, 2) := by decide +kernel
theorem dX11_club_14 : decode cX11_club 14 = .ok (.invokestatic 255, 3) := by decide +kernel
theorem dX11_club_17 : decode cX11_club 17 = .ok (.ifCond .ne 6, 3) := by decide +kernel
theorem dX11_club_23 : decode cX11_club 23 = .ok (.aload_n 0, 1) := by decide +kernel
theorem dX11_club_24 : decode cX11_club 24 = .ok (.getfield 325, 3) := by decide +kernel
theorem dX11_club_27 : decode cX11_club 27 = .ok (.bipush 12, 2) := by decide +kernel
theorem dX11_club_29 : decode cX11_club 29 = .ok (.if_icmp .ne 6, 3) := by decide +kernel
theorem dX11_club_35 : decode cX11_club 35 = .ok (.aload_n 0, 1) := by decide +kernel
theorem dX11_club_36 : decode cX11_club 36 = .ok (.getfield 39, 3) := by decide +kernel
theorem kw_1440 : Cond.fieldLink RX11 39 "SportsHouseModel" "stadiums" "[I" ∈ lw_g := lw_at 1440 (by decide +kernel) rfl
theorem dX11_club_39 : decode cX11_club 39 = .ok (.aload_n 0, 1) := by decide +kernel
theorem dX11_club_40 : decode cX11_club 40 = .ok (.getfield 325, 3) := by decide +kernel
theorem dX11_club_43 : decode cX11_club 43 = .ok (.iload_n 1, 1) := by decide +kernel
theorem dX11_club_44 : decode cX11_club 44 = .ok (.iastore, 1) := by decide +kernel
theorem dX11_club_45 : decode cX11_club 45 = .ok (.aload_n 0, 1) := by decide +kernel
theorem dX11_club_46 : decode cX11_club 46 = .ok (.getfield 42, 3) := by decide +kernel
theorem kw_1441 : Cond.fieldLink RX11 42 "SportsHouseModel" "countries" "[I" ∈ lw_g := lw_at 1441 (by decide +kernel) rfl
theorem dX11_club_49 : decode cX11_club 49 = .ok (.aload_n 0, 1) := by decide +kernel
theorem dX11_club_50 : decode cX11_club 50 = .ok (.getfield 325, 3) := by decide +kernel
theorem dX11_club_53 : decode cX11_club 53 = .ok (.iload_n 2, 1) := by decide +kernel
theorem dX11_club_54 : decode cX11_club 54 = .ok (.iastore, 1) := by decide +kernel
theorem dX11_club_55 : decode cX11_club 55 = .ok (.aload_n 0, 1) := by decide +kernel
theorem dX11_club_56 : decode cX11_club 56 = .ok (.dup, 1) := by decide +kernel
theorem dX11_club_57 : decode cX11_club 57 = .ok (.getfield 325, 3) := by decide +kernel
theorem dX11_club_60 : decode cX11_club 60 = .ok (.iconst 1, 1) := by decide +kernel
theorem dX11_club_61 : decode cX11_club 61 = .ok (.iadd, 1) := by decide +kernel
theorem dX11_club_62 : decode cX11_club 62 = .ok (.putfield 325, 3) := by decide +kernel
theorem dX11_club_65 : decode cX11_club 65 = .ok (.aload_n 0, 1) := by decide +kernel
theorem dX11_club_66 : decode cX11_club 66 = .ok (.getfield 325, 3) := by decide +kernel
theorem dX11_club_69 : decode cX11_club 69 = .ok (.iconst 1, 1) := by decide +kernel
theorem dX11_club_70 : decode cX11_club 70 = .ok (.isub, 1) := by decide +kernel
theorem dX11_club_71 : decode cX11_club 71 = .ok (.ireturn, 1) := by decide +kernel
def sp_X11_club (na : Int32) (nb : Int32) : Int32 := if (sp_X11_in na 0 11) = 0 then (-3) else if (sp_X11_in nb 0 7) = 0 then (-3) else 0
set_option maxHeartbeats 4000000 in
set_option maxRecDepth 100000 in
theorem ct_X11_club (l : Launch) (dC : Nat → ClassId) (dI : Nat → Nat → Nat) (m0 : Nat) (me : Nat) (mf : Nat) (fm : List Value) (kme : ClassId) (gme : Nat → Int32) (kmf : ClassId) (gmf : Nat → Int32) (hn_fm : fm.length = 114) (hfm_12 : fm[12]? = some (.int 0)) (hfm_13 : fm[13]? = some (.ref me)) (hfm_14 : fm[14]? = some (.ref mf)) (sz : Nat) (na : Int32) (nb : Int32) : Met l yX11_club (.code yX11_club cX11_club 3 (some .int) :: lw_g) ({ frames := 2, cells := 0, slots := 0, locals := 120 }) (ro_P dC dI [(m0, .inr (11, fm)), (me, .inl (kme, 12, .inl gme)), (mf, .inl (kmf, 12, .inl gmf))] [(kme, .int), (kmf, .int)] sz [.ref m0, .int na, .int nb]) (ri_Q (sp_X11_club na nb) (va_A [(m0, .inr (11, fm)), (me, .inl (kme, 12, .inl gme)), (mf, .inl (kmf, 12, .inl gmf))] sz)) 0 0 (va_A [(m0, .inr (11, fm)), (me, .inl (kme, 12, .inl gme)), (mf, .inl (kmf, 12, .inl gmf))] sz) := by
  refine ro_entry (by decide) (Nat.le_of_ble_eq_true rfl) ?_
  intro p e s m below meth c ls hx hb hr hlocks ht hown hin hml hsz hP hK hD hE hl
  subst hsz
  have hD := hD.self (sz := s.heap.size)
  generalize hAe : va_A [(m0, .inr (11, fm)), (me, .inl (kme, 12, .inl gme)), (mf, .inl (kmf, 12, .inl gmf))] s.heap.size = A at hD ⊢
  have hA : ∀ q, s.heap.size ≤ q → A q := fun q h => by rw [← hAe]; exact Or.inr h
  have hS : va_S A s.heap s.heap [] := va_S.rf
  have hl : lv_has ls 3 [(0, .ref m0), (1, .int na), (2, .int nb)] := hl
  have hown : s.vm.findClass RX11 = some m.cls := hown
  refine lv_iload_n hx hb dX11_club_0 rfl (lv_at hl 1 rfl) ?_
  refine lv_iconst (v := 0) hx hb dX11_club_1 (by decide) ?_
  refine lv_bipush (v := 11) hx hb dX11_club_2 (by decide) ?_
  refine ro_callS (n := 3) (As := [.int na, .int 0, .int 11]) (rest := []) hx hb hml hown ht hK hP hS hA hE (ct_X11_in l dC dI  _ na 0 11) gv_X11_255 rfl rfl (by decide +kernel) ⟨Nat.le_of_ble_eq_true rfl, Nat.le_of_ble_eq_true rfl⟩ rfl hl.1 (Nat.le_of_ble_eq_true rfl) ⟨Nat.le_of_ble_eq_true rfl, Nat.le_of_ble_eq_true rfl⟩ rfl dX11_club_4 (fun H locs hP hS => ?_)
  refine lv_if_eq (tgt := 20) hx hb dX11_club_7 (by decide) (fun c1 => ?_) (fun c1 => ?_)
  · refine lv_bipush (v := (-3)) hx hb dX11_club_20 (by decide) ?_
    exact W.iret hx hb hr (fun t ht9 hW => ⟨⟨_, (), rfl, (by unfold sp_X11_club; rw [if_pos c1]), trivial⟩, hS.F ht9⟩) hS.2.2 dX11_club_22
  · refine lv_iload_n hx hb dX11_club_10 rfl (lv_at hl 2 rfl) ?_
    refine lv_iconst (v := 0) hx hb dX11_club_11 (by decide) ?_
    refine lv_bipush (v := 7) hx hb dX11_club_12 (by decide) ?_
    refine ro_callS (n := 3) (As := [.int nb, .int 0, .int 7]) (rest := []) hx hb hml hown ht hK hP hS hA hE (ct_X11_in l dC dI  _ nb 0 7) gv_X11_255 rfl rfl (by decide +kernel) ⟨Nat.le_of_ble_eq_true rfl, Nat.le_of_ble_eq_true rfl⟩ rfl hl.1 (Nat.le_of_ble_eq_true rfl) ⟨Nat.le_of_ble_eq_true rfl, Nat.le_of_ble_eq_true rfl⟩ rfl dX11_club_14 (fun H locs hP hS => ?_)
    refine lv_if_ne (tgt := 23) hx hb dX11_club_17 (by decide) (fun c2 => ?_) (fun c2 => ?_)
    · refine lv_aload_n hx hb dX11_club_23 rfl (lv_at hl 0 rfl) ?_
      refine va_get (D := (dC, dI)) (ci := 11) (v := .int 0) (C := RX11) (T := TX11) (N := 114) hx hb ht inX11 hown hK hP 0 rfl rfl 12 (by decide) (ht _ kw_1439) (fun _ h9 => h9) hfm_12 dX11_club_24 ?_
      refine lv_bipush (v := 12) hx hb dX11_club_27 (by decide) ?_
      refine lv_icmp_ne (tgt := 35) hx hb dX11_club_29 (by decide) (fun c3 => ?_) (fun c3 => ?_)
      rotate_left
      · exact absurd c3 (by decide)
      refine lv_aload_n hx hb dX11_club_35 rfl (lv_at hl 0 rfl) ?_
      refine va_get (D := (dC, dI)) (ci := 11) (v := .ref me) (C := RX11) (T := TX11) (N := 114) hx hb ht inX11 hown hK hP 0 rfl rfl 13 (by decide) (ht _ kw_1440) (fun _ h9 => h9) hfm_13 dX11_club_36 ?_
      refine lv_aload_n hx hb dX11_club_39 rfl (lv_at hl 0 rfl) ?_
      refine va_get (D := (dC, dI)) (ci := 11) (v := .int 0) (C := RX11) (T := TX11) (N := 114) hx hb ht inX11 hown hK hP 0 rfl rfl 12 (by decide) (ht _ kw_1439) (fun _ h9 => h9) hfm_12 dX11_club_40 ?_
      refine lv_iload_n hx hb dX11_club_43 rfl (lv_at hl 1 rfl) ?_
      refine va_iast hx hb hK hP hD hS 1 0 rfl rfl (by unfold vp_in; decide) dX11_club_44 (fun H locs hP hD hS => ?_)
      generalize upd gme (0 : Int32).toNatClampNeg na = g4 at hP hD
      have hP : va_P (dC, dI) vwCl [(m0, .inr (11, fm)), (me, .inl (kme, 12, .inl g4)), (mf, .inl (kmf, 12, .inl gmf))] H := hP
      have hD : va_D A [(m0, .inr (11, fm)), (me, .inl (kme, 12, .inl g4)), (mf, .inl (kmf, 12, .inl gmf))] := hD
      refine lv_aload_n hx hb dX11_club_45 rfl (lv_at hl 0 rfl) ?_
      refine va_get (D := (dC, dI)) (ci := 11) (v := .ref mf) (C := RX11) (T := TX11) (N := 114) hx hb ht inX11 hown hK hP 0 rfl rfl 14 (by decide) (ht _ kw_1441) (fun _ h9 => h9) hfm_14 dX11_club_46 ?_
      refine lv_aload_n hx hb dX11_club_49 rfl (lv_at hl 0 rfl) ?_
      refine va_get (D := (dC, dI)) (ci := 11) (v := .int 0) (C := RX11) (T := TX11) (N := 114) hx hb ht inX11 hown hK hP 0 rfl rfl 12 (by decide) (ht _ kw_1439) (fun _ h9 => h9) hfm_12 dX11_club_50 ?_
      refine lv_iload_n hx hb dX11_club_53 rfl (lv_at hl 2 rfl) ?_
      refine va_iast hx hb hK hP hD hS 2 1 rfl rfl (by unfold vp_in; decide) dX11_club_54 (fun H locs hP hD hS => ?_)
      generalize upd gmf (0 : Int32).toNatClampNeg nb = g5 at hP hD
      have hP : va_P (dC, dI) vwCl [(m0, .inr (11, fm)), (me, .inl (kme, 12, .inl g4)), (mf, .inl (kmf, 12, .inl g5))] H := hP
      have hD : va_D A [(m0, .inr (11, fm)), (me, .inl (kme, 12, .inl g4)), (mf, .inl (kmf, 12, .inl g5))] := hD
      refine lv_aload_n hx hb dX11_club_55 rfl (lv_at hl 0 rfl) ?_
      refine lv_dup hx hb dX11_club_56 rfl ?_
      refine va_get (D := (dC, dI)) (ci := 11) (v := .int 0) (C := RX11) (T := TX11) (N := 114) hx hb ht inX11 hown hK hP 0 rfl rfl 12 (by decide) (ht _ kw_1439) (fun _ h9 => h9) hfm_12 dX11_club_57 ?_
      refine lv_iconst (v := 1) hx hb dX11_club_60 (by decide) ?_
      refine lv_iadd hx hb dX11_club_61 ?_
      refine lv_topi (fun r6 er6 => ?_)
      have er6 : r6 = 1 := er6.trans (by decide)
      subst er6
      refine va_put (D := (dC, dI)) (ci := 11) (v := .int 1) (ty := .int) (C := RX11) (T := TX11) (N := 114) hx hb ht inX11 tyX11 tyX11_ok nmX11 hown hK hP hD hS 0 rfl rfl 12 (by decide) (ht _ kw_1439) (fun _ h9 => h9) rfl (by decide +kernel) rfl rfl (gs_lt hn_fm (by decide)) dX11_club_62 (fun H locs hP hD hS => ?_)
      have hP : va_P (dC, dI) vwCl [(m0, .inr (11, (fm.set 12 (.int 1)))), (me, .inl (kme, 12, .inl g4)), (mf, .inl (kmf, 12, .inl g5))] H := hP
      have hD : va_D A [(m0, .inr (11, (fm.set 12 (.int 1)))), (me, .inl (kme, 12, .inl g4)), (mf, .inl (kmf, 12, .inl g5))] := hD
      refine lv_aload_n hx hb dX11_club_65 rfl (lv_at hl 0 rfl) ?_
      refine va_get (D := (dC, dI)) (ci := 11) (v := .int 1) (C := RX11) (T := TX11) (N := 114) hx hb ht inX11 hown hK hP 0 rfl rfl 12 (by decide) (ht _ kw_1439) (fun _ h9 => h9) (gs_eq (gs_lt hn_fm (by decide))) dX11_club_66 ?_
      refine lv_iconst (v := 1) hx hb dX11_club_69 (by decide) ?_
      refine lv_isub hx hb dX11_club_70 ?_
      refine lv_topi (fun r7 er7 => ?_)
      have er7 : r7 = 0 := er7.trans (by decide)
      subst er7
      exact W.iret hx hb hr (fun t ht9 hW => ⟨⟨_, (), rfl, (by unfold sp_X11_club; rw [if_neg c1, if_neg c2]), trivial⟩, hS.F ht9⟩) hS.2.2 dX11_club_71
    · refine lv_bipush (v := (-3)) hx hb dX11_club_20 (by decide) ?_
      exact W.iret hx hb hr (fun t ht9 hW => ⟨⟨_, (), rfl, (by unfold sp_X11_club; rw [if_neg c1, if_pos c2]), trivial⟩, hS.F ht9⟩) hS.2.2 dX11_club_22
abbrev cX11_person : ByteArray := prog_13_method_22_code
def yX11_person : MethodName := ⟨RX11, "person", "()I"⟩
theorem dX11_person_0 : decode cX11_person 0 = .ok (.aload_n 0, 1) := by decide +kernel
theorem dX11_person_1 : decode cX11_person 1 = .ok (.getfield 328, 3) := by decide +kernel
theorem dX11_person_4 : decode cX11_person 4 = .ok (.sipush 200, 3) := by decide +kernel
theorem dX11_person_7 : decode cX11_person 7 = .ok (.if_icmp .ne 6, 3) := by decide +kernel
theorem dX11_person_13 : decode cX11_person 13 = .ok (.aload_n 0, 1) := by decide +kernel
theorem dX11_person_14 : decode cX11_person 14 = .ok (.dup, 1) := by decide +kernel
theorem dX11_person_15 : decode cX11_person 15 = .ok (.getfield 328, 3) := by decide +kernel
theorem dX11_person_18 : decode cX11_person 18 = .ok (.iconst 1, 1) := by decide +kernel
theorem dX11_person_19 : decode cX11_person 19 = .ok (.iadd, 1) := by decide +kernel
theorem dX11_person_20 : decode cX11_person 20 = .ok (.putfield 328, 3) := by decide +kernel
theorem dX11_person_23 : decode cX11_person 23 = .ok (.aload_n 0, 1) := by decide +kernel
theorem dX11_person_24 : decode cX11_person 24 = .ok (.getfield 328, 3) := by decide +kernel
theorem dX11_person_27 : decode cX11_person 27 = .ok (.iconst 1, 1) := by decide +kernel
theorem dX11_person_28 : decode cX11_person 28 = .ok (.isub, 1) := by decide +kernel
theorem dX11_person_29 : decode cX11_person 29 = .ok (.ireturn, 1) := by decide +kernel
set_option maxHeartbeats 4000000 in
set_option maxRecDepth 100000 in
theorem ct_X11_person (l : Launch) (dC : Nat → ClassId) (dI : Nat → Nat → Nat) (m0 : Nat) (fm : List Value) (hn_fm : fm.length = 114) (hfm_15 : fm[15]? = some (.int 0)) (sz : Nat)  : Met l yX11_person (.code yX11_person cX11_person 1 (some .int) :: lw_g) ({ frames := 2, cells := 0, slots := 0, locals := 120 }) (ro_P dC dI [(m0, .inr (11, fm))] [] sz [.ref m0]) (ri_Q 0 (va_A [(m0, .inr (11, fm))] sz)) 0 0 (va_A [(m0, .inr (11, fm))] sz) := by
  refine ro_entry (by decide) (Nat.le_of_ble_eq_true rfl) ?_
  intro p e s m below meth c ls hx hb hr hlocks ht hown hin hml hsz hP hK hD hE hl
  subst hsz
  have hD := hD.self (sz := s.heap.size)
  generalize hAe : va_A [(m0, .inr (11, fm))] s.heap.size = A at hD ⊢
  have hA : ∀ q, s.heap.size ≤ q → A q := fun q h => by rw [← hAe]; exact Or.inr h
  have hS : va_S A s.heap s.heap [] := va_S.rf
  have hl : lv_has ls 1 [(0, .ref m0)] := hl
  have hown : s.vm.findClass RX11 = some m.cls := hown
  refine lv_aload_n hx hb dX11_person_0 rfl (lv_at hl 0 rfl) ?_
  refine va_get (D := (dC, dI)) (ci := 11) (v := .int 0) (C := RX11) (T := TX11) (N := 114) hx hb ht inX11 hown hK hP 0 rfl rfl 15 (by decide) (ht _ kw_1442) (fun _ h9 => h9) hfm_15 dX11_person_1 ?_
  refine lv_sipush (v := 200) hx hb dX11_person_4 (by decide) ?_
  refine lv_icmp_ne (tgt := 13) hx hb dX11_person_7 (by decide) (fun c1 => ?_) (fun c1 => ?_)
  rotate_left
  · exact absurd c1 (by decide)
  refine lv_aload_n hx hb dX11_person_13 rfl (lv_at hl 0 rfl) ?_
  refine lv_dup hx hb dX11_person_14 rfl ?_
  refine va_get (D := (dC, dI)) (ci := 11) (v := .int 0) (C := RX11) (T := TX11) (N := 114) hx hb ht inX11 hown hK hP 0 rfl rfl 15 (by decide) (ht _ kw_1442) (fun _ h9 => h9) hfm_15 dX11_person_15 ?_
  refine lv_iconst (v := 1) hx hb dX11_person_18 (by decide) ?_
  refine lv_iadd hx hb dX11_person_19 ?_
  refine lv_topi (fun r2 er2 => ?_)
  have er2 : r2 = 1 := er2.trans (by decide)
  subst er2
  refine va_put (D := (dC, dI)) (ci := 11) (v := .int 1) (ty := .int) (C := RX11) (T := TX11) (N := 114) hx hb ht inX11 tyX11 tyX11_ok nmX11 hown hK hP hD hS 0 rfl rfl 15 (by decide) (ht _ kw_1442) (fun _ h9 => h9) rfl (by decide +kernel) rfl rfl (gs_lt hn_fm (by decide)) dX11_person_20 (fun H locs hP hD hS => ?_)
  have hP : va_P (dC, dI) vwCl [(m0, .inr (11, (fm.set 15 (.int 1))))] H := hP
  have hD : va_D A [(m0, .inr (11, (fm.set 15 (.int 1))))] := hD
  refine lv_aload_n hx hb dX11_person_23 rfl (lv_at hl 0 rfl) ?_
  refine va_get (D := (dC, dI)) (ci := 11) (v := .int 1) (C := RX11) (T := TX11) (N := 114) hx hb ht inX11 hown hK hP 0 rfl rfl 15 (by decide) (ht _ kw_1442) (fun _ h9 => h9) (gs_eq (gs_lt hn_fm (by decide))) dX11_person_24 ?_
  refine lv_iconst (v := 1) hx hb dX11_person_27 (by decide) ?_
  refine lv_isub hx hb dX11_person_28 ?_
  refine lv_topi (fun r3 er3 => ?_)
  have er3 : r3 = 0 := er3.trans (by decide)
  subst er3
  exact W.iret hx hb hr (fun t ht9 hW => ⟨⟨_, (), rfl, rfl, trivial⟩, hS.F ht9⟩) hS.2.2 dX11_person_29
abbrev cX11_official : ByteArray := prog_13_method_25_code
def yX11_official : MethodName := ⟨RX11, "official", "(II)I"⟩
theorem dX11_official_0 : decode cX11_official 0 = .ok (.iload_n 1, 1) := by decide +kernel
theorem dX11_official_1 : decode cX11_official 1 = .ok (.iconst 0, 1) := by decide +kernel
theorem dX11_official_2 : decode cX11_official 2 = .ok (.bipush 11, 2) := by decide +kernel
theorem dX11_official_4 : decode cX11_official 4 = .ok (.invokestatic 255, 3) := by decide +kernel
theorem dX11_official_7 : decode cX11_official 7 = .ok (.ifCond .eq 13, 3) := by decide +kernel
theorem dX11_official_20 : decode cX11_official 20 = .ok (.bipush (-3), 2) := by decide +kernel
theorem dX11_official_22 : decode cX11_official 22 = .ok (.ireturn, 1) := by decide +kernel
theorem dX11_official_10 : decode cX11_official 10 = .ok (.iload_n 2, 1) := by decide +kernel
theorem dX11_official_11 : decode cX11_official 11 = .ok (.iconst 0, 1) := by decide +kernel
theorem dX11_official_12 : decode cX11_official 12 = .ok (.bipush 7, 2) := by decide +kernel
theorem dX11_official_14 : decode cX11_official 14 = .ok (.invokestatic 255, 3) := by decide +kernel
theorem dX11_official_17 : decode cX11_official 17 = .ok (.ifCond .ne 6, 3) := by decide +kernel
theorem dX11_official_23 : decode cX11_official 23 = .ok (.aload_n 0, 1) := by decide +kernel
theorem dX11_official_24 : decode cX11_official 24 = .ok (.getfield 334, 3) := by decide +kernel
theorem dX11_official_27 : decode cX11_official 27 = .ok (.bipush 8, 2) := by decide +kernel
theorem dX11_official_29 : decode cX11_official 29 = .ok (.if_icmp .ne 6, 3) := by decide +kernel
theorem dX11_official_35 : decode cX11_official 35 = .ok (.aload_n 0, 1) := by decide +kernel
theorem dX11_official_36 : decode cX11_official 36 = .ok (.getfield 57, 3) := by decide +kernel
theorem kw_1449 : Cond.fieldLink RX11 57 "SportsHouseModel" "homes" "[I" ∈ lw_g := lw_at 1449 (by decide +kernel) rfl
theorem dX11_official_39 : decode cX11_official 39 = .ok (.aload_n 0, 1) := by decide +kernel
theorem dX11_official_40 : decode cX11_official 40 = .ok (.getfield 334, 3) := by decide +kernel
theorem dX11_official_43 : decode cX11_official 43 = .ok (.iload_n 1, 1) := by decide +kernel
theorem dX11_official_44 : decode cX11_official 44 = .ok (.iastore, 1) := by decide +kernel
theorem dX11_official_45 : decode cX11_official 45 = .ok (.aload_n 0, 1) := by decide +kernel
theorem dX11_official_46 : decode cX11_official 46 = .ok (.getfield 60, 3) := by decide +kernel
theorem kw_1450 : Cond.fieldLink RX11 60 "SportsHouseModel" "officialCountries" "[I" ∈ lw_g := lw_at 1450 (by decide +kernel) rfl
theorem dX11_official_49 : decode cX11_official 49 = .ok (.aload_n 0, 1) := by decide +kernel
theorem dX11_official_50 : decode cX11_official 50 = .ok (.getfield 334, 3) := by decide +kernel
theorem dX11_official_53 : decode cX11_official 53 = .ok (.iload_n 2, 1) := by decide +kernel
theorem dX11_official_54 : decode cX11_official 54 = .ok (.iastore, 1) := by decide +kernel
theorem dX11_official_55 : decode cX11_official 55 = .ok (.aload_n 0, 1) := by decide +kernel
theorem dX11_official_56 : decode cX11_official 56 = .ok (.dup, 1) := by decide +kernel
theorem dX11_official_57 : decode cX11_official 57 = .ok (.getfield 334, 3) := by decide +kernel
theorem dX11_official_60 : decode cX11_official 60 = .ok (.iconst 1, 1) := by decide +kernel
theorem dX11_official_61 : decode cX11_official 61 = .ok (.iadd, 1) := by decide +kernel
theorem dX11_official_62 : decode cX11_official 62 = .ok (.putfield 334, 3) := by decide +kernel
theorem dX11_official_65 : decode cX11_official 65 = .ok (.aload_n 0, 1) := by decide +kernel
theorem dX11_official_66 : decode cX11_official 66 = .ok (.getfield 334, 3) := by decide +kernel
theorem dX11_official_69 : decode cX11_official 69 = .ok (.iconst 1, 1) := by decide +kernel
theorem dX11_official_70 : decode cX11_official 70 = .ok (.isub, 1) := by decide +kernel
theorem dX11_official_71 : decode cX11_official 71 = .ok (.ireturn, 1) := by decide +kernel
def sp_X11_official (na : Int32) (nb : Int32) : Int32 := if (sp_X11_in na 0 11) = 0 then (-3) else if (sp_X11_in nb 0 7) = 0 then (-3) else 0
set_option maxHeartbeats 4000000 in
set_option maxRecDepth 100000 in
theorem ct_X11_official (l : Launch) (dC : Nat → ClassId) (dI : Nat → Nat → Nat) (m0 : Nat) (mg : Nat) (mh : Nat) (fm : List Value) (kmg : ClassId) (gmg : Nat → Int32) (kmh : ClassId) (gmh : Nat → Int32) (hn_fm : fm.length = 114) (hfm_21 : fm[21]? = some (.int 0)) (hfm_22 : fm[22]? = some (.ref mg)) (hfm_23 : fm[23]? = some (.ref mh)) (sz : Nat) (na : Int32) (nb : Int32) : Met l yX11_official (.code yX11_official cX11_official 3 (some .int) :: lw_g) ({ frames := 2, cells := 0, slots := 0, locals := 120 }) (ro_P dC dI [(m0, .inr (11, fm)), (mg, .inl (kmg, 8, .inl gmg)), (mh, .inl (kmh, 8, .inl gmh))] [(kmg, .int), (kmh, .int)] sz [.ref m0, .int na, .int nb]) (ri_Q (sp_X11_official na nb) (va_A [(m0, .inr (11, fm)), (mg, .inl (kmg, 8, .inl gmg)), (mh, .inl (kmh, 8, .inl gmh))] sz)) 0 0 (va_A [(m0, .inr (11, fm)), (mg, .inl (kmg, 8, .inl gmg)), (mh, .inl (kmh, 8, .inl gmh))] sz) := by
  refine ro_entry (by decide) (Nat.le_of_ble_eq_true rfl) ?_
  intro p e s m below meth c ls hx hb hr hlocks ht hown hin hml hsz hP hK hD hE hl
  subst hsz
  have hD := hD.self (sz := s.heap.size)
  generalize hAe : va_A [(m0, .inr (11, fm)), (mg, .inl (kmg, 8, .inl gmg)), (mh, .inl (kmh, 8, .inl gmh))] s.heap.size = A at hD ⊢
  have hA : ∀ q, s.heap.size ≤ q → A q := fun q h => by rw [← hAe]; exact Or.inr h
  have hS : va_S A s.heap s.heap [] := va_S.rf
  have hl : lv_has ls 3 [(0, .ref m0), (1, .int na), (2, .int nb)] := hl
  have hown : s.vm.findClass RX11 = some m.cls := hown
  refine lv_iload_n hx hb dX11_official_0 rfl (lv_at hl 1 rfl) ?_
  refine lv_iconst (v := 0) hx hb dX11_official_1 (by decide) ?_
  refine lv_bipush (v := 11) hx hb dX11_official_2 (by decide) ?_
  refine ro_callS (n := 3) (As := [.int na, .int 0, .int 11]) (rest := []) hx hb hml hown ht hK hP hS hA hE (ct_X11_in l dC dI  _ na 0 11) gv_X11_255 rfl rfl (by decide +kernel) ⟨Nat.le_of_ble_eq_true rfl, Nat.le_of_ble_eq_true rfl⟩ rfl hl.1 (Nat.le_of_ble_eq_true rfl) ⟨Nat.le_of_ble_eq_true rfl, Nat.le_of_ble_eq_true rfl⟩ rfl dX11_official_4 (fun H locs hP hS => ?_)
  refine lv_if_eq (tgt := 20) hx hb dX11_official_7 (by decide) (fun c1 => ?_) (fun c1 => ?_)
  · refine lv_bipush (v := (-3)) hx hb dX11_official_20 (by decide) ?_
    exact W.iret hx hb hr (fun t ht9 hW => ⟨⟨_, (), rfl, (by unfold sp_X11_official; rw [if_pos c1]), trivial⟩, hS.F ht9⟩) hS.2.2 dX11_official_22
  · refine lv_iload_n hx hb dX11_official_10 rfl (lv_at hl 2 rfl) ?_
    refine lv_iconst (v := 0) hx hb dX11_official_11 (by decide) ?_
    refine lv_bipush (v := 7) hx hb dX11_official_12 (by decide) ?_
    refine ro_callS (n := 3) (As := [.int nb, .int 0, .int 7]) (rest := []) hx hb hml hown ht hK hP hS hA hE (ct_X11_in l dC dI  _ nb 0 7) gv_X11_255 rfl rfl (by decide +kernel) ⟨Nat.le_of_ble_eq_true rfl, Nat.le_of_ble_eq_true rfl⟩ rfl hl.1 (Nat.le_of_ble_eq_true rfl) ⟨Nat.le_of_ble_eq_true rfl, Nat.le_of_ble_eq_true rfl⟩ rfl dX11_official_14 (fun H locs hP hS => ?_)
    refine lv_if_ne (tgt := 23) hx hb dX11_official_17 (by decide) (fun c2 => ?_) (fun c2 => ?_)
    · refine lv_aload_n hx hb dX11_official_23 rfl (lv_at hl 0 rfl) ?_
      refine va_get (D := (dC, dI)) (ci := 11) (v := .int 0) (C := RX11) (T := TX11) (N := 114) hx hb ht inX11 hown hK hP 0 rfl rfl 21 (by decide) (ht _ kw_1448) (fun _ h9 => h9) hfm_21 dX11_official_24 ?_
      refine lv_bipush (v := 8) hx hb dX11_official_27 (by decide) ?_
      refine lv_icmp_ne (tgt := 35) hx hb dX11_official_29 (by decide) (fun c3 => ?_) (fun c3 => ?_)
      rotate_left
      · exact absurd c3 (by decide)
      refine lv_aload_n hx hb dX11_official_35 rfl (lv_at hl 0 rfl) ?_
      refine va_get (D := (dC, dI)) (ci := 11) (v := .ref mg) (C := RX11) (T := TX11) (N := 114) hx hb ht inX11 hown hK hP 0 rfl rfl 22 (by decide) (ht _ kw_1449) (fun _ h9 => h9) hfm_22 dX11_official_36 ?_
      refine lv_aload_n hx hb dX11_official_39 rfl (lv_at hl 0 rfl) ?_
      refine va_get (D := (dC, dI)) (ci := 11) (v := .int 0) (C := RX11) (T := TX11) (N := 114) hx hb ht inX11 hown hK hP 0 rfl rfl 21 (by decide) (ht _ kw_1448) (fun _ h9 => h9) hfm_21 dX11_official_40 ?_
      refine lv_iload_n hx hb dX11_official_43 rfl (lv_at hl 1 rfl) ?_
      refine va_iast hx hb hK hP hD hS 1 0 rfl rfl (by unfold vp_in; decide) dX11_official_44 (fun H locs hP hD hS => ?_)
      generalize upd gmg (0 : Int32).toNatClampNeg na = g4 at hP hD
      have hP : va_P (dC, dI) vwCl [(m0, .inr (11, fm)), (mg, .inl (kmg, 8, .inl g4)), (mh, .inl (kmh, 8, .inl gmh))] H := hP
      have hD : va_D A [(m0, .inr (11, fm)), (mg, .inl (kmg, 8, .inl g4)), (mh, .inl (kmh, 8, .inl gmh))] := hD
      refine lv_aload_n hx hb dX11_official_45 rfl (lv_at hl 0 rfl) ?_
      refine va_get (D := (dC, dI)) (ci := 11) (v := .ref mh) (C := RX11) (T := TX11) (N := 114) hx hb ht inX11 hown hK hP 0 rfl rfl 23 (by decide) (ht _ kw_1450) (fun _ h9 => h9) hfm_23 dX11_official_46 ?_
      refine lv_aload_n hx hb dX11_official_49 rfl (lv_at hl 0 rfl) ?_
      refine va_get (D := (dC, dI)) (ci := 11) (v := .int 0) (C := RX11) (T := TX11) (N := 114) hx hb ht inX11 hown hK hP 0 rfl rfl 21 (by decide) (ht _ kw_1448) (fun _ h9 => h9) hfm_21 dX11_official_50 ?_
      refine lv_iload_n hx hb dX11_official_53 rfl (lv_at hl 2 rfl) ?_
      refine va_iast hx hb hK hP hD hS 2 1 rfl rfl (by unfold vp_in; decide) dX11_official_54 (fun H locs hP hD hS => ?_)
      generalize upd gmh (0 : Int32).toNatClampNeg nb = g5 at hP hD
      have hP : va_P (dC, dI) vwCl [(m0, .inr (11, fm)), (mg, .inl (kmg, 8, .inl g4)), (mh, .inl (kmh, 8, .inl g5))] H := hP
      have hD : va_D A [(m0, .inr (11, fm)), (mg, .inl (kmg, 8, .inl g4)), (mh, .inl (kmh, 8, .inl g5))] := hD
      refine lv_aload_n hx hb dX11_official_55 rfl (lv_at hl 0 rfl) ?_
      refine lv_dup hx hb dX11_official_56 rfl ?_
      refine va_get (D := (dC, dI)) (ci := 11) (v := .int 0) (C := RX11) (T := TX11) (N := 114) hx hb ht inX11 hown hK hP 0 rfl rfl 21 (by decide) (ht _ kw_1448) (fun _ h9 => h9) hfm_21 dX11_official_57 ?_
      refine lv_iconst (v := 1) hx hb dX11_official_60 (by decide) ?_
      refine lv_iadd hx hb dX11_official_61 ?_
      refine lv_topi (fun r6 er6 => ?_)
      have er6 : r6 = 1 := er6.trans (by decide)
      subst er6
      refine va_put (D := (dC, dI)) (ci := 11) (v := .int 1) (ty := .int) (C := RX11) (T := TX11) (N := 114) hx hb ht inX11 tyX11 tyX11_ok nmX11 hown hK hP hD hS 0 rfl rfl 21 (by decide) (ht _ kw_1448) (fun _ h9 => h9) rfl (by decide +kernel) rfl rfl (gs_lt hn_fm (by decide)) dX11_official_62 (fun H locs hP hD hS => ?_)
      have hP : va_P (dC, dI) vwCl [(m0, .inr (11, (fm.set 21 (.int 1)))), (mg, .inl (kmg, 8, .inl g4)), (mh, .inl (kmh, 8, .inl g5))] H := hP
      have hD : va_D A [(m0, .inr (11, (fm.set 21 (.int 1)))), (mg, .inl (kmg, 8, .inl g4)), (mh, .inl (kmh, 8, .inl g5))] := hD
      refine lv_aload_n hx hb dX11_official_65 rfl (lv_at hl 0 rfl) ?_
      refine va_get (D := (dC, dI)) (ci := 11) (v := .int 1) (C := RX11) (T := TX11) (N := 114) hx hb ht inX11 hown hK hP 0 rfl rfl 21 (by decide) (ht _ kw_1448) (fun _ h9 => h9) (gs_eq (gs_lt hn_fm (by decide))) dX11_official_66 ?_
      refine lv_iconst (v := 1) hx hb dX11_official_69 (by decide) ?_
      refine lv_isub hx hb dX11_official_70 ?_
      refine lv_topi (fun r7 er7 => ?_)
      have er7 : r7 = 0 := er7.trans (by decide)
      subst er7
      exact W.iret hx hb hr (fun t ht9 hW => ⟨⟨_, (), rfl, (by unfold sp_X11_official; rw [if_neg c1, if_neg c2]), trivial⟩, hS.F ht9⟩) hS.2.2 dX11_official_71
    · refine lv_bipush (v := (-3)) hx hb dX11_official_20 (by decide) ?_
      exact W.iret hx hb hr (fun t ht9 hW => ⟨⟨_, (), rfl, (by unfold sp_X11_official; rw [if_neg c1, if_pos c2]), trivial⟩, hS.F ht9⟩) hS.2.2 dX11_official_22
abbrev cX11_day : ByteArray := prog_13_method_26_code
def yX11_day : MethodName := ⟨RX11, "day", "(I)I"⟩
theorem dX11_day_0 : decode cX11_day 0 = .ok (.iload_n 1, 1) := by decide +kernel
theorem dX11_day_1 : decode cX11_day 1 = .ok (.aload_n 0, 1) := by decide +kernel
theorem dX11_day_2 : decode cX11_day 2 = .ok (.getfield 337, 3) := by decide +kernel
theorem dX11_day_5 : decode cX11_day 5 = .ok (.iconst 1, 1) := by decide +kernel
theorem dX11_day_6 : decode cX11_day 6 = .ok (.iadd, 1) := by decide +kernel
theorem dX11_day_7 : decode cX11_day 7 = .ok (.sipush 999, 3) := by decide +kernel
theorem dX11_day_10 : decode cX11_day 10 = .ok (.invokestatic 255, 3) := by decide +kernel
theorem dX11_day_13 : decode cX11_day 13 = .ok (.ifCond .ne 6, 3) := by decide +kernel
theorem dX11_day_19 : decode cX11_day 19 = .ok (.aload_n 0, 1) := by decide +kernel
theorem dX11_day_20 : decode cX11_day 20 = .ok (.getfield 337, 3) := by decide +kernel
theorem dX11_day_23 : decode cX11_day 23 = .ok (.istore_n 2, 1) := by decide +kernel
theorem dX11_day_24 : decode cX11_day 24 = .ok (.aload_n 0, 1) := by decide +kernel
theorem dX11_day_25 : decode cX11_day 25 = .ok (.iload_n 1, 1) := by decide +kernel
theorem dX11_day_26 : decode cX11_day 26 = .ok (.putfield 337, 3) := by decide +kernel
theorem dX11_day_29 : decode cX11_day 29 = .ok (.iload_n 2, 1) := by decide +kernel
theorem dX11_day_30 : decode cX11_day 30 = .ok (.ireturn, 1) := by decide +kernel
theorem dX11_day_16 : decode cX11_day 16 = .ok (.bipush (-3), 2) := by decide +kernel
theorem dX11_day_18 : decode cX11_day 18 = .ok (.ireturn, 1) := by decide +kernel
def sp_X11_day (na : Int32) : Int32 := if (sp_X11_in na 1 999) = 0 then (-3) else 0
set_option maxHeartbeats 4000000 in
set_option maxRecDepth 100000 in
theorem ct_X11_day (l : Launch) (dC : Nat → ClassId) (dI : Nat → Nat → Nat) (m0 : Nat) (fm : List Value) (hn_fm : fm.length = 114) (hfm_3 : fm[3]? = some (.int 0)) (sz : Nat) (na : Int32) : Met l yX11_day (.code yX11_day cX11_day 3 (some .int) :: lw_g) ({ frames := 2, cells := 0, slots := 0, locals := 120 }) (ro_P dC dI [(m0, .inr (11, fm))] [] sz [.ref m0, .int na]) (ri_Q (sp_X11_day na) (va_A [(m0, .inr (11, fm))] sz)) 0 0 (va_A [(m0, .inr (11, fm))] sz) := by
  refine ro_entry (by decide) (Nat.le_of_ble_eq_true rfl) ?_
  intro p e s m below meth c ls hx hb hr hlocks ht hown hin hml hsz hP hK hD hE hl
  subst hsz
  have hD := hD.self (sz := s.heap.size)
  generalize hAe : va_A [(m0, .inr (11, fm))] s.heap.size = A at hD ⊢
  have hA : ∀ q, s.heap.size ≤ q → A q := fun q h => by rw [← hAe]; exact Or.inr h
  have hS : va_S A s.heap s.heap [] := va_S.rf
  have hl : lv_has ls 3 [(0, .ref m0), (1, .int na)] := hl
  have hown : s.vm.findClass RX11 = some m.cls := hown
  refine lv_iload_n hx hb dX11_day_0 rfl (lv_at hl 1 rfl) ?_
  refine lv_aload_n hx hb dX11_day_1 rfl (lv_at hl 0 rfl) ?_
  refine va_get (D := (dC, dI)) (ci := 11) (v := .int 0) (C := RX11) (T := TX11) (N := 114) hx hb ht inX11 hown hK hP 0 rfl rfl 3 (by decide) (ht _ kw_1430) (fun _ h9 => h9) hfm_3 dX11_day_2 ?_
  refine lv_iconst (v := 1) hx hb dX11_day_5 (by decide) ?_
  refine lv_iadd hx hb dX11_day_6 ?_
  refine lv_topi (fun r1 er1 => ?_)
  have er1 : r1 = 1 := er1.trans (by decide)
  subst er1
  refine lv_sipush (v := 999) hx hb dX11_day_7 (by decide) ?_
  refine ro_callS (n := 3) (As := [.int na, .int 1, .int 999]) (rest := []) hx hb hml hown ht hK hP hS hA hE (ct_X11_in l dC dI  _ na 1 999) gv_X11_255 rfl rfl (by decide +kernel) ⟨Nat.le_of_ble_eq_true rfl, Nat.le_of_ble_eq_true rfl⟩ rfl hl.1 (Nat.le_of_ble_eq_true rfl) ⟨Nat.le_of_ble_eq_true rfl, Nat.le_of_ble_eq_true rfl⟩ rfl dX11_day_10 (fun H locs hP hS => ?_)
  refine lv_if_ne (tgt := 19) hx hb dX11_day_13 (by decide) (fun c2 => ?_) (fun c2 => ?_)
  · refine lv_aload_n hx hb dX11_day_19 rfl (lv_at hl 0 rfl) ?_
    refine va_get (D := (dC, dI)) (ci := 11) (v := .int 0) (C := RX11) (T := TX11) (N := 114) hx hb ht inX11 hown hK hP 0 rfl rfl 3 (by decide) (ht _ kw_1430) (fun _ h9 => h9) hfm_3 dX11_day_20 ?_
    refine lv_istore_n (lv' := [(2, .int 0), (0, .ref m0), (1, .int na)]) hx hb dX11_day_23 rfl hl (by decide) rfl (fun ls hl => ?_)
    refine lv_aload_n hx hb dX11_day_24 rfl (lv_at hl 1 rfl) ?_
    refine lv_iload_n hx hb dX11_day_25 rfl (lv_at hl 2 rfl) ?_
    refine va_put (D := (dC, dI)) (ci := 11) (v := .int na) (ty := .int) (C := RX11) (T := TX11) (N := 114) hx hb ht inX11 tyX11 tyX11_ok nmX11 hown hK hP hD hS 0 rfl rfl 3 (by decide) (ht _ kw_1430) (fun _ h9 => h9) rfl (by decide +kernel) rfl rfl (gs_lt hn_fm (by decide)) dX11_day_26 (fun H locs hP hD hS => ?_)
    have hP : va_P (dC, dI) vwCl [(m0, .inr (11, (fm.set 3 (.int na))))] H := hP
    have hD : va_D A [(m0, .inr (11, (fm.set 3 (.int na))))] := hD
    refine lv_iload_n hx hb dX11_day_29 rfl (lv_at hl 0 rfl) ?_
    exact W.iret hx hb hr (fun t ht9 hW => ⟨⟨_, (), rfl, (by unfold sp_X11_day; rw [if_neg c2]), trivial⟩, hS.F ht9⟩) hS.2.2 dX11_day_30
  · refine lv_bipush (v := (-3)) hx hb dX11_day_16 (by decide) ?_
    exact W.iret hx hb hr (fun t ht9 hW => ⟨⟨_, (), rfl, (by unfold sp_X11_day; rw [if_pos c2]), trivial⟩, hS.F ht9⟩) hS.2.2 dX11_day_18
abbrev cX11_drawing : ByteArray := prog_13_method_111_code
def yX11_drawing : MethodName := ⟨RX11, "drawing", "(II)I"⟩
theorem dX11_drawing_0 : decode cX11_drawing 0 = .ok (.iload_n 1, 1) := by decide +kernel
theorem dX11_drawing_1 : decode cX11_drawing 1 = .ok (.iconst 1, 1) := by decide +kernel
theorem dX11_drawing_2 : decode cX11_drawing 2 = .ok (.iconst 4, 1) := by decide +kernel
theorem dX11_drawing_3 : decode cX11_drawing 3 = .ok (.invokestatic 255, 3) := by decide +kernel
theorem dX11_drawing_6 : decode cX11_drawing 6 = .ok (.ifCond .eq 12, 3) := by decide +kernel
theorem dX11_drawing_18 : decode cX11_drawing 18 = .ok (.bipush (-3), 2) := by decide +kernel
theorem dX11_drawing_20 : decode cX11_drawing 20 = .ok (.ireturn, 1) := by decide +kernel
theorem dX11_drawing_9 : decode cX11_drawing 9 = .ok (.iload_n 2, 1) := by decide +kernel
theorem dX11_drawing_10 : decode cX11_drawing 10 = .ok (.iconst 1, 1) := by decide +kernel
theorem dX11_drawing_11 : decode cX11_drawing 11 = .ok (.iconst 3, 1) := by decide +kernel
theorem dX11_drawing_12 : decode cX11_drawing 12 = .ok (.invokestatic 255, 3) := by decide +kernel
theorem dX11_drawing_15 : decode cX11_drawing 15 = .ok (.ifCond .ne 6, 3) := by decide +kernel
theorem dX11_drawing_21 : decode cX11_drawing 21 = .ok (.aload_n 0, 1) := by decide +kernel
theorem dX11_drawing_22 : decode cX11_drawing 22 = .ok (.iconst 1, 1) := by decide +kernel
theorem dX11_drawing_23 : decode cX11_drawing 23 = .ok (.putfield 576, 3) := by decide +kernel
theorem dX11_drawing_26 : decode cX11_drawing 26 = .ok (.aload_n 0, 1) := by decide +kernel
theorem dX11_drawing_27 : decode cX11_drawing 27 = .ok (.iload_n 1, 1) := by decide +kernel
theorem dX11_drawing_28 : decode cX11_drawing 28 = .ok (.putfield 579, 3) := by decide +kernel
theorem kw_1526 : Cond.fieldLink RX11 579 "SportsHouseModel" "groups" "I" ∈ lw_g := lw_at 1526 (by decide +kernel) rfl
theorem dX11_drawing_31 : decode cX11_drawing 31 = .ok (.aload_n 0, 1) := by decide +kernel
theorem dX11_drawing_32 : decode cX11_drawing 32 = .ok (.iload_n 2, 1) := by decide +kernel
theorem dX11_drawing_33 : decode cX11_drawing 33 = .ok (.putfield 582, 3) := by decide +kernel
theorem kw_1527 : Cond.fieldLink RX11 582 "SportsHouseModel" "limit" "I" ∈ lw_g := lw_at 1527 (by decide +kernel) rfl
theorem dX11_drawing_36 : decode cX11_drawing 36 = .ok (.iconst 0, 1) := by decide +kernel
theorem dX11_drawing_37 : decode cX11_drawing 37 = .ok (.istore_n 3, 1) := by decide +kernel
theorem dX11_drawing_38 : decode cX11_drawing 38 = .ok (.iload_n 3, 1) := by decide +kernel
theorem dX11_drawing_39 : decode cX11_drawing 39 = .ok (.bipush 12, 2) := by decide +kernel
theorem dX11_drawing_41 : decode cX11_drawing 41 = .ok (.if_icmp .ge 23, 3) := by decide +kernel
theorem dX11_drawing_44 : decode cX11_drawing 44 = .ok (.aload_n 0, 1) := by decide +kernel
theorem dX11_drawing_45 : decode cX11_drawing 45 = .ok (.getfield 225, 3) := by decide +kernel
theorem kw_1528 : Cond.fieldLink RX11 225 "SportsHouseModel" "potOf" "[I" ∈ lw_g := lw_at 1528 (by decide +kernel) rfl
theorem dX11_drawing_48 : decode cX11_drawing 48 = .ok (.iload_n 3, 1) := by decide +kernel
theorem dX11_drawing_49 : decode cX11_drawing 49 = .ok (.iconst (-1), 1) := by decide +kernel
theorem dX11_drawing_50 : decode cX11_drawing 50 = .ok (.iastore, 1) := by decide +kernel
theorem dX11_drawing_51 : decode cX11_drawing 51 = .ok (.aload_n 0, 1) := by decide +kernel
theorem dX11_drawing_52 : decode cX11_drawing 52 = .ok (.getfield 228, 3) := by decide +kernel
theorem kw_1529 : Cond.fieldLink RX11 228 "SportsHouseModel" "groupOf" "[I" ∈ lw_g := lw_at 1529 (by decide +kernel) rfl
theorem dX11_drawing_55 : decode cX11_drawing 55 = .ok (.iload_n 3, 1) := by decide +kernel
theorem dX11_drawing_56 : decode cX11_drawing 56 = .ok (.iconst (-1), 1) := by decide +kernel
theorem dX11_drawing_57 : decode cX11_drawing 57 = .ok (.iastore, 1) := by decide +kernel
theorem dX11_drawing_58 : decode cX11_drawing 58 = .ok (.iinc 3 1, 3) := by decide +kernel
theorem dX11_drawing_61 : decode cX11_drawing 61 = .ok (.goto (-23), 3) := by decide +kernel
theorem dX11_drawing_64 : decode cX11_drawing 64 = .ok (.iconst 1, 1) := by decide +kernel
theorem dX11_drawing_65 : decode cX11_drawing 65 = .ok (.ireturn, 1) := by decide +kernel
def sp_X11_drawing (na : Int32) (nb : Int32) : Int32 := if (sp_X11_in na 1 4) = 0 then (-3) else if (sp_X11_in nb 1 3) = 0 then (-3) else 1
set_option maxHeartbeats 4000000 in
set_option maxRecDepth 100000 in
theorem ct_X11_drawing (l : Launch) (dC : Nat → ClassId) (dI : Nat → Nat → Nat) (m0 : Nat) (mi : Nat) (mj : Nat) (fm : List Value) (kmi : ClassId) (gmi : Nat → Int32) (kmj : ClassId) (gmj : Nat → Int32) (hn_fm : fm.length = 114) (hfm_101 : fm[101]? = some (.ref mi)) (hfm_102 : fm[102]? = some (.ref mj)) (sz : Nat) (na : Int32) (nb : Int32) : Met l yX11_drawing (.code yX11_drawing cX11_drawing 4 (some .int) :: lw_g) ({ frames := 2, cells := 0, slots := 0, locals := 120 }) (ro_P dC dI [(m0, .inr (11, fm)), (mi, .inl (kmi, 12, .inl gmi)), (mj, .inl (kmj, 12, .inl gmj))] [(kmi, .int), (kmj, .int)] sz [.ref m0, .int na, .int nb]) (ri_Q (sp_X11_drawing na nb) (va_A [(m0, .inr (11, fm)), (mi, .inl (kmi, 12, .inl gmi)), (mj, .inl (kmj, 12, .inl gmj))] sz)) 0 0 (va_A [(m0, .inr (11, fm)), (mi, .inl (kmi, 12, .inl gmi)), (mj, .inl (kmj, 12, .inl gmj))] sz) := by
  refine ro_entry (by decide) (Nat.le_of_ble_eq_true rfl) ?_
  intro p e s m below meth c ls hx hb hr hlocks ht hown hin hml hsz hP hK hD hE hl
  subst hsz
  have hD := hD.self (sz := s.heap.size)
  generalize hAe : va_A [(m0, .inr (11, fm)), (mi, .inl (kmi, 12, .inl gmi)), (mj, .inl (kmj, 12, .inl gmj))] s.heap.size = A at hD ⊢
  have hA : ∀ q, s.heap.size ≤ q → A q := fun q h => by rw [← hAe]; exact Or.inr h
  have hS : va_S A s.heap s.heap [] := va_S.rf
  have hl : lv_has ls 4 [(0, .ref m0), (1, .int na), (2, .int nb)] := hl
  have hown : s.vm.findClass RX11 = some m.cls := hown
  refine lv_iload_n hx hb dX11_drawing_0 rfl (lv_at hl 1 rfl) ?_
  refine lv_iconst (v := 1) hx hb dX11_drawing_1 (by decide) ?_
  refine lv_iconst (v := 4) hx hb dX11_drawing_2 (by decide) ?_
  refine ro_callS (n := 3) (As := [.int na, .int 1, .int 4]) (rest := []) hx hb hml hown ht hK hP hS hA hE (ct_X11_in l dC dI  _ na 1 4) gv_X11_255 rfl rfl (by decide +kernel) ⟨Nat.le_of_ble_eq_true rfl, Nat.le_of_ble_eq_true rfl⟩ rfl hl.1 (Nat.le_of_ble_eq_true rfl) ⟨Nat.le_of_ble_eq_true rfl, Nat.le_of_ble_eq_true rfl⟩ rfl dX11_drawing_3 (fun H locs hP hS => ?_)
  refine lv_if_eq (tgt := 18) hx hb dX11_drawing_6 (by decide) (fun c1 => ?_) (fun c1 => ?_)
  · refine lv_bipush (v := (-3)) hx hb dX11_drawing_18 (by decide) ?_
    exact W.iret hx hb hr (fun t ht9 hW => ⟨⟨_, (), rfl, (by unfold sp_X11_drawing; rw [if_pos c1]), trivial⟩, hS.F ht9⟩) hS.2.2 dX11_drawing_20
  · refine lv_iload_n hx hb dX11_drawing_9 rfl (lv_at hl 2 rfl) ?_
    refine lv_iconst (v := 1) hx hb dX11_drawing_10 (by decide) ?_
    refine lv_iconst (v := 3) hx hb dX11_drawing_11 (by decide) ?_
    refine ro_callS (n := 3) (As := [.int nb, .int 1, .int 3]) (rest := []) hx hb hml hown ht hK hP hS hA hE (ct_X11_in l dC dI  _ nb 1 3) gv_X11_255 rfl rfl (by decide +kernel) ⟨Nat.le_of_ble_eq_true rfl, Nat.le_of_ble_eq_true rfl⟩ rfl hl.1 (Nat.le_of_ble_eq_true rfl) ⟨Nat.le_of_ble_eq_true rfl, Nat.le_of_ble_eq_true rfl⟩ rfl dX11_drawing_12 (fun H locs hP hS => ?_)
    refine lv_if_ne (tgt := 21) hx hb dX11_drawing_15 (by decide) (fun c2 => ?_) (fun c2 => ?_)
    · refine lv_aload_n hx hb dX11_drawing_21 rfl (lv_at hl 0 rfl) ?_
      refine lv_iconst (v := 1) hx hb dX11_drawing_22 (by decide) ?_
      refine va_put (D := (dC, dI)) (ci := 11) (v := .int 1) (ty := .boolean) (C := RX11) (T := TX11) (N := 114) hx hb ht inX11 tyX11 tyX11_ok nmX11 hown hK hP hD hS 0 rfl rfl 98 (by decide) (ht _ kw_1525) (fun _ h9 => h9) rfl (by decide +kernel) rfl rfl (gs_lt hn_fm (by decide)) dX11_drawing_23 (fun H locs hP hD hS => ?_)
      have hP : va_P (dC, dI) vwCl [(m0, .inr (11, (fm.set 98 (.int 1)))), (mi, .inl (kmi, 12, .inl gmi)), (mj, .inl (kmj, 12, .inl gmj))] H := hP
      have hD : va_D A [(m0, .inr (11, (fm.set 98 (.int 1)))), (mi, .inl (kmi, 12, .inl gmi)), (mj, .inl (kmj, 12, .inl gmj))] := hD
      refine lv_aload_n hx hb dX11_drawing_26 rfl (lv_at hl 0 rfl) ?_
      refine lv_iload_n hx hb dX11_drawing_27 rfl (lv_at hl 1 rfl) ?_
      refine va_put (D := (dC, dI)) (ci := 11) (v := .int na) (ty := .int) (C := RX11) (T := TX11) (N := 114) hx hb ht inX11 tyX11 tyX11_ok nmX11 hown hK hP hD hS 0 rfl rfl 99 (by decide) (ht _ kw_1526) (fun _ h9 => h9) rfl (by decide +kernel) rfl rfl (gs_lt (gs_len hn_fm) (by decide)) dX11_drawing_28 (fun H locs hP hD hS => ?_)
      have hP : va_P (dC, dI) vwCl [(m0, .inr (11, ((fm.set 98 (.int 1)).set 99 (.int na)))), (mi, .inl (kmi, 12, .inl gmi)), (mj, .inl (kmj, 12, .inl gmj))] H := hP
      have hD : va_D A [(m0, .inr (11, ((fm.set 98 (.int 1)).set 99 (.int na)))), (mi, .inl (kmi, 12, .inl gmi)), (mj, .inl (kmj, 12, .inl gmj))] := hD
      refine lv_aload_n hx hb dX11_drawing_31 rfl (lv_at hl 0 rfl) ?_
      refine lv_iload_n hx hb dX11_drawing_32 rfl (lv_at hl 2 rfl) ?_
      refine va_put (D := (dC, dI)) (ci := 11) (v := .int nb) (ty := .int) (C := RX11) (T := TX11) (N := 114) hx hb ht inX11 tyX11 tyX11_ok nmX11 hown hK hP hD hS 0 rfl rfl 100 (by decide) (ht _ kw_1527) (fun _ h9 => h9) rfl (by decide +kernel) rfl rfl (gs_lt (gs_len (gs_len hn_fm)) (by decide)) dX11_drawing_33 (fun H locs hP hD hS => ?_)
      have hP : va_P (dC, dI) vwCl [(m0, .inr (11, (((fm.set 98 (.int 1)).set 99 (.int na)).set 100 (.int nb)))), (mi, .inl (kmi, 12, .inl gmi)), (mj, .inl (kmj, 12, .inl gmj))] H := hP
      have hD : va_D A [(m0, .inr (11, (((fm.set 98 (.int 1)).set 99 (.int na)).set 100 (.int nb)))), (mi, .inl (kmi, 12, .inl gmi)), (mj, .inl (kmj, 12, .inl gmj))] := hD
      refine lv_iconst (v := 0) hx hb dX11_drawing_36 (by decide) ?_
      refine lv_istore_n (lv' := [(3, .int 0), (0, .ref m0), (1, .int na), (2, .int nb)]) hx hb dX11_drawing_37 rfl hl (by decide) rfl (fun ls hl => ?_)
      refine lv_iload_n hx hb dX11_drawing_38 rfl (lv_at hl 0 rfl) ?_
      refine lv_bipush (v := 12) hx hb dX11_drawing_39 (by decide) ?_
      refine lv_icmp_ge (tgt := 64) hx hb dX11_drawing_41 (by decide) (fun c3 => ?_) (fun c3 => ?_)
      · exact absurd c3 (by decide)
      refine lv_aload_n hx hb dX11_drawing_44 rfl (lv_at hl 1 rfl) ?_
      refine va_get (D := (dC, dI)) (ci := 11) (v := .ref mi) (C := RX11) (T := TX11) (N := 114) hx hb ht inX11 hown hK hP 0 rfl rfl 101 (by decide) (ht _ kw_1528) (fun _ h9 => h9) (gs_ne (by decide) (gs_ne (by decide) (gs_ne (by decide) hfm_101))) dX11_drawing_45 ?_
      refine lv_iload_n hx hb dX11_drawing_48 rfl (lv_at hl 0 rfl) ?_
      refine lv_iconst (v := (-1)) hx hb dX11_drawing_49 (by decide) ?_
      refine va_iast hx hb hK hP hD hS 1 0 rfl rfl (by unfold vp_in; decide) dX11_drawing_50 (fun H locs hP hD hS => ?_)
      generalize upd gmi (0 : Int32).toNatClampNeg (-1) = g4 at hP hD
      have hP : va_P (dC, dI) vwCl [(m0, .inr (11, (((fm.set 98 (.int 1)).set 99 (.int na)).set 100 (.int nb)))), (mi, .inl (kmi, 12, .inl g4)), (mj, .inl (kmj, 12, .inl gmj))] H := hP
      have hD : va_D A [(m0, .inr (11, (((fm.set 98 (.int 1)).set 99 (.int na)).set 100 (.int nb)))), (mi, .inl (kmi, 12, .inl g4)), (mj, .inl (kmj, 12, .inl gmj))] := hD
      refine lv_aload_n hx hb dX11_drawing_51 rfl (lv_at hl 1 rfl) ?_
      refine va_get (D := (dC, dI)) (ci := 11) (v := .ref mj) (C := RX11) (T := TX11) (N := 114) hx hb ht inX11 hown hK hP 0 rfl rfl 102 (by decide) (ht _ kw_1529) (fun _ h9 => h9) (gs_ne (by decide) (gs_ne (by decide) (gs_ne (by decide) hfm_102))) dX11_drawing_52 ?_
      refine lv_iload_n hx hb dX11_drawing_55 rfl (lv_at hl 0 rfl) ?_
      refine lv_iconst (v := (-1)) hx hb dX11_drawing_56 (by decide) ?_
      refine va_iast hx hb hK hP hD hS 2 1 rfl rfl (by unfold vp_in; decide) dX11_drawing_57 (fun H locs hP hD hS => ?_)
      generalize upd gmj (0 : Int32).toNatClampNeg (-1) = g5 at hP hD
      have hP : va_P (dC, dI) vwCl [(m0, .inr (11, (((fm.set 98 (.int 1)).set 99 (.int na)).set 100 (.int nb)))), (mi, .inl (kmi, 12, .inl g4)), (mj, .inl (kmj, 12, .inl g5))] H := hP
      have hD : va_D A [(m0, .inr (11, (((fm.set 98 (.int 1)).set 99 (.int na)).set 100 (.int nb)))), (mi, .inl (kmi, 12, .inl g4)), (mj, .inl (kmj, 12, .inl g5))] := hD
      refine lv_iinc (v := 1) (lv' := [(3, .int 1), (0, .ref m0), (1, .int na), (2, .int nb)]) hx hb dX11_drawing_58 hl (k := 0) rfl (by decide) (by decide) rfl (fun ls hl => ?_)
      refine lv_goto (tgt := 38) hx hb dX11_drawing_61 (by decide) ?_
      refine lv_iload_n hx hb dX11_drawing_38 rfl (lv_at hl 0 rfl) ?_
      refine lv_bipush (v := 12) hx hb dX11_drawing_39 (by decide) ?_
      refine lv_icmp_ge (tgt := 64) hx hb dX11_drawing_41 (by decide) (fun c6 => ?_) (fun c6 => ?_)
      · exact absurd c6 (by decide)
      refine lv_aload_n hx hb dX11_drawing_44 rfl (lv_at hl 1 rfl) ?_
      refine va_get (D := (dC, dI)) (ci := 11) (v := .ref mi) (C := RX11) (T := TX11) (N := 114) hx hb ht inX11 hown hK hP 0 rfl rfl 101 (by decide) (ht _ kw_1528) (fun _ h9 => h9) (gs_ne (by decide) (gs_ne (by decide) (gs_ne (by decide) hfm_101))) dX11_drawing_45 ?_
      refine lv_iload_n hx hb dX11_drawing_48 rfl (lv_at hl 0 rfl) ?_
      refine lv_iconst (v := (-1)) hx hb dX11_drawing_49 (by decide) ?_
      refine va_iast hx hb hK hP hD hS 1 0 rfl rfl (by unfold vp_in; decide) dX11_drawing_50 (fun H locs hP hD hS => ?_)
      generalize upd g4 (1 : Int32).toNatClampNeg (-1) = g7 at hP hD
      have hP : va_P (dC, dI) vwCl [(m0, .inr (11, (((fm.set 98 (.int 1)).set 99 (.int na)).set 100 (.int nb)))), (mi, .inl (kmi, 12, .inl g7)), (mj, .inl (kmj, 12, .inl g5))] H := hP
      have hD : va_D A [(m0, .inr (11, (((fm.set 98 (.int 1)).set 99 (.int na)).set 100 (.int nb)))), (mi, .inl (kmi, 12, .inl g7)), (mj, .inl (kmj, 12, .inl g5))] := hD
      refine lv_aload_n hx hb dX11_drawing_51 rfl (lv_at hl 1 rfl) ?_
      refine va_get (D := (dC, dI)) (ci := 11) (v := .ref mj) (C := RX11) (T := TX11) (N := 114) hx hb ht inX11 hown hK hP 0 rfl rfl 102 (by decide) (ht _ kw_1529) (fun _ h9 => h9) (gs_ne (by decide) (gs_ne (by decide) (gs_ne (by decide) hfm_102))) dX11_drawing_52 ?_
      refine lv_iload_n hx hb dX11_drawing_55 rfl (lv_at hl 0 rfl) ?_
      refine lv_iconst (v := (-1)) hx hb dX11_drawing_56 (by decide) ?_
      refine va_iast hx hb hK hP hD hS 2 1 rfl rfl (by unfold vp_in; decide) dX11_drawing_57 (fun H locs hP hD hS => ?_)
      generalize upd g5 (1 : Int32).toNatClampNeg (-1) = g8 at hP hD
      have hP : va_P (dC, dI) vwCl [(m0, .inr (11, (((fm.set 98 (.int 1)).set 99 (.int na)).set 100 (.int nb)))), (mi, .inl (kmi, 12, .inl g7)), (mj, .inl (kmj, 12, .inl g8))] H := hP
      have hD : va_D A [(m0, .inr (11, (((fm.set 98 (.int 1)).set 99 (.int na)).set 100 (.int nb)))), (mi, .inl (kmi, 12, .inl g7)), (mj, .inl (kmj, 12, .inl g8))] := hD
      refine lv_iinc (v := 2) (lv' := [(3, .int 2), (0, .ref m0), (1, .int na), (2, .int nb)]) hx hb dX11_drawing_58 hl (k := 0) rfl (by decide) (by decide) rfl (fun ls hl => ?_)
      refine lv_goto (tgt := 38) hx hb dX11_drawing_61 (by decide) ?_
      refine lv_iload_n hx hb dX11_drawing_38 rfl (lv_at hl 0 rfl) ?_
      refine lv_bipush (v := 12) hx hb dX11_drawing_39 (by decide) ?_
      refine lv_icmp_ge (tgt := 64) hx hb dX11_drawing_41 (by decide) (fun c9 => ?_) (fun c9 => ?_)
      · exact absurd c9 (by decide)
      refine lv_aload_n hx hb dX11_drawing_44 rfl (lv_at hl 1 rfl) ?_
      refine va_get (D := (dC, dI)) (ci := 11) (v := .ref mi) (C := RX11) (T := TX11) (N := 114) hx hb ht inX11 hown hK hP 0 rfl rfl 101 (by decide) (ht _ kw_1528) (fun _ h9 => h9) (gs_ne (by decide) (gs_ne (by decide) (gs_ne (by decide) hfm_101))) dX11_drawing_45 ?_
      refine lv_iload_n hx hb dX11_drawing_48 rfl (lv_at hl 0 rfl) ?_
      refine lv_iconst (v := (-1)) hx hb dX11_drawing_49 (by decide) ?_
      refine va_iast hx hb hK hP hD hS 1 0 rfl rfl (by unfold vp_in; decide) dX11_drawing_50 (fun H locs hP hD hS => ?_)
      generalize upd g7 (2 : Int32).toNatClampNeg (-1) = g10 at hP hD
      have hP : va_P (dC, dI) vwCl [(m0, .inr (11, (((fm.set 98 (.int 1)).set 99 (.int na)).set 100 (.int nb)))), (mi, .inl (kmi, 12, .inl g10)), (mj, .inl (kmj, 12, .inl g8))] H := hP
      have hD : va_D A [(m0, .inr (11, (((fm.set 98 (.int 1)).set 99 (.int na)).set 100 (.int nb)))), (mi, .inl (kmi, 12, .inl g10)), (mj, .inl (kmj, 12, .inl g8))] := hD
      refine lv_aload_n hx hb dX11_drawing_51 rfl (lv_at hl 1 rfl) ?_
      refine va_get (D := (dC, dI)) (ci := 11) (v := .ref mj) (C := RX11) (T := TX11) (N := 114) hx hb ht inX11 hown hK hP 0 rfl rfl 102 (by decide) (ht _ kw_1529) (fun _ h9 => h9) (gs_ne (by decide) (gs_ne (by decide) (gs_ne (by decide) hfm_102))) dX11_drawing_52 ?_
      refine lv_iload_n hx hb dX11_drawing_55 rfl (lv_at hl 0 rfl) ?_
      refine lv_iconst (v := (-1)) hx hb dX11_drawing_56 (by decide) ?_
      refine va_iast hx hb hK hP hD hS 2 1 rfl rfl (by unfold vp_in; decide) dX11_drawing_57 (fun H locs hP hD hS => ?_)
      generalize upd g8 (2 : Int32).toNatClampNeg (-1) = g11 at hP hD
      have hP : va_P (dC, dI) vwCl [(m0, .inr (11, (((fm.set 98 (.int 1)).set 99 (.int na)).set 100 (.int nb)))), (mi, .inl (kmi, 12, .inl g10)), (mj, .inl (kmj, 12, .inl g11))] H := hP
      have hD : va_D A [(m0, .inr (11, (((fm.set 98 (.int 1)).set 99 (.int na)).set 100 (.int nb)))), (mi, .inl (kmi, 12, .inl g10)), (mj, .inl (kmj, 12, .inl g11))] := hD
      refine lv_iinc (v := 3) (lv' := [(3, .int 3), (0, .ref m0), (1, .int na), (2, .int nb)]) hx hb dX11_drawing_58 hl (k := 0) rfl (by decide) (by decide) rfl (fun ls hl => ?_)
      refine lv_goto (tgt := 38) hx hb dX11_drawing_61 (by decide) ?_
      refine lv_iload_n hx hb dX11_drawing_38 rfl (lv_at hl 0 rfl) ?_
      refine lv_bipush (v := 12) hx hb dX11_drawing_39 (by decide) ?_
      refine lv_icmp_ge (tgt := 64) hx hb dX11_drawing_41 (by decide) (fun c12 => ?_) (fun c12 => ?_)
      · exact absurd c12 (by decide)
      refine lv_aload_n hx hb dX11_drawing_44 rfl (lv_at hl 1 rfl) ?_
      refine va_get (D := (dC, dI)) (ci := 11) (v := .ref mi) (C := RX11) (T := TX11) (N := 114) hx hb ht inX11 hown hK hP 0 rfl rfl 101 (by decide) (ht _ kw_1528) (fun _ h9 => h9) (gs_ne (by decide) (gs_ne (by decide) (gs_ne (by decide) hfm_101))) dX11_drawing_45 ?_
      refine lv_iload_n hx hb dX11_drawing_48 rfl (lv_at hl 0 rfl) ?_
      refine lv_iconst (v := (-1)) hx hb dX11_drawing_49 (by decide) ?_
      refine va_iast hx hb hK hP hD hS 1 0 rfl rfl (by unfold vp_in; decide) dX11_drawing_50 (fun H locs hP hD hS => ?_)
      generalize upd g10 (3 : Int32).toNatClampNeg (-1) = g13 at hP hD
      have hP : va_P (dC, dI) vwCl [(m0, .inr (11, (((fm.set 98 (.int 1)).set 99 (.int na)).set 100 (.int nb)))), (mi, .inl (kmi, 12, .inl g13)), (mj, .inl (kmj, 12, .inl g11))] H := hP
      have hD : va_D A [(m0, .inr (11, (((fm.set 98 (.int 1)).set 99 (.int na)).set 100 (.int nb)))), (mi, .inl (kmi, 12, .inl g13)), (mj, .inl (kmj, 12, .inl g11))] := hD
      refine lv_aload_n hx hb dX11_drawing_51 rfl (lv_at hl 1 rfl) ?_
      refine va_get (D := (dC, dI)) (ci := 11) (v := .ref mj) (C := RX11) (T := TX11) (N := 114) hx hb ht inX11 hown hK hP 0 rfl rfl 102 (by decide) (ht _ kw_1529) (fun _ h9 => h9) (gs_ne (by decide) (gs_ne (by decide) (gs_ne (by decide) hfm_102))) dX11_drawing_52 ?_
      refine lv_iload_n hx hb dX11_drawing_55 rfl (lv_at hl 0 rfl) ?_
      refine lv_iconst (v := (-1)) hx hb dX11_drawing_56 (by decide) ?_
      refine va_iast hx hb hK hP hD hS 2 1 rfl rfl (by unfold vp_in; decide) dX11_drawing_57 (fun H locs hP hD hS => ?_)
      generalize upd g11 (3 : Int32).toNatClampNeg (-1) = g14 at hP hD
      have hP : va_P (dC, dI) vwCl [(m0, .inr (11, (((fm.set 98 (.int 1)).set 99 (.int na)).set 100 (.int nb)))), (mi, .inl (kmi, 12, .inl g13)), (mj, .inl (kmj, 12, .inl g14))] H := hP
      have hD : va_D A [(m0, .inr (11, (((fm.set 98 (.int 1)).set 99 (.int na)).set 100 (.int nb)))), (mi, .inl (kmi, 12, .inl g13)), (mj, .inl (kmj, 12, .inl g14))] := hD
      refine lv_iinc (v := 4) (lv' := [(3, .int 4), (0, .ref m0), (1, .int na), (2, .int nb)]) hx hb dX11_drawing_58 hl (k := 0) rfl (by decide) (by decide) rfl (fun ls hl => ?_)
      refine lv_goto (tgt := 38) hx hb dX11_drawing_61 (by decide) ?_
      refine lv_iload_n hx hb dX11_drawing_38 rfl (lv_at hl 0 rfl) ?_
      refine lv_bipush (v := 12) hx hb dX11_drawing_39 (by decide) ?_
      refine lv_icmp_ge (tgt := 64) hx hb dX11_drawing_41 (by decide) (fun c15 => ?_) (fun c15 => ?_)
      · exact absurd c15 (by decide)
      refine lv_aload_n hx hb dX11_drawing_44 rfl (lv_at hl 1 rfl) ?_
      refine va_get (D := (dC, dI)) (ci := 11) (v := .ref mi) (C := RX11) (T := TX11) (N := 114) hx hb ht inX11 hown hK hP 0 rfl rfl 101 (by decide) (ht _ kw_1528) (fun _ h9 => h9) (gs_ne (by decide) (gs_ne (by decide) (gs_ne (by decide) hfm_101))) dX11_drawing_45 ?_
      refine lv_iload_n hx hb dX11_drawing_48 rfl (lv_at hl 0 rfl) ?_
      refine lv_iconst (v := (-1)) hx hb dX11_drawing_49 (by decide) ?_
      refine va_iast hx hb hK hP hD hS 1 0 rfl rfl (by unfold vp_in; decide) dX11_drawing_50 (fun H locs hP hD hS => ?_)
      generalize upd g13 (4 : Int32).toNatClampNeg (-1) = g16 at hP hD
      have hP : va_P (dC, dI) vwCl [(m0, .inr (11, (((fm.set 98 (.int 1)).set 99 (.int na)).set 100 (.int nb)))), (mi, .inl (kmi, 12, .inl g16)), (mj, .inl (kmj, 12, .inl g14))] H := hP
      have hD : va_D A [(m0, .inr (11, (((fm.set 98 (.int 1)).set 99 (.int na)).set 100 (.int nb)))), (mi, .inl (kmi, 12, .inl g16)), (mj, .inl (kmj, 12, .inl g14))] := hD
      refine lv_aload_n hx hb dX11_drawing_51 rfl (lv_at hl 1 rfl) ?_
      refine va_get (D := (dC, dI)) (ci := 11) (v := .ref mj) (C := RX11) (T := TX11) (N := 114) hx hb ht inX11 hown hK hP 0 rfl rfl 102 (by decide) (ht _ kw_1529) (fun _ h9 => h9) (gs_ne (by decide) (gs_ne (by decide) (gs_ne (by decide) hfm_102))) dX11_drawing_52 ?_
      refine lv_iload_n hx hb dX11_drawing_55 rfl (lv_at hl 0 rfl) ?_
      refine lv_iconst (v := (-1)) hx hb dX11_drawing_56 (by decide) ?_
      refine va_iast hx hb hK hP hD hS 2 1 rfl rfl (by unfold vp_in; decide) dX11_drawing_57 (fun H locs hP hD hS => ?_)
      generalize upd g14 (4 : Int32).toNatClampNeg (-1) = g17 at hP hD
      have hP : va_P (dC, dI) vwCl [(m0, .inr (11, (((fm.set 98 (.int 1)).set 99 (.int na)).set 100 (.int nb)))), (mi, .inl (kmi, 12, .inl g16)), (mj, .inl (kmj, 12, .inl g17))] H := hP
      have hD : va_D A [(m0, .inr (11, (((fm.set 98 (.int 1)).set 99 (.int na)).set 100 (.int nb)))), (mi, .inl (kmi, 12, .inl g16)), (mj, .inl (kmj, 12, .inl g17))] := hD
      refine lv_iinc (v := 5) (lv' := [(3, .int 5), (0, .ref m0), (1, .int na), (2, .int nb)]) hx hb dX11_drawing_58 hl (k := 0) rfl (by decide) (by decide) rfl (fun ls hl => ?_)
      refine lv_goto (tgt := 38) hx hb dX11_drawing_61 (by decide) ?_
      refine lv_iload_n hx hb dX11_drawing_38 rfl (lv_at hl 0 rfl) ?_
      refine lv_bipush (v := 12) hx hb dX11_drawing_39 (by decide) ?_
      refine lv_icmp_ge (tgt := 64) hx hb dX11_drawing_41 (by decide) (fun c18 => ?_) (fun c18 => ?_)
      · exact absurd c18 (by decide)
      refine lv_aload_n hx hb dX11_drawing_44 rfl (lv_at hl 1 rfl) ?_
      refine va_get (D := (dC, dI)) (ci := 11) (v := .ref mi) (C := RX11) (T := TX11) (N := 114) hx hb ht inX11 hown hK hP 0 rfl rfl 101 (by decide) (ht _ kw_1528) (fun _ h9 => h9) (gs_ne (by decide) (gs_ne (by decide) (gs_ne (by decide) hfm_101))) dX11_drawing_45 ?_
      refine lv_iload_n hx hb dX11_drawing_48 rfl (lv_at hl 0 rfl) ?_
      refine lv_iconst (v := (-1)) hx hb dX11_drawing_49 (by decide) ?_
      refine va_iast hx hb hK hP hD hS 1 0 rfl rfl (by unfold vp_in; decide) dX11_drawing_50 (fun H locs hP hD hS => ?_)
      generalize upd g16 (5 : Int32).toNatClampNeg (-1) = g19 at hP hD
      have hP : va_P (dC, dI) vwCl [(m0, .inr (11, (((fm.set 98 (.int 1)).set 99 (.int na)).set 100 (.int nb)))), (mi, .inl (kmi, 12, .inl g19)), (mj, .inl (kmj, 12, .inl g17))] H := hP
      have hD : va_D A [(m0, .inr (11, (((fm.set 98 (.int 1)).set 99 (.int na)).set 100 (.int nb)))), (mi, .inl (kmi, 12, .inl g19)), (mj, .inl (kmj, 12, .inl g17))] := hD
      refine lv_aload_n hx hb dX11_drawing_51 rfl (lv_at hl 1 rfl) ?_
      refine va_get (D := (dC, dI)) (ci := 11) (v := .ref mj) (C := RX11) (T := TX11) (N := 114) hx hb ht inX11 hown hK hP 0 rfl rfl 102 (by decide) (ht _ kw_1529) (fun _ h9 => h9) (gs_ne (by decide) (gs_ne (by decide) (gs_ne (by decide) hfm_102))) dX11_drawing_52 ?_
      refine lv_iload_n hx hb dX11_drawing_55 rfl (lv_at hl 0 rfl) ?_
      refine lv_iconst (v := (-1)) hx hb dX11_drawing_56 (by decide) ?_
      refine va_iast hx hb hK hP hD hS 2 1 rfl rfl (by unfold vp_in; decide) dX11_drawing_57 (fun H locs hP hD hS => ?_)
      generalize upd g17 (5 : Int32).toNatClampNeg (-1) = g20 at hP hD
      have hP : va_P (dC, dI) vwCl [(m0, .inr (11, (((fm.set 98 (.int 1)).set 99 (.int na)).set 100 (.int nb)))), (mi, .inl (kmi, 12, .inl g19)), (mj, .inl (kmj, 12, .inl g20))] H := hP
      have hD : va_D A [(m0, .inr (11, (((fm.set 98 (.int 1)).set 99 (.int na)).set 100 (.int nb)))), (mi, .inl (kmi, 12, .inl g19)), (mj, .inl (kmj, 12, .inl g20))] := hD
      refine lv_iinc (v := 6) (lv' := [(3, .int 6), (0, .ref m0), (1, .int na), (2, .int nb)]) hx hb dX11_drawing_58 hl (k := 0) rfl (by decide) (by decide) rfl (fun ls hl => ?_)
      refine lv_goto (tgt := 38) hx hb dX11_drawing_61 (by decide) ?_
      refine lv_iload_n hx hb dX11_drawing_38 rfl (lv_at hl 0 rfl) ?_
      refine lv_bipush (v := 12) hx hb dX11_drawing_39 (by decide) ?_
      refine lv_icmp_ge (tgt := 64) hx hb dX11_drawing_41 (by decide) (fun c21 => ?_) (fun c21 => ?_)
      · exact absurd c21 (by decide)
      refine lv_aload_n hx hb dX11_drawing_44 rfl (lv_at hl 1 rfl) ?_
      refine va_get (D := (dC, dI)) (ci := 11) (v := .ref mi) (C := RX11) (T := TX11) (N := 114) hx hb ht inX11 hown hK hP 0 rfl rfl 101 (by decide) (ht _ kw_1528) (fun _ h9 => h9) (gs_ne (by decide) (gs_ne (by decide) (gs_ne (by decide) hfm_101))) dX11_drawing_45 ?_
      refine lv_iload_n hx hb dX11_drawing_48 rfl (lv_at hl 0 rfl) ?_
      refine lv_iconst (v := (-1)) hx hb dX11_drawing_49 (by decide) ?_
      refine va_iast hx hb hK hP hD hS 1 0 rfl rfl (by unfold vp_in; decide) dX11_drawing_50 (fun H locs hP hD hS => ?_)
      generalize upd g19 (6 : Int32).toNatClampNeg (-1) = g22 at hP hD
      have hP : va_P (dC, dI) vwCl [(m0, .inr (11, (((fm.set 98 (.int 1)).set 99 (.int na)).set 100 (.int nb)))), (mi, .inl (kmi, 12, .inl g22)), (mj, .inl (kmj, 12, .inl g20))] H := hP
      have hD : va_D A [(m0, .inr (11, (((fm.set 98 (.int 1)).set 99 (.int na)).set 100 (.int nb)))), (mi, .inl (kmi, 12, .inl g22)), (mj, .inl (kmj, 12, .inl g20))] := hD
      refine lv_aload_n hx hb dX11_drawing_51 rfl (lv_at hl 1 rfl) ?_
      refine va_get (D := (dC, dI)) (ci := 11) (v := .ref mj) (C := RX11) (T := TX11) (N := 114) hx hb ht inX11 hown hK hP 0 rfl rfl 102 (by decide) (ht _ kw_1529) (fun _ h9 => h9) (gs_ne (by decide) (gs_ne (by decide) (gs_ne (by decide) hfm_102))) dX11_drawing_52 ?_
      refine lv_iload_n hx hb dX11_drawing_55 rfl (lv_at hl 0 rfl) ?_
      refine lv_iconst (v := (-1)) hx hb dX11_drawing_56 (by decide) ?_
      refine va_iast hx hb hK hP hD hS 2 1 rfl rfl (by unfold vp_in; decide) dX11_drawing_57 (fun H locs hP hD hS => ?_)
      generalize upd g20 (6 : Int32).toNatClampNeg (-1) = g23 at hP hD
      have hP : va_P (dC, dI) vwCl [(m0, .inr (11, (((fm.set 98 (.int 1)).set 99 (.int na)).set 100 (.int nb)))), (mi, .inl (kmi, 12, .inl g22)), (mj, .inl (kmj, 12, .inl g23))] H := hP
      have hD : va_D A [(m0, .inr (11, (((fm.set 98 (.int 1)).set 99 (.int na)).set 100 (.int nb)))), (mi, .inl (kmi, 12, .inl g22)), (mj, .inl (kmj, 12, .inl g23))] := hD
      refine lv_iinc (v := 7) (lv' := [(3, .int 7), (0, .ref m0), (1, .int na), (2, .int nb)]) hx hb dX11_drawing_58 hl (k := 0) rfl (by decide) (by decide) rfl (fun ls hl => ?_)
      refine lv_goto (tgt := 38) hx hb dX11_drawing_61 (by decide) ?_
      refine lv_iload_n hx hb dX11_drawing_38 rfl (lv_at hl 0 rfl) ?_
      refine lv_bipush (v := 12) hx hb dX11_drawing_39 (by decide) ?_
      refine lv_icmp_ge (tgt := 64) hx hb dX11_drawing_41 (by decide) (fun c24 => ?_) (fun c24 => ?_)
      · exact absurd c24 (by decide)
      refine lv_aload_n hx hb dX11_drawing_44 rfl (lv_at hl 1 rfl) ?_
      refine va_get (D := (dC, dI)) (ci := 11) (v := .ref mi) (C := RX11) (T := TX11) (N := 114) hx hb ht inX11 hown hK hP 0 rfl rfl 101 (by decide) (ht _ kw_1528) (fun _ h9 => h9) (gs_ne (by decide) (gs_ne (by decide) (gs_ne (by decide) hfm_101))) dX11_drawing_45 ?_
      refine lv_iload_n hx hb dX11_drawing_48 rfl (lv_at hl 0 rfl) ?_
      refine lv_iconst (v := (-1)) hx hb dX11_drawing_49 (by decide) ?_
      refine va_iast hx hb hK hP hD hS 1 0 rfl rfl (by unfold vp_in; decide) dX11_drawing_50 (fun H locs hP hD hS => ?_)
      generalize upd g22 (7 : Int32).toNatClampNeg (-1) = g25 at hP hD
      have hP : va_P (dC, dI) vwCl [(m0, .inr (11, (((fm.set 98 (.int 1)).set 99 (.int na)).set 100 (.int nb)))), (mi, .inl (kmi, 12, .inl g25)), (mj, .inl (kmj, 12, .inl g23))] H := hP
      have hD : va_D A [(m0, .inr (11, (((fm.set 98 (.int 1)).set 99 (.int na)).set 100 (.int nb)))), (mi, .inl (kmi, 12, .inl g25)), (mj, .inl (kmj, 12, .inl g23))] := hD
      refine lv_aload_n hx hb dX11_drawing_51 rfl (lv_at hl 1 rfl) ?_
      refine va_get (D := (dC, dI)) (ci := 11) (v := .ref mj) (C := RX11) (T := TX11) (N := 114) hx hb ht inX11 hown hK hP 0 rfl rfl 102 (by decide) (ht _ kw_1529) (fun _ h9 => h9) (gs_ne (by decide) (gs_ne (by decide) (gs_ne (by decide) hfm_102))) dX11_drawing_52 ?_
      refine lv_iload_n hx hb dX11_drawing_55 rfl (lv_at hl 0 rfl) ?_
      refine lv_iconst (v := (-1)) hx hb dX11_drawing_56 (by decide) ?_
      refine va_iast hx hb hK hP hD hS 2 1 rfl rfl (by unfold vp_in; decide) dX11_drawing_57 (fun H locs hP hD hS => ?_)
      generalize upd g23 (7 : Int32).toNatClampNeg (-1) = g26 at hP hD
      have hP : va_P (dC, dI) vwCl [(m0, .inr (11, (((fm.set 98 (.int 1)).set 99 (.int na)).set 100 (.int nb)))), (mi, .inl (kmi, 12, .inl g25)), (mj, .inl (kmj, 12, .inl g26))] H := hP
      have hD : va_D A [(m0, .inr (11, (((fm.set 98 (.int 1)).set 99 (.int na)).set 100 (.int nb)))), (mi, .inl (kmi, 12, .inl g25)), (mj, .inl (kmj, 12, .inl g26))] := hD
      refine lv_iinc (v := 8) (lv' := [(3, .int 8), (0, .ref m0), (1, .int na), (2, .int nb)]) hx hb dX11_drawing_58 hl (k := 0) rfl (by decide) (by decide) rfl (fun ls hl => ?_)
      refine lv_goto (tgt := 38) hx hb dX11_drawing_61 (by decide) ?_
      refine lv_iload_n hx hb dX11_drawing_38 rfl (lv_at hl 0 rfl) ?_
      refine lv_bipush (v := 12) hx hb dX11_drawing_39 (by decide) ?_
      refine lv_icmp_ge (tgt := 64) hx hb dX11_drawing_41 (by decide) (fun c27 => ?_) (fun c27 => ?_)
      · exact absurd c27 (by decide)
      refine lv_aload_n hx hb dX11_drawing_44 rfl (lv_at hl 1 rfl) ?_
      refine va_get (D := (dC, dI)) (ci := 11) (v := .ref mi) (C := RX11) (T := TX11) (N := 114) hx hb ht inX11 hown hK hP 0 rfl rfl 101 (by decide) (ht _ kw_1528) (fun _ h9 => h9) (gs_ne (by decide) (gs_ne (by decide) (gs_ne (by decide) hfm_101))) dX11_drawing_45 ?_
      refine lv_iload_n hx hb dX11_drawing_48 rfl (lv_at hl 0 rfl) ?_
      refine lv_iconst (v := (-1)) hx hb dX11_drawing_49 (by decide) ?_
      refine va_iast hx hb hK hP hD hS 1 0 rfl rfl (by unfold vp_in; decide) dX11_drawing_50 (fun H locs hP hD hS => ?_)
      generalize upd g25 (8 : Int32).toNatClampNeg (-1) = g28 at hP hD
      have hP : va_P (dC, dI) vwCl [(m0, .inr (11, (((fm.set 98 (.int 1)).set 99 (.int na)).set 100 (.int nb)))), (mi, .inl (kmi, 12, .inl g28)), (mj, .inl (kmj, 12, .inl g26))] H := hP
      have hD : va_D A [(m0, .inr (11, (((fm.set 98 (.int 1)).set 99 (.int na)).set 100 (.int nb)))), (mi, .inl (kmi, 12, .inl g28)), (mj, .inl (kmj, 12, .inl g26))] := hD
      refine lv_aload_n hx hb dX11_drawing_51 rfl (lv_at hl 1 rfl) ?_
      refine va_get (D := (dC, dI)) (ci := 11) (v := .ref mj) (C := RX11) (T := TX11) (N := 114) hx hb ht inX11 hown hK hP 0 rfl rfl 102 (by decide) (ht _ kw_1529) (fun _ h9 => h9) (gs_ne (by decide) (gs_ne (by decide) (gs_ne (by decide) hfm_102))) dX11_drawing_52 ?_
      refine lv_iload_n hx hb dX11_drawing_55 rfl (lv_at hl 0 rfl) ?_
      refine lv_iconst (v := (-1)) hx hb dX11_drawing_56 (by decide) ?_
      refine va_iast hx hb hK hP hD hS 2 1 rfl rfl (by unfold vp_in; decide) dX11_drawing_57 (fun H locs hP hD hS => ?_)
      generalize upd g26 (8 : Int32).toNatClampNeg (-1) = g29 at hP hD
      have hP : va_P (dC, dI) vwCl [(m0, .inr (11, (((fm.set 98 (.int 1)).set 99 (.int na)).set 100 (.int nb)))), (mi, .inl (kmi, 12, .inl g28)), (mj, .inl (kmj, 12, .inl g29))] H := hP
      have hD : va_D A [(m0, .inr (11, (((fm.set 98 (.int 1)).set 99 (.int na)).set 100 (.int nb)))), (mi, .inl (kmi, 12, .inl g28)), (mj, .inl (kmj, 12, .inl g29))] := hD
      refine lv_iinc (v := 9) (lv' := [(3, .int 9), (0, .ref m0), (1, .int na), (2, .int nb)]) hx hb dX11_drawing_58 hl (k := 0) rfl (by decide) (by decide) rfl (fun ls hl => ?_)
      refine lv_goto (tgt := 38) hx hb dX11_drawing_61 (by decide) ?_
      refine lv_iload_n hx hb dX11_drawing_38 rfl (lv_at hl 0 rfl) ?_
      refine lv_bipush (v := 12) hx hb dX11_drawing_39 (by decide) ?_
      refine lv_icmp_ge (tgt := 64) hx hb dX11_drawing_41 (by decide) (fun c30 => ?_) (fun c30 => ?_)
      · exact absurd c30 (by decide)
      refine lv_aload_n hx hb dX11_drawing_44 rfl (lv_at hl 1 rfl) ?_
      refine va_get (D := (dC, dI)) (ci := 11) (v := .ref mi) (C := RX11) (T := TX11) (N := 114) hx hb ht inX11 hown hK hP 0 rfl rfl 101 (by decide) (ht _ kw_1528) (fun _ h9 => h9) (gs_ne (by decide) (gs_ne (by decide) (gs_ne (by decide) hfm_101))) dX11_drawing_45 ?_
      refine lv_iload_n hx hb dX11_drawing_48 rfl (lv_at hl 0 rfl) ?_
      refine lv_iconst (v := (-1)) hx hb dX11_drawing_49 (by decide) ?_
      refine va_iast hx hb hK hP hD hS 1 0 rfl rfl (by unfold vp_in; decide) dX11_drawing_50 (fun H locs hP hD hS => ?_)
      generalize upd g28 (9 : Int32).toNatClampNeg (-1) = g31 at hP hD
      have hP : va_P (dC, dI) vwCl [(m0, .inr (11, (((fm.set 98 (.int 1)).set 99 (.int na)).set 100 (.int nb)))), (mi, .inl (kmi, 12, .inl g31)), (mj, .inl (kmj, 12, .inl g29))] H := hP
      have hD : va_D A [(m0, .inr (11, (((fm.set 98 (.int 1)).set 99 (.int na)).set 100 (.int nb)))), (mi, .inl (kmi, 12, .inl g31)), (mj, .inl (kmj, 12, .inl g29))] := hD
      refine lv_aload_n hx hb dX11_drawing_51 rfl (lv_at hl 1 rfl) ?_
      refine va_get (D := (dC, dI)) (ci := 11) (v := .ref mj) (C := RX11) (T := TX11) (N := 114) hx hb ht inX11 hown hK hP 0 rfl rfl 102 (by decide) (ht _ kw_1529) (fun _ h9 => h9) (gs_ne (by decide) (gs_ne (by decide) (gs_ne (by decide) hfm_102))) dX11_drawing_52 ?_
      refine lv_iload_n hx hb dX11_drawing_55 rfl (lv_at hl 0 rfl) ?_
      refine lv_iconst (v := (-1)) hx hb dX11_drawing_56 (by decide) ?_
      refine va_iast hx hb hK hP hD hS 2 1 rfl rfl (by unfold vp_in; decide) dX11_drawing_57 (fun H locs hP hD hS => ?_)
      generalize upd g29 (9 : Int32).toNatClampNeg (-1) = g32 at hP hD
      have hP : va_P (dC, dI) vwCl [(m0, .inr (11, (((fm.set 98 (.int 1)).set 99 (.int na)).set 100 (.int nb)))), (mi, .inl (kmi, 12, .inl g31)), (mj, .inl (kmj, 12, .inl g32))] H := hP
      have hD : va_D A [(m0, .inr (11, (((fm.set 98 (.int 1)).set 99 (.int na)).set 100 (.int nb)))), (mi, .inl (kmi, 12, .inl g31)), (mj, .inl (kmj, 12, .inl g32))] := hD
      refine lv_iinc (v := 10) (lv' := [(3, .int 10), (0, .ref m0), (1, .int na), (2, .int nb)]) hx hb dX11_drawing_58 hl (k := 0) rfl (by decide) (by decide) rfl (fun ls hl => ?_)
      refine lv_goto (tgt := 38) hx hb dX11_drawing_61 (by decide) ?_
      refine lv_iload_n hx hb dX11_drawing_38 rfl (lv_at hl 0 rfl) ?_
      refine lv_bipush (v := 12) hx hb dX11_drawing_39 (by decide) ?_
      refine lv_icmp_ge (tgt := 64) hx hb dX11_drawing_41 (by decide) (fun c33 => ?_) (fun c33 => ?_)
      · exact absurd c33 (by decide)
      refine lv_aload_n hx hb dX11_drawing_44 rfl (lv_at hl 1 rfl) ?_
      refine va_get (D := (dC, dI)) (ci := 11) (v := .ref mi) (C := RX11) (T := TX11) (N := 114) hx hb ht inX11 hown hK hP 0 rfl rfl 101 (by decide) (ht _ kw_1528) (fun _ h9 => h9) (gs_ne (by decide) (gs_ne (by decide) (gs_ne (by decide) hfm_101))) dX11_drawing_45 ?_
      refine lv_iload_n hx hb dX11_drawing_48 rfl (lv_at hl 0 rfl) ?_
      refine lv_iconst (v := (-1)) hx hb dX11_drawing_49 (by decide) ?_
      refine va_iast hx hb hK hP hD hS 1 0 rfl rfl (by unfold vp_in; decide) dX11_drawing_50 (fun H locs hP hD hS => ?_)
      generalize upd g31 (10 : Int32).toNatClampNeg (-1) = g34 at hP hD
      have hP : va_P (dC, dI) vwCl [(m0, .inr (11, (((fm.set 98 (.int 1)).set 99 (.int na)).set 100 (.int nb)))), (mi, .inl (kmi, 12, .inl g34)), (mj, .inl (kmj, 12, .inl g32))] H := hP
      have hD : va_D A [(m0, .inr (11, (((fm.set 98 (.int 1)).set 99 (.int na)).set 100 (.int nb)))), (mi, .inl (kmi, 12, .inl g34)), (mj, .inl (kmj, 12, .inl g32))] := hD
      refine lv_aload_n hx hb dX11_drawing_51 rfl (lv_at hl 1 rfl) ?_
      refine va_get (D := (dC, dI)) (ci := 11) (v := .ref mj) (C := RX11) (T := TX11) (N := 114) hx hb ht inX11 hown hK hP 0 rfl rfl 102 (by decide) (ht _ kw_1529) (fun _ h9 => h9) (gs_ne (by decide) (gs_ne (by decide) (gs_ne (by decide) hfm_102))) dX11_drawing_52 ?_
      refine lv_iload_n hx hb dX11_drawing_55 rfl (lv_at hl 0 rfl) ?_
      refine lv_iconst (v := (-1)) hx hb dX11_drawing_56 (by decide) ?_
      refine va_iast hx hb hK hP hD hS 2 1 rfl rfl (by unfold vp_in; decide) dX11_drawing_57 (fun H locs hP hD hS => ?_)
      generalize upd g32 (10 : Int32).toNatClampNeg (-1) = g35 at hP hD
      have hP : va_P (dC, dI) vwCl [(m0, .inr (11, (((fm.set 98 (.int 1)).set 99 (.int na)).set 100 (.int nb)))), (mi, .inl (kmi, 12, .inl g34)), (mj, .inl (kmj, 12, .inl g35))] H := hP
      have hD : va_D A [(m0, .inr (11, (((fm.set 98 (.int 1)).set 99 (.int na)).set 100 (.int nb)))), (mi, .inl (kmi, 12, .inl g34)), (mj, .inl (kmj, 12, .inl g35))] := hD
      refine lv_iinc (v := 11) (lv' := [(3, .int 11), (0, .ref m0), (1, .int na), (2, .int nb)]) hx hb dX11_drawing_58 hl (k := 0) rfl (by decide) (by decide) rfl (fun ls hl => ?_)
      refine lv_goto (tgt := 38) hx hb dX11_drawing_61 (by decide) ?_
      refine lv_iload_n hx hb dX11_drawing_38 rfl (lv_at hl 0 rfl) ?_
      refine lv_bipush (v := 12) hx hb dX11_drawing_39 (by decide) ?_
      refine lv_icmp_ge (tgt := 64) hx hb dX11_drawing_41 (by decide) (fun c36 => ?_) (fun c36 => ?_)
      · exact absurd c36 (by decide)
      refine lv_aload_n hx hb dX11_drawing_44 rfl (lv_at hl 1 rfl) ?_
      refine va_get (D := (dC, dI)) (ci := 11) (v := .ref mi) (C := RX11) (T := TX11) (N := 114) hx hb ht inX11 hown hK hP 0 rfl rfl 101 (by decide) (ht _ kw_1528) (fun _ h9 => h9) (gs_ne (by decide) (gs_ne (by decide) (gs_ne (by decide) hfm_101))) dX11_drawing_45 ?_
      refine lv_iload_n hx hb dX11_drawing_48 rfl (lv_at hl 0 rfl) ?_
      refine lv_iconst (v := (-1)) hx hb dX11_drawing_49 (by decide) ?_
      refine va_iast hx hb hK hP hD hS 1 0 rfl rfl (by unfold vp_in; decide) dX11_drawing_50 (fun H locs hP hD hS => ?_)
      generalize upd g34 (11 : Int32).toNatClampNeg (-1) = g37 at hP hD
      have hP : va_P (dC, dI) vwCl [(m0, .inr (11, (((fm.set 98 (.int 1)).set 99 (.int na)).set 100 (.int nb)))), (mi, .inl (kmi, 12, .inl g37)), (mj, .inl (kmj, 12, .inl g35))] H := hP
      have hD : va_D A [(m0, .inr (11, (((fm.set 98 (.int 1)).set 99 (.int na)).set 100 (.int nb)))), (mi, .inl (kmi, 12, .inl g37)), (mj, .inl (kmj, 12, .inl g35))] := hD
      refine lv_aload_n hx hb dX11_drawing_51 rfl (lv_at hl 1 rfl) ?_
      refine va_get (D := (dC, dI)) (ci := 11) (v := .ref mj) (C := RX11) (T := TX11) (N := 114) hx hb ht inX11 hown hK hP 0 rfl rfl 102 (by decide) (ht _ kw_1529) (fun _ h9 => h9) (gs_ne (by decide) (gs_ne (by decide) (gs_ne (by decide) hfm_102))) dX11_drawing_52 ?_
      refine lv_iload_n hx hb dX11_drawing_55 rfl (lv_at hl 0 rfl) ?_
      refine lv_iconst (v := (-1)) hx hb dX11_drawing_56 (by decide) ?_
      refine va_iast hx hb hK hP hD hS 2 1 rfl rfl (by unfold vp_in; decide) dX11_drawing_57 (fun H locs hP hD hS => ?_)
      generalize upd g35 (11 : Int32).toNatClampNeg (-1) = g38 at hP hD
      have hP : va_P (dC, dI) vwCl [(m0, .inr (11, (((fm.set 98 (.int 1)).set 99 (.int na)).set 100 (.int nb)))), (mi, .inl (kmi, 12, .inl g37)), (mj, .inl (kmj, 12, .inl g38))] H := hP
      have hD : va_D A [(m0, .inr (11, (((fm.set 98 (.int 1)).set 99 (.int na)).set 100 (.int nb)))), (mi, .inl (kmi, 12, .inl g37)), (mj, .inl (kmj, 12, .inl g38))] := hD
      refine lv_iinc (v := 12) (lv' := [(3, .int 12), (0, .ref m0), (1, .int na), (2, .int nb)]) hx hb dX11_drawing_58 hl (k := 0) rfl (by decide) (by decide) rfl (fun ls hl => ?_)
      refine lv_goto (tgt := 38) hx hb dX11_drawing_61 (by decide) ?_
      refine lv_iload_n hx hb dX11_drawing_38 rfl (lv_at hl 0 rfl) ?_
      refine lv_bipush (v := 12) hx hb dX11_drawing_39 (by decide) ?_
      refine lv_icmp_ge (tgt := 64) hx hb dX11_drawing_41 (by decide) (fun c39 => ?_) (fun c39 => ?_)
      rotate_left
      · exact absurd (by decide) c39
      refine lv_iconst (v := 1) hx hb dX11_drawing_64 (by decide) ?_
      exact W.iret hx hb hr (fun t ht9 hW => ⟨⟨_, (), rfl, (by unfold sp_X11_drawing; rw [if_neg c1, if_neg c2]), trivial⟩, hS.F ht9⟩) hS.2.2 dX11_drawing_65
    · refine lv_bipush (v := (-3)) hx hb dX11_drawing_18 (by decide) ?_
      exact W.iret hx hb hr (fun t ht9 hW => ⟨⟨_, (), rfl, (by unfold sp_X11_drawing; rw [if_neg c1, if_pos c2]), trivial⟩, hS.F ht9⟩) hS.2.2 dX11_drawing_20
