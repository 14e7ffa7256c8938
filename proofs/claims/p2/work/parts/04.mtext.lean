abbrev cX11_wipe : ByteArray := prog_13_method_7_code
def yX11_wipe : MethodName := ⟨RX11, "wipe", "()I"⟩
theorem dX11_wipe_0 : decode cX11_wipe 0 = .ok (.aload_n 0, 1) := by decide +kernel
theorem dX11_wipe_1 : decode cX11_wipe 1 = .ok (.getfield 252, 3) := by decide +kernel
theorem dX11_wipe_4 : decode cX11_wipe 4 = .ok (.istore_n 1, 1) := by decide +kernel
theorem dX11_wipe_5 : decode cX11_wipe 5 = .ok (.aload_n 0, 1) := by decide +kernel
theorem dX11_wipe_6 : decode cX11_wipe 6 = .ok (.iconst 0, 1) := by decide +kernel
theorem dX11_wipe_7 : decode cX11_wipe 7 = .ok (.putfield 252, 3) := by decide +kernel
theorem dX11_wipe_10 : decode cX11_wipe 10 = .ok (.iload_n 1, 1) := by decide +kernel
theorem dX11_wipe_11 : decode cX11_wipe 11 = .ok (.ireturn, 1) := by decide +kernel
theorem kw_1428 : Cond.fieldLink RX11 252 "SportsHouseModel" "length" "I" ∈ lw_g := lw_at 1428 (by decide +kernel) rfl
/-- what a method of the reference leaves: an answer, and the state behind it -/
abbrev mt_Q (dC : Nat → ClassId) (dI : Nat → Nat → Nat) (m0 : Nat) (ad : Nat → Nat) (cI cZ : ClassId) (post : Int32 → (Nat → Int32) × (Nat → Nat → Int32) → Prop) (A : Nat → Prop) : Array Value → State → Outcome → State → Prop := va_Qi post (fun u t => va_P (dC, dI) vwCl (mw_s m0 ad cI cZ u.1 u.2) t.heap ∧ va_K (dC, dI) vwCl [(cI, .int), (cZ, .boolean)] t ∧ va_D A (mw_s m0 ad cI cZ u.1 u.2)) A
set_option maxHeartbeats 4000000 in
set_option maxRecDepth 100000 in
/-- wipe, in any state -/
theorem mt_wipe (l : Launch) (dC : Nat → ClassId) (dI : Nat → Nat → Nat) (m0 : Nat) (ad : Nat → Nat) (cI cZ : ClassId) (F : Nat → Int32) (G : Nat → Nat → Int32) (sz : Nat) : Met l yX11_wipe (.code yX11_wipe cX11_wipe 2 (some .int) :: lw_g) ({ frames := 0, cells := 0, slots := 0, locals := 0 }) (ro_P dC dI (mw_s m0 ad cI cZ F G) [(cI, .int), (cZ, .boolean)] sz [.ref m0]) (mt_Q dC dI m0 ad cI cZ (fun r u => r = F 1 ∧ u = (mf_u F 1 0, G)) (va_A (mw_s m0 ad cI cZ F G) sz)) 0 0 (va_A (mw_s m0 ad cI cZ F G) sz) := by
  refine ro_entry (by decide) (Nat.le_of_ble_eq_true rfl) ?_
  intro p e s m below meth c ls hx hb hr hlocks ht hown hin hml hsz hP hK hD hE hl
  subst hsz
  have hD := hD.self (sz := s.heap.size)
  generalize hAe : va_A (mw_s m0 ad cI cZ F G) s.heap.size = A at hD ⊢
  have hA : ∀ q, s.heap.size ≤ q → A q := fun q h => by rw [← hAe]; exact Or.inr h
  have hS : va_S A s.heap s.heap [] := va_S.rf
  have hl : lv_has ls 2 [(0, .ref m0)] := hl
  have hown : s.vm.findClass RX11 = some m.cls := hown
  refine lv_aload_n hx hb dX11_wipe_0 rfl (lv_at hl 0 rfl) ?_
  refine mr_get hx hb ht hown hK hP 1 (by decide) fx_1 (ht _ kw_1428) mf_i1 dX11_wipe_1 ?_
  refine lv_istore_n (lv' := [(1, .int (F 1)), (0, .ref m0)]) hx hb dX11_wipe_4 rfl hl (by decide) rfl (fun ls hl => ?_)
  refine lv_aload_n hx hb dX11_wipe_5 rfl (lv_at hl 1 rfl) ?_
  refine lv_iconst (v := 0) hx hb dX11_wipe_6 (by decide) ?_
  refine mr_put hx hb ht hown hK hP hD hS 1 (by decide) fx_1 (ht _ kw_1428) mf_p1 pd_I rfl rfl dX11_wipe_7 (fun H locs hP hD hS => ?_)
  refine lv_iload_n hx hb dX11_wipe_10 rfl (lv_at hl 0 rfl) ?_
  exact W.iret hx hb hr (fun t ht9 hW => ⟨⟨_, (mf_u F 1 0, G), rfl, ⟨rfl, rfl⟩, by rw [ht9]; exact hP, va_K.moved hW.alike hK, hD⟩, hS.F ht9⟩) hS.2.2 dX11_wipe_11
