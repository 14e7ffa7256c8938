abbrev cX11_init : ByteArray := prog_13_method_1_code
def yX11_init : MethodName := ⟨RX11, "<init>", "()V"⟩
set_option maxRecDepth 100000 in
set_option maxHeartbeats 4000000 in
theorem kw_1425 : Cond.code yX11_init cX11_init 1 none ∈ lw_g := lw_at 1425 rfl rfl
theorem kw_1426 : Cond.methodLink RX11 1 objectInit ∈ lw_g := lwq_6 (dqc_m (dqc_m (dqc_m (dqc_m (dqc_m (dqc_m (dqc_m (List.mem_of_getElem? (i := 2) rfl)))))))) rfl
theorem kw_1770 : Cond.arrayClass .boolean ∈ lw_g := lwq_8 (dqc_m (dqc_m (dqa_m (dqa_m (dqa_m (List.mem_of_getElem? (i := 2) rfl)))))) rfl
theorem dX11_init_0 : decode cX11_init 0 = .ok (.aload_n 0, 1) := qd_c (by decide +kernel)
theorem dX11_init_1 : decode cX11_init 1 = .ok (.invokespecial 1, 3) := qd_c (by decide +kernel)
theorem dX11_init_1689 : decode cX11_init 1689 = .ok (.return_, 1) := qd_c (by decide +kernel)
def ms_0 : List Ms := [(0, 7, .inr (false, 400, [])), (2, 13, .inl (-1)), (4, 17, .inr (false, 23, [])), (5, 20, .inr (false, 92, [])), (7, 23, .inr (false, 48, [])), (8, 26, .inr (false, 4, [])), (9, 29, .inr (true, 4, [])), (10, 33, .inr (false, 4, [])), (11, 36, .inr (false, 4, [])), (13, 39, .inr (false, 12, [])), (14, 42, .inr (false, 12, [])), (17, 45, .inr (false, 300, [])), (18, 48, .inr (false, 300, [])), (19, 51, .inr (false, 300, [])), (20, 54, .inr (false, 300, [])), (22, 57, .inr (false, 8, [])), (23, 60, .inr (false, 8, [])), (25, 63, .inr (false, 50, [])), (26, 66, .inr (false, 50, [])), (27, 69, .inr (false, 50, [])), (28, 72, .inr (false, 50, [])), (30, 75, .inr (false, 400, [])), (31, 78, .inr (false, 400, [])), (32, 81, .inr (false, 400, []))]
set_option maxRecDepth 100000 in
theorem sm_0 : sts_ cX11_init 4 ms_0 = some 197 := (sts2_e _ _ _).symm.trans (by decide +kernel)
def ms_1 : List Ms := [(33, 84, .inr (false, 400, [])), (34, 87, .inr (false, 400, [])), (35, 90, .inr (false, 400, [])), (36, 93, .inr (false, 400, [])), (37, 96, .inr (false, 400, [])), (38, 99, .inr (false, 400, [])), (39, 102, .inr (false, 800, [])), (40, 105, .inr (false, 8000, [])), (41, 108, .inr (false, 8000, [])), (42, 111, .inr (false, 8000, [])), (43, 114, .inr (true, 8000, [])), (44, 117, .inr (false, 800, [])), (45, 120, .inr (false, 4800, [])), (46, 123, .inr (false, 3200, [])), (48, 126, .inr (false, 3000, [])), (49, 129, .inr (false, 3000, [])), (50, 132, .inr (false, 3000, [])), (51, 135, .inr (false, 3000, [])), (52, 138, .inr (false, 3000, [])), (53, 141, .inr (false, 400, [])), (54, 144, .inr (false, 400, [])), (55, 147, .inr (false, 400, [])), (56, 150, .inr (false, 400, []))]
set_option maxRecDepth 100000 in
theorem sm_1 : sts_ cX11_init 197 ms_1 = some 404 := (sts2_e _ _ _).symm.trans (by decide +kernel)
def ms_2 : List Ms := [(64, 153, .inr (false, 82, [115, 112, 111, 114, 116, 32, 112, 111, 105, 110, 116, 115, 32, 111, 114, 100, 101, 114, 32, 114, 101, 100, 111, 32, 108, 101, 103, 115, 32, 101, 118, 101, 114, 121, 32, 114, 101, 115, 116, 32, 102, 105, 101, 108, 100, 32, 115, 117, 98, 115, 32, 116, 97, 114, 103, 101, 116, 32, 119, 97, 108, 107, 111, 118, 101, 114, 32, 99, 97, 114, 100, 115, 32, 114, 101, 100, 32, 115, 101, 101, 100, 32]))]
set_option maxRecDepth 100000 in
theorem sm_2 : sts_ cX11_init 404 ms_2 = some 898 := (sts2_e _ _ _).symm.trans (by decide +kernel)
def ms_3 : List Ms := [(65, 156, .inr (false, 36, [102, 111, 111, 116, 98, 97, 108, 108, 32, 118, 111, 108, 108, 101, 121, 98, 97, 108, 108, 32, 116, 101, 110, 110, 105, 115, 32, 98, 97, 115, 101, 98, 97, 108, 108, 32]))]
set_option maxRecDepth 100000 in
theorem sm_3 : sts_ cX11_init 898 ms_3 = some 1116 := (sts2_e _ _ _).symm.trans (by decide +kernel)
def ms_4 : List Ms := [(66, 159, .inr (false, 37, [100, 105, 102, 102, 32, 115, 99, 111, 114, 101, 100, 32, 119, 105, 110, 115, 32, 97, 119, 97, 121, 32, 104, 101, 97, 100, 32, 102, 97, 105, 114, 32, 108, 111, 116, 115, 32]))]
set_option maxRecDepth 100000 in
theorem sm_4 : sts_ cX11_init 1116 ms_4 = some 1340 := (sts2_e _ _ _).symm.trans (by decide +kernel)
def ms_5 : List Ms := [(67, 162, .inr (false, 10, [1, 1, 1, 1, 0, 2, 1, 1, 1, 0])), (68, 165, .inr (false, 10, [4, 30, 9, 6, 5, 25, 9, 9, 9, 999])), (69, 168, .inr (true, 14, [])), (70, 171, .inr (true, 7, []))]
set_option maxRecDepth 100000 in
theorem sm_5 : sts_ cX11_init 1340 ms_5 = some 1469 := (sts2_e _ _ _).symm.trans (by decide +kernel)
def ms_6 : List Ms := [(71, 174, .inr (false, 400, [])), (72, 177, .inr (false, 400, [])), (74, 180, .inr (false, 400, [])), (76, 183, .inr (false, 108, [])), (77, 186, .inr (false, 12, [])), (78, 189, .inr (false, 12, [])), (81, 192, .inr (false, 400, [])), (84, 195, .inr (false, 36, [])), (86, 198, .inr (false, 120, [])), (88, 201, .inl (-1)), (89, 204, .inr (false, 400, [])), (91, 207, .inr (false, 12, [])), (92, 210, .inr (false, 12, [])), (93, 213, .inr (false, 12, [])), (94, 216, .inr (false, 144, [])), (96, 219, .inr (false, 4096, [])), (97, 222, .inr (false, 400, [])), (101, 225, .inr (false, 12, [])), (102, 228, .inr (false, 12, [])), (104, 231, .inr (false, 12, [])), (105, 234, .inr (false, 12, [])), (106, 237, .inr (false, 400, [])), (108, 240, .inr (false, 8, [])), (109, 243, .inr (false, 8, []))]
set_option maxRecDepth 100000 in
theorem sm_6 : sts_ cX11_init 1469 ms_6 = some 1667 := (sts2_e _ _ _).symm.trans (by decide +kernel)
def ms_7 : List Ms := [(110, 246, .inr (false, 8, [])), (111, 249, .inr (false, 400, [])), (1, 252, .inl 0)]
set_option maxRecDepth 100000 in
theorem sm_7 : sts_ cX11_init 1667 ms_7 = some 1689 := (sts2_e _ _ _).symm.trans (by decide +kernel)
def mss_ : List Ms := ms_0 ++ ms_1 ++ ms_2 ++ ms_3 ++ ms_4 ++ ms_5 ++ ms_6 ++ ms_7
theorem sts_a {cc : ByteArray} : ∀ (a b : List Ms) (pc p1 p2 : Nat), sts_ cc pc a = some p1 → sts_ cc p1 b = some p2 → sts_ cc pc (a ++ b) = some p2
  | [], b, pc, p1, p2, h, g => by
    have : pc = p1 := Option.some.inj h
    subst this
    exact g
  | q :: r, b, pc, p1, p2, h, g => by
    show (match stp_ cc pc q with | none => none | some pe => sts_ cc pe (r ++ b)) = some p2
    unfold sts_ at h
    cases hq : stp_ cc pc q with
    | none => rw [hq] at h; cases h
    | some pe =>
      rw [hq] at h
      exact sts_a r b pe p1 p2 h g
theorem sm_all : sts_ cX11_init 4 mss_ = some 1689 := sts_a _ _ _ _ _ (sts_a _ _ _ _ _ (sts_a _ _ _ _ _ (sts_a _ _ _ _ _ (sts_a _ _ _ _ _ (sts_a _ _ _ _ _ (sts_a _ _ _ _ _ (sm_0) sm_1) sm_2) sm_3) sm_4) sm_5) sm_6) sm_7
theorem sm_n : nr_ mss_ = 78 ∧ ns_ mss_ = 71851 := by decide +kernel
abbrev mf0_ : List Value := [.null, .int 0, .int 0, .int 0, .null, .null, .int 0, .null, .null, .null, .null, .null, .int 0, .null, .null, .int 0, .int 0, .null, .null, .null, .null, .int 0, .null, .null, .int 0, .null, .null, .null, .null, .int 0, .null, .null, .null, .null, .null, .null, .null, .null, .null, .null, .null, .null, .null, .null, .null, .null, .null, .int 0, .null, .null, .null, .null, .null, .null, .null, .null, .null, .int 0, .int 0, .int 0, .int 0, .int 0, .int 0, .int 0, .null, .null, .null, .null, .null, .null, .null, .null, .null, .int 0, .null, .int 0, .null, .null, .null, .int 0, .int 0, .null, .int 0, .int 0, .null, .int 0, .null, .int 0, .int 0, .null, .int 0, .null, .null, .null, .null, .int 0, .null, .null, .int 0, .int 0, .int 0, .null, .null, .int 0, .null, .null, .null, .int 0, .null, .null, .null, .null, .int 0, .int 0]
set_option maxHeartbeats 4000000 in
theorem ct_X11_init (l : Launch) (dC : Nat → ClassId) (dI : Nat → Nat → Nat) (cA : Nat → ClassId) (m0 sz : Nat) : Met l yX11_init (.code yX11_init cX11_init 1 none :: lw_g) ({ frames := 1, cells := 78, slots := 71851, locals := 60 } : Room) (ro_P dC dI [(m0, .inr (11, mf0_))] (ty_ cA) sz [.ref m0]) (va_Qv (fun (_ : Unit) => True) (fun _ t => ∃ qf : Nat → Nat, va_P (dC, dI) vwCl ((m0, .inr (11, fz_ qf mss_ 0 mf0_)) :: rz_ cA qf mss_ 0) t.heap ∧ va_K (dC, dI) vwCl (ty_ cA) t ∧ va_D (va_A [(m0, .inr (11, mf0_))] sz) ((m0, .inr (11, fz_ qf mss_ 0 mf0_)) :: rz_ cA qf mss_ 0)) (va_A [(m0, .inr (11, mf0_))] sz)) 78 71851 (va_A [(m0, .inr (11, mf0_))] sz) := by
  refine ro_entry (by decide) (Nat.le_of_ble_eq_true rfl) ?_
  intro p e s m below meth c ls hx hb hr hlocks ht hown hin hml hsz hP hK hD hE hl
  subst hsz
  have hD := hD.self (sz := s.heap.size)
  generalize hAe : va_A [(m0, .inr (11, mf0_))] s.heap.size = A at hD ⊢
  have hA : ∀ q, s.heap.size ≤ q → A q := fun q h => by rw [← hAe]; exact Or.inr h
  have hS : va_S A s.heap s.heap [] := va_S.rf
  have hl : lv_has ls 1 [(0, .ref m0)] := hl
  have hown : s.vm.findClass RX11 = some m.cls := hown
  refine lv_aload_n hx hb dX11_init_0 rfl (lv_at hl 0 rfl) ?_
  refine W.objInit hx hb hown (ht _ kw_1426) (ht _ kw_27) (ht _ kw_28) rfl (by rw [hml]; exact hl.1) rfl dX11_init_1 (Nat.le_of_ble_eq_true rfl) (Nat.le_of_ble_eq_true rfl) ?_
  refine sts_w (cA := cA) hx hb ht hown hin hA hl hK kw_72 kw_1770 mss_ 4 1689 0 0 0 mf0_ [] s.heap [] sm_all rfl (by rw [sm_n.1]; exact Nat.le_refl _) (by rw [sm_n.2]; exact Nat.le_refl _) hP hD hS (fun qf H1 locs1 hP1 hD1 hS1 => ?_)
  rw [show 0 + nr_ mss_ = 78 from by rw [sm_n.1], show 0 + ns_ mss_ = 71851 from by rw [sm_n.2]]
  exact W.vret hx hb hr (fun t ht9 hW => ⟨⟨(), rfl, trivial, qf, by rw [ht9]; exact hP1, va_K.moved hW.alike hK, hD1⟩, hS1.F ht9⟩) hS1.2.2 dX11_init_1689
