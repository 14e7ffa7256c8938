abbrev cX0_placeCount : ByteArray := prog_2_method_2_code
def yX0_placeCount : MethodName := ⟨RX0, "placeCount", "()I"⟩
def zX0_placeCount : Zm := (RX0, cX0_placeCount, 1, (some .int), { frames := 0, cells := 0, slots := 0, locals := 0 })
theorem bk_X0_placeCount_0 : ck_ fX0 (some .int) cX0_placeCount 0 [.aload 0, .tableswitch 0 0 5 #[], .aload 0, .tableswitch 0 0 5 #[], .iconst 1, .iand, .iadd, .ireturn] 12 = true := qck_r (nn_ _) (by decide +kernel)
theorem bs_X0_placeCount_0 {P : Zt → Option Zv → Prop} (K : Int → Zl → List Zv → Zt → Prop) : sx_ K P [.aload 0, .tableswitch 0 0 5 #[], .aload 0, .tableswitch 0 0 5 #[], .iconst 1, .iand, .iadd, .ireturn] 12 = x_aload 0 (x_g0 100 5 0 12 (x_aload 0 (x_g0 100 5 0 12 (x_iconst 1 (x_iand (x_iadd (x_ireturn P))))))) := ((xe_aload 0).trans (congrArg (x_aload 0) ((xe_g0 (kk := 100) rfl tl_0_5).trans (congrArg (x_g0 100 5 0 12) ((xe_aload 0).trans (congrArg (x_aload 0) ((xe_g0 (kk := 100) rfl tl_0_5).trans (congrArg (x_g0 100 5 0 12) ((xe_iconst 1).trans (congrArg (x_iconst 1) ((xe_iand).trans (congrArg (x_iand) ((xe_iadd).trans (congrArg (x_iadd) (xe_ireturn)))))))))))))))
abbrev po_X0_placeCount (T : Zt) (c : Int) : Zt → Option Zv → Prop := fun T' r => T = T' ∧ r = some (vI (T 100 c 5 + an_ (T 100 c 5) 1))
set_option maxHeartbeats 4000000 in
theorem ct_X0_placeCount {T : Zt} {c : Int} : Ct_ yX0_placeCount zX0_placeCount T [vR 100 c] (po_X0_placeCount T c) := by
  refine ct_of pn_0 rfl rfl (Nat.le_of_ble_eq_true rfl) (fun hT hav => ?_)
  have hz : zX0_placeCount.2.2.2.1 = some .boolean → ∀ (T' : Zt) (x : Int), po_X0_placeCount T c T' (some (vI x)) → 0 ≤ x ∧ x ≤ 1 := fun h => by cases h
  have hb5 : 0 ≤ T 100 c 5 ∧ T 100 c 5 ≤ 12 := bd_f hT 100 5 tl_0_5 c
  have hp1 := an_1b (T 100 c 5)
  show J_ zX0_placeCount T (po_X0_placeCount T c) 0 0 0 [some (vR 100 c)] [] T
  refine j_blx (F := fX0) tb_X0 (nn_ _) bk_X0_placeCount_0 bs_X0_placeCount_0 hz (fun K hK => ?_)
  intro b1 b1b
  intro b2 b2b
  intro w3 w3b
  refine rg_i (by omega) ?_
  refine (show po_X0_placeCount T c T (some (vI ((T 100 c 5) + (an_ (T 100 c 5) 1)))) from ?_)
  exact ⟨rfl, rfl⟩
theorem rb_mono {T : Zt} {c f R r k k2 d : Int} (h : RK_ T c f R r k d) (g : k ≤ k2) : RK_ T c f R r k2 d := by
  obtain ⟨h1, h2, h3, h4, h5⟩ := h
  refine ⟨h1, fun i a b => ?_, h3, h4, h5⟩
  obtain ⟨a1, a2, a3, a4, a5, a6⟩ := h2 i a b
  exact ⟨a1, a2, a3, a4, a5, a6.imp id (fun z => ⟨z.1, by omega⟩)⟩
abbrev cX6_addRound : ByteArray := prog_8_method_3_code
def yX6_addRound : MethodName := ⟨RX6, "addRound", "(LSportsHouse$Competition;IIZI)V"⟩
def zX6_addRound : Zm := (RX6, cX6_addRound, 12, none, { frames := 3, cells := 18, slots := 204, locals := 81 })
set_option maxRecDepth 100000 in
theorem cl_X6_75 : cv_ RX6 75 yX6_addFixture zX6_addFixture 6 5 := ⟨gi_V (lwq_3 (dqc_m (dqc_m (dqc_m (dqc_m (dqc_m (dqc_m (dqa_m (dqa_m (dqa_m (List.mem_of_getElem? (i := 1) rfl)))))))))) rfl : Cond.methodLink RX6 75 yX6_addFixture ∈ lw_g) (lwq_3 (dqc_m (dqc_m (dqc_m (dqc_m (dqc_m (dqc_m (dqa_m (dqa_m (dqa_m (List.mem_of_getElem? (i := 3) rfl)))))))))) rfl : Cond.instanceMethod yX6_addFixture ∈ lw_g) (lw_sel 119 rfl : Cond.selects yX6_addFixture.cls yX6_addFixture yX6_addFixture ∈ lw_g) (lwq_1 (List.mem_of_getElem? (i := 4) rfl) rfl : Cond.initialized yX6_addFixture.cls ∈ lw_g) (lwq_3 (dqc_m (dqc_m (dqc_m (dqc_m (dqc_m (dqc_m (dqa_m (dqa_m (dqa_m (List.mem_of_getElem? (i := 4) rfl)))))))))) rfl : Cond.code yX6_addFixture cX6_addFixture 6 none ∈ lw_g), ⟨nmh_6.1, nmh_6.2, pdq_34⟩, ⟨_, _, rfl⟩⟩
set_option maxRecDepth 100000 in
theorem cl_X6_63 : cv_ RX6 63 yX0_placeCount zX0_placeCount 0 0 := ⟨gi_V (lwq_3 (dqc_m (dqc_m (dqc_m (dqc_m (dqc_m (dqc_m (dqa_m (dqa_m (List.mem_of_getElem? (i := 4) rfl))))))))) rfl : Cond.methodLink RX6 63 yX0_placeCount ∈ lw_g) (lwq_3 (dqc_m (dqc_m (dqc_m (dqc_m (dqc_m (dqc_m (dqa_m (List.mem_of_getElem? (i := 1) rfl)))))))) rfl : Cond.instanceMethod yX0_placeCount ∈ lw_g) (lwq_3 (dqc_m (dqc_m (dqc_m (dqc_m (dqc_m (dqc_m (dqa_m (List.mem_of_getElem? (i := 2) rfl)))))))) rfl : Cond.selects yX0_placeCount.cls yX0_placeCount yX0_placeCount ∈ lw_g) (lwq_1 (dqa_m (List.mem_of_getElem? (i := 7) rfl)) rfl : Cond.initialized yX0_placeCount.cls ∈ lw_g) (lwq_3 (dqc_m (dqc_m (dqc_m (dqc_m (dqc_m (dqc_m (dqa_m (List.mem_of_getElem? (i := 3) rfl)))))))) rfl : Cond.code yX0_placeCount cX0_placeCount 1 (some .int) ∈ lw_g), ⟨nmh_11.1, nmh_11.2, pdq_17⟩, ⟨_, _, rfl⟩⟩
