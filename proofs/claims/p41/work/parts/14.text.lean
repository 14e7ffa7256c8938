def wl_264 : List Int := [115, 112, 111, 114, 116, 32, 112, 111, 105, 110, 116, 115, 32, 111, 114, 100, 101, 114, 32, 114, 101, 100, 111, 32, 108, 101, 103, 115, 32, 101, 118, 101, 114, 121, 32, 114, 101, 115, 116, 32, 102, 105, 101, 108, 100, 32, 115, 117, 98, 115, 32, 116, 97, 114, 103, 101, 116, 32, 119, 97, 108, 107, 111, 118, 101, 114, 32, 99, 97, 114, 100, 115, 32, 114, 101, 100, 32, 115, 101, 101, 100, 32]
def wl_265 : List Int := [102, 111, 111, 116, 98, 97, 108, 108, 32, 118, 111, 108, 108, 101, 121, 98, 97, 108, 108, 32, 116, 101, 110, 110, 105, 115, 32, 98, 97, 115, 101, 98, 97, 108, 108, 32]
def wl_266 : List Int := [100, 105, 102, 102, 32, 115, 99, 111, 114, 101, 100, 32, 119, 105, 110, 115, 32, 97, 119, 97, 121, 32, 104, 101, 97, 100, 32, 102, 97, 105, 114, 32, 108, 111, 116, 115, 32]
def wl_267 : List Int := [1, 1, 1, 1, 0, 2, 1, 1, 1, 0]
def wl_268 : List Int := [4, 30, 9, 6, 5, 25, 9, 9, 9, 999]
/-- the reference's constant rows hold their words -/
def CW_ (T : Zt) : Prop := (∀ i : Int, 0 ≤ i → i < 82 → T 264 0 i = wl_264.getD i.toNat 0) ∧ (∀ i : Int, 0 ≤ i → i < 36 → T 265 0 i = wl_265.getD i.toNat 0) ∧ (∀ i : Int, 0 ≤ i → i < 37 → T 266 0 i = wl_266.getD i.toNat 0) ∧ (∀ i : Int, 0 ≤ i → i < 10 → T 267 0 i = wl_267.getD i.toNat 0) ∧ (∀ i : Int, 0 ≤ i → i < 10 → T 268 0 i = wl_268.getD i.toNat 0)
theorem CW_f {ws : List (Nat × List Int)} {T T' : Zt} (h : CW_ T) (f : fr_ ws T T') (w : (∀ j, fw_ ws 264 j = false) ∧ (∀ j, fw_ ws 265 j = false) ∧ (∀ j, fw_ ws 266 j = false) ∧ (∀ j, fw_ ws 267 j = false) ∧ (∀ j, fw_ ws 268 j = false)) : CW_ T' := ⟨fun i a b => (f 264 0 i (w.1 i)).trans (h.1 i a b), fun i a b => (f 265 0 i (w.2.1 i)).trans (h.2.1 i a b), fun i a b => (f 266 0 i (w.2.2.1 i)).trans (h.2.2.1 i a b), fun i a b => (f 267 0 i (w.2.2.2.1 i)).trans (h.2.2.2.1 i a b), fun i a b => (f 268 0 i (w.2.2.2.2 i)).trans (h.2.2.2.2 i a b)⟩
def ws_ok (w : List Int) (ts : List (Int × Int × Int)) : Bool := ts.all fun q => decide (0 ≤ q.1) && decide (q.1 ≤ q.2.2) && decide (q.2.2 < w.length) && ((List.range w.length).all fun i => if q.1 ≤ (i : Int) ∧ (i : Int) < q.2.2 then w.getD i 0 != 32 else true) && (w.getD q.2.2.toNat 0 == 32)
def wt_264 : List (Int × Int × Int) := [(0, 0, 5), (6, 1, 12), (13, 2, 18), (19, 3, 23), (24, 4, 28), (29, 5, 34), (35, 6, 39), (40, 7, 45), (46, 8, 50), (51, 9, 57), (58, 10, 66), (67, 11, 72), (73, 12, 76), (77, 13, 81)]
/-- at the start of word nr, or behind the last -/
def wp_264 (k nr : Int) : Prop := (∃ e, (k, nr, e) ∈ wt_264) ∨ (k = 82 ∧ nr = 14)
theorem wn_264 : ∀ q ∈ wt_264, 0 ≤ q.2.1 ∧ q.2.1 < 14 ∧ ((∃ e, (q.2.2 + 1, q.2.1 + 1, e) ∈ wt_264) ∨ (q.2.2 + 1 = 82 ∧ q.2.1 + 1 = 14)) := by
  have h : ∀ q ∈ wt_264, 0 ≤ q.2.1 ∧ q.2.1 < 14 ∧ ((wt_264.any fun z => z.1 == q.2.2 + 1 && z.2.1 == q.2.1 + 1) = true ∨ (q.2.2 + 1 = 82 ∧ q.2.1 + 1 = 14)) := by decide +kernel
  intro q hq
  refine ⟨(h q hq).1, (h q hq).2.1, (h q hq).2.2.imp (fun z => ?_) id⟩
  obtain ⟨⟨a, b, e⟩, h1, h2⟩ := List.any_eq_true.mp z
  simp only [Bool.and_eq_true, beq_iff_eq] at h2
  obtain ⟨rfl, rfl⟩ := h2
  exact ⟨e, h1⟩
theorem wc_264 : ws_ok wl_264 wt_264 = true := by decide +kernel
def wt_265 : List (Int × Int × Int) := [(0, 0, 8), (9, 1, 19), (20, 2, 26), (27, 3, 35)]
/-- at the start of word nr, or behind the last -/
def wp_265 (k nr : Int) : Prop := (∃ e, (k, nr, e) ∈ wt_265) ∨ (k = 36 ∧ nr = 4)
theorem wn_265 : ∀ q ∈ wt_265, 0 ≤ q.2.1 ∧ q.2.1 < 4 ∧ ((∃ e, (q.2.2 + 1, q.2.1 + 1, e) ∈ wt_265) ∨ (q.2.2 + 1 = 36 ∧ q.2.1 + 1 = 4)) := by
  have h : ∀ q ∈ wt_265, 0 ≤ q.2.1 ∧ q.2.1 < 4 ∧ ((wt_265.any fun z => z.1 == q.2.2 + 1 && z.2.1 == q.2.1 + 1) = true ∨ (q.2.2 + 1 = 36 ∧ q.2.1 + 1 = 4)) := by decide +kernel
  intro q hq
  refine ⟨(h q hq).1, (h q hq).2.1, (h q hq).2.2.imp (fun z => ?_) id⟩
  obtain ⟨⟨a, b, e⟩, h1, h2⟩ := List.any_eq_true.mp z
  simp only [Bool.and_eq_true, beq_iff_eq] at h2
  obtain ⟨rfl, rfl⟩ := h2
  exact ⟨e, h1⟩
theorem wc_265 : ws_ok wl_265 wt_265 = true := by decide +kernel
def wt_266 : List (Int × Int × Int) := [(0, 0, 4), (5, 1, 11), (12, 2, 16), (17, 3, 21), (22, 4, 26), (27, 5, 31), (32, 6, 36)]
/-- at the start of word nr, or behind the last -/
def wp_266 (k nr : Int) : Prop := (∃ e, (k, nr, e) ∈ wt_266) ∨ (k = 37 ∧ nr = 7)
theorem wn_266 : ∀ q ∈ wt_266, 0 ≤ q.2.1 ∧ q.2.1 < 7 ∧ ((∃ e, (q.2.2 + 1, q.2.1 + 1, e) ∈ wt_266) ∨ (q.2.2 + 1 = 37 ∧ q.2.1 + 1 = 7)) := by
  have h : ∀ q ∈ wt_266, 0 ≤ q.2.1 ∧ q.2.1 < 7 ∧ ((wt_266.any fun z => z.1 == q.2.2 + 1 && z.2.1 == q.2.1 + 1) = true ∨ (q.2.2 + 1 = 37 ∧ q.2.1 + 1 = 7)) := by decide +kernel
  intro q hq
  refine ⟨(h q hq).1, (h q hq).2.1, (h q hq).2.2.imp (fun z => ?_) id⟩
  obtain ⟨⟨a, b, e⟩, h1, h2⟩ := List.any_eq_true.mp z
  simp only [Bool.and_eq_true, beq_iff_eq] at h2
  obtain ⟨rfl, rfl⟩ := h2
  exact ⟨e, h1⟩
theorem wc_266 : ws_ok wl_266 wt_266 = true := by decide +kernel
abbrev cX11_bad : ByteArray := prog_13_method_8_code
def yX11_bad : MethodName := ⟨RX11, "bad", "(II)V"⟩
def zX11_bad : Zm := (RX11, cX11_bad, 3, none, { frames := 0, cells := 0, slots := 0, locals := 0 })
theorem bk_X11_bad_0 : ck_ fX11 none cX11_bad 0 [.aload 0, .tableswitch 0 11 62 #[], .ifCond .ne 17, .aload 0, .iload 1, .tableswitch 1 11 62 #[], .aload 0, .iload 2, .tableswitch 1 11 63 #[], .return_] 18 = true := qck_r (by decide) (by decide +kernel)
theorem bs_X11_bad_0 {P : Zt → Option Zv → Prop} (K : Int → Zl → List Zv → Zt → Prop) : sx_ K P [.aload 0, .tableswitch 0 11 62 #[], .ifCond .ne 17, .aload 0, .iload 1, .tableswitch 1 11 62 #[], .aload 0, .iload 2, .tableswitch 1 11 63 #[], .return_] 18 = x_aload 0 (x_g0 111 62 0 5 (x_ifCond .ne 17 K (x_aload 0 (x_iload 1 (x_p 111 62 0 5 (x_aload 0 (x_iload 2 (x_p 111 63 (-1) 400 (x_return_ P))))))))) := ((xe_aload 0).trans (congrArg (x_aload 0) ((xe_g0 (kk := 111) rfl tl_11_62).trans (congrArg (x_g0 111 62 0 5) ((xe_ifCond .ne 17).trans (congrArg (x_ifCond .ne 17 K) ((xe_aload 0).trans (congrArg (x_aload 0) ((xe_iload 1).trans (congrArg (x_iload 1) ((xe_p (kk := 111) rfl tl_11_62).trans (congrArg (x_p 111 62 0 5) ((xe_aload 0).trans (congrArg (x_aload 0) ((xe_iload 2).trans (congrArg (x_iload 2) ((xe_p (kk := 111) rfl tl_11_63).trans (congrArg (x_p 111 63 (-1) 400) (xe_return_)))))))))))))))))))
theorem bk_X11_bad_17 : ck_ fX11 none cX11_bad 17 [.return_] 18 = true := qck_r (by decide) (by decide +kernel)
theorem bs_X11_bad_17 {P : Zt → Option Zv → Prop} (K : Int → Zl → List Zv → Zt → Prop) : sx_ K P [.return_] 18 = x_return_ P := (xe_return_)
abbrev cX11_take : ByteArray := prog_13_method_11_code
def yX11_take : MethodName := ⟨RX11, "take", "()V"⟩
def zX11_take : Zm := (RX11, cX11_take, 2, none, { frames := 2, cells := 0, slots := 0, locals := 42 })
set_option maxRecDepth 100000 in
theorem cl_X11_281 : cv_ RX11 281 yX11_bad zX11_bad 11 2 := ⟨gi_V (lw_b8 117 (by decide +kernel) rfl : Cond.methodLink RX11 281 yX11_bad ∈ lw_g) (lw_b8 119 (by decide +kernel) rfl : Cond.instanceMethod yX11_bad ∈ lw_g) (lw_sel 7 rfl : Cond.selects yX11_bad.cls yX11_bad yX11_bad ∈ lw_g) (lw_b1 10 (by decide +kernel) rfl : Cond.initialized yX11_bad.cls ∈ lw_g) (lw_b8 120 rfl rfl : Cond.code yX11_bad cX11_bad 3 none ∈ lw_g), ⟨by decide, by decide, by decide +kernel⟩, ⟨_, _, rfl⟩⟩
set_option maxRecDepth 100000 in
theorem cl_X11_277 : cs_ RX11 277 yX11_isLetter zX11_isLetter 1 := ⟨gi_S (lw_b8 114 (by decide +kernel) rfl : Cond.methodLink RX11 277 yX11_isLetter ∈ lw_g) (lw_b8 115 (by decide +kernel) rfl : Cond.static yX11_isLetter ∈ lw_g) (lw_b1 10 (by decide +kernel) rfl : Cond.initialized yX11_isLetter.cls ∈ lw_g) (lw_b8 116 rfl rfl : Cond.code yX11_isLetter cX11_isLetter 1 (some .boolean) ∈ lw_g), ⟨by decide, by decide, by decide +kernel⟩⟩
set_option maxRecDepth 100000 in
theorem cl_X11_285 : cs_ RX11 285 yX11_isDigit zX11_isDigit 1 := ⟨gi_S (lw_b8 121 (by decide +kernel) rfl : Cond.methodLink RX11 285 yX11_isDigit ∈ lw_g) (lw_b8 122 (by decide +kernel) rfl : Cond.static yX11_isDigit ∈ lw_g) (lw_b1 10 (by decide +kernel) rfl : Cond.initialized yX11_isDigit.cls ∈ lw_g) (lw_b8 123 rfl rfl : Cond.code yX11_isDigit cX11_isDigit 1 (some .boolean) ∈ lw_g), ⟨by decide, by decide, by decide +kernel⟩⟩
