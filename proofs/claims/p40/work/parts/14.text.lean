def wl_264 : List Int := [115, 112, 111, 114, 116, 32, 112, 111, 105, 110, 116, 115, 32, 111, 114, 100, 101, 114, 32, 114, 101, 100, 111, 32, 108, 101, 103, 115, 32, 101, 118, 101, 114, 121, 32, 114, 101, 115, 116, 32, 102, 105, 101, 108, 100, 32, 115, 117, 98, 115, 32, 116, 97, 114, 103, 101, 116, 32, 119, 97, 108, 107, 111, 118, 101, 114, 32, 99, 97, 114, 100, 115, 32, 114, 101, 100, 32, 115, 101, 101, 100, 32]
def wl_265 : List Int := [102, 111, 111, 116, 98, 97, 108, 108, 32, 118, 111, 108, 108, 101, 121, 98, 97, 108, 108, 32, 116, 101, 110, 110, 105, 115, 32, 98, 97, 115, 101, 98, 97, 108, 108, 32]
def wl_266 : List Int := [100, 105, 102, 102, 32, 115, 99, 111, 114, 101, 100, 32, 119, 105, 110, 115, 32, 97, 119, 97, 121, 32, 104, 101, 97, 100, 32, 102, 97, 105, 114, 32, 108, 111, 116, 115, 32]
def wl_267 : List Int := [1, 1, 1, 1, 0, 2, 1, 1, 1, 0]
def wl_268 : List Int := [4, 30, 9, 6, 5, 25, 9, 9, 9, 999]
/-- the reference's constant rows hold their words -/
def CW_ (T : Zt) : Prop := (∀ i : Int, 0 ≤ i → i < 82 → T 264 0 i = wl_264.getD i.toNat 0) ∧ (∀ i : Int, 0 ≤ i → i < 36 → T 265 0 i = wl_265.getD i.toNat 0) ∧ (∀ i : Int, 0 ≤ i → i < 37 → T 266 0 i = wl_266.getD i.toNat 0) ∧ (∀ i : Int, 0 ≤ i → i < 10 → T 267 0 i = wl_267.getD i.toNat 0) ∧ (∀ i : Int, 0 ≤ i → i < 10 → T 268 0 i = wl_268.getD i.toNat 0)
theorem CW_f {ws : List (Nat × List Int)} {T T' : Zt} (h : CW_ T) (f : fr_ ws T T') (w : (∀ j, fw_ ws 264 j = false) ∧ (∀ j, fw_ ws 265 j = false) ∧ (∀ j, fw_ ws 266 j = false) ∧ (∀ j, fw_ ws 267 j = false) ∧ (∀ j, fw_ ws 268 j = false)) : CW_ T' := ⟨fun i a b => (f 264 0 i (w.1 i)).trans (h.1 i a b), fun i a b => (f 265 0 i (w.2.1 i)).trans (h.2.1 i a b), fun i a b => (f 266 0 i (w.2.2.1 i)).trans (h.2.2.1 i a b), fun i a b => (f 267 0 i (w.2.2.2.1 i)).trans (h.2.2.2.1 i a b), fun i a b => (f 268 0 i (w.2.2.2.2 i)).trans (h.2.2.2.2 i a b)⟩
def ws_ok (w : List Int) (ts : List (Int × Int × Int)) : Bool := ts.all fun q => decide (0 ≤ q.1) && decide (q.1 ≤ q.2.2) && decide (q.2.2 < w.length) && ((List.range w.length).all fun i => if q.1 ≤ (i : Int) ∧ (i : Int) < q.2.2 then w.getD i 0 != 32 else true) && (w.getD q.2.2.toNat 0 == 32)
def wt_264 : List (Int × Int × Int) := [(0, 0, 5), (6, 1, 12), (13, 2, 18), (19, 3, 23), (24, 4, 28), (29, 5, 34), (35, 6, 39), (40, 7, 45), (46, 8, 50), (51, 9, 57), (58, 10, 66), (67, 11, 72), (73, 12, 76), (77, 13, 81)]
/-- at the start of word nr, or behind the last -/
def wp_264 (k nr : Int) : Prop := (∃ e, (k, nr, e) ∈ wt_264) ∨ (k = 82 ∧ nr = 14)
theorem wn_264 : ∀ q ∈ wt_264, 0 ≤ q.2.1 ∧ q.2.1 < 14 ∧ ((∃ e, (q.2.2 + 1, q.2.1 + 1, e) ∈ wt_264) ∨ (q.2.2 + 1 = 82 ∧ q.2.1 + 1 = 14)) := by
  have h : ∀ q ∈ wt_264, 0 ≤ q.2.1 ∧ q.2.1 < 14 ∧ ((wt_264.any fun z => z.1 == q.2.2 + 1 && z.2.1 == q.2.1 + 1) = true ∨ (q.2.2 + 1 = 82 ∧ q.2.1 + 1 = 14)) := by decide +kernel
  intro q hq
  refine ⟨(h q hq).1, (h q hq).2.1, (h q hq).2.2.imp (fun z => ?_) id⟩
  obtain ⟨⟨a, b, e⟩, h1, h2⟩ := List.any_eq_true.mp z
  simp only [Bool.and_eq_true, beq_iff_eq] at h2
  obtain ⟨rfl, rfl⟩ := h2
  exact ⟨e, h1⟩
theorem wc_264 : ws_ok wl_264 wt_264 = true := by decide +kernel
theorem ww_264 {T : Zt} (hC : CW_ T) {k nr : Int} (h : wp_264 k nr) (hk : k < 82) : ∃ e, 0 ≤ k ∧ k ≤ e ∧ e < 82 ∧ (∀ i, k ≤ i → i < e → T 264 0 i ≠ 32) ∧ T 264 0 e = 32 ∧ wp_264 (e + 1) (nr + 1) ∧ 0 ≤ nr ∧ nr < 14 := by
  rcases h with ⟨e, he⟩ | h
  · have h1 := List.all_eq_true.mp wc_264 _ he
    simp only [Bool.and_eq_true, decide_eq_true_eq, beq_iff_eq] at h1
    obtain ⟨⟨⟨⟨a0, a1⟩, a2⟩, a3⟩, a4⟩ := h1
    have a2 : e < 82 := a2
    have hn := wn_264 _ he
    refine ⟨e, a0, a1, a2, fun i hi1 hi2 => ?_, ?_, hn.2.2, hn.1, hn.2.1⟩
    · have h2 := List.all_eq_true.mp a3 i.toNat (List.mem_range.mpr (by show i.toNat < 82; omega))
      rw [if_pos ⟨by omega, by omega⟩] at h2
      rw [hC.1 i (by omega) (by omega)]
      simpa using h2
    · rw [hC.1 e (by omega) (by omega)]
      exact a4
  · omega
def wt_265 : List (Int × Int × Int) := [(0, 0, 8), (9, 1, 19), (20, 2, 26), (27, 3, 35)]
/-- at the start of word nr, or behind the last -/
def wp_265 (k nr : Int) : Prop := (∃ e, (k, nr, e) ∈ wt_265) ∨ (k = 36 ∧ nr = 4)
theorem wn_265 : ∀ q ∈ wt_265, 0 ≤ q.2.1 ∧ q.2.1 < 4 ∧ ((∃ e, (q.2.2 + 1, q.2.1 + 1, e) ∈ wt_265) ∨ (q.2.2 + 1 = 36 ∧ q.2.1 + 1 = 4)) := by
  have h : ∀ q ∈ wt_265, 0 ≤ q.2.1 ∧ q.2.1 < 4 ∧ ((wt_265.any fun z => z.1 == q.2.2 + 1 && z.2.1 == q.2.1 + 1) = true ∨ (q.2.2 + 1 = 36 ∧ q.2.1 + 1 = 4)) := by decide +kernel
  intro q hq
  refine ⟨(h q hq).1, (h q hq).2.1, (h q hq).2.2.imp (fun z => ?_) id⟩
  obtain ⟨⟨a, b, e⟩, h1, h2⟩ := List.any_eq_true.mp z
  simp only [Bool.and_eq_true, beq_iff_eq] at h2
  obtain ⟨rfl, rfl⟩ := h2
  exact ⟨e, h1⟩
theorem wc_265 : ws_ok wl_265 wt_265 = true := by decide +kernel
theorem ww_265 {T : Zt} (hC : CW_ T) {k nr : Int} (h : wp_265 k nr) (hk : k < 36) : ∃ e, 0 ≤ k ∧ k ≤ e ∧ e < 36 ∧ (∀ i, k ≤ i → i < e → T 265 0 i ≠ 32) ∧ T 265 0 e = 32 ∧ wp_265 (e + 1) (nr + 1) ∧ 0 ≤ nr ∧ nr < 4 := by
  rcases h with ⟨e, he⟩ | h
  · have h1 := List.all_eq_true.mp wc_265 _ he
    simp only [Bool.and_eq_true, decide_eq_true_eq, beq_iff_eq] at h1
    obtain ⟨⟨⟨⟨a0, a1⟩, a2⟩, a3⟩, a4⟩ := h1
    have a2 : e < 36 := a2
    have hn := wn_265 _ he
    refine ⟨e, a0, a1, a2, fun i hi1 hi2 => ?_, ?_, hn.2.2, hn.1, hn.2.1⟩
    · have h2 := List.all_eq_true.mp a3 i.toNat (List.mem_range.mpr (by show i.toNat < 36; omega))
      rw [if_pos ⟨by omega, by omega⟩] at h2
      rw [hC.2.1 i (by omega) (by omega)]
      simpa using h2
    · rw [hC.2.1 e (by omega) (by omega)]
      exact a4
  · omega
def wt_266 : List (Int × Int × Int) := [(0, 0, 4), (5, 1, 11), (12, 2, 16), (17, 3, 21), (22, 4, 26), (27, 5, 31), (32, 6, 36)]
/-- at the start of word nr, or behind the last -/
def wp_266 (k nr : Int) : Prop := (∃ e, (k, nr, e) ∈ wt_266) ∨ (k = 37 ∧ nr = 7)
theorem wn_266 : ∀ q ∈ wt_266, 0 ≤ q.2.1 ∧ q.2.1 < 7 ∧ ((∃ e, (q.2.2 + 1, q.2.1 + 1, e) ∈ wt_266) ∨ (q.2.2 + 1 = 37 ∧ q.2.1 + 1 = 7)) := by
  have h : ∀ q ∈ wt_266, 0 ≤ q.2.1 ∧ q.2.1 < 7 ∧ ((wt_266.any fun z => z.1 == q.2.2 + 1 && z.2.1 == q.2.1 + 1) = true ∨ (q.2.2 + 1 = 37 ∧ q.2.1 + 1 = 7)) := by decide +kernel
  intro q hq
  refine ⟨(h q hq).1, (h q hq).2.1, (h q hq).2.2.imp (fun z => ?_) id⟩
  obtain ⟨⟨a, b, e⟩, h1, h2⟩ := List.any_eq_true.mp z
  simp only [Bool.and_eq_true, beq_iff_eq] at h2
  obtain ⟨rfl, rfl⟩ := h2
  exact ⟨e, h1⟩
theorem wc_266 : ws_ok wl_266 wt_266 = true := by decide +kernel
theorem ww_266 {T : Zt} (hC : CW_ T) {k nr : Int} (h : wp_266 k nr) (hk : k < 37) : ∃ e, 0 ≤ k ∧ k ≤ e ∧ e < 37 ∧ (∀ i, k ≤ i → i < e → T 266 0 i ≠ 32) ∧ T 266 0 e = 32 ∧ wp_266 (e + 1) (nr + 1) ∧ 0 ≤ nr ∧ nr < 7 := by
  rcases h with ⟨e, he⟩ | h
  · have h1 := List.all_eq_true.mp wc_266 _ he
    simp only [Bool.and_eq_true, decide_eq_true_eq, beq_iff_eq] at h1
    obtain ⟨⟨⟨⟨a0, a1⟩, a2⟩, a3⟩, a4⟩ := h1
    have a2 : e < 37 := a2
    have hn := wn_266 _ he
    refine ⟨e, a0, a1, a2, fun i hi1 hi2 => ?_, ?_, hn.2.2, hn.1, hn.2.1⟩
    · have h2 := List.all_eq_true.mp a3 i.toNat (List.mem_range.mpr (by show i.toNat < 37; omega))
      rw [if_pos ⟨by omega, by omega⟩] at h2
      rw [hC.2.2.1 i (by omega) (by omega)]
      simpa using h2
    · rw [hC.2.2.1 e (by omega) (by omega)]
      exact a4
  · omega
abbrev cX11_bad : ByteArray := prog_13_method_8_code
def yX11_bad : MethodName := ⟨RX11, "bad", "(II)V"⟩
def zX11_bad : Zm := (RX11, cX11_bad, 3, none, { frames := 0, cells := 0, slots := 0, locals := 0 })
theorem bk_X11_bad_0 : ck_ fX11 none cX11_bad 0 [.aload 0, .tableswitch 0 11 62 #[], .ifCond .ne 17, .aload 0, .iload 1, .tableswitch 1 11 62 #[], .aload 0, .iload 2, .tableswitch 1 11 63 #[], .return_] 18 = true := by decide +kernel
theorem bk_X11_bad_17 : ck_ fX11 none cX11_bad 17 [.return_] 18 = true := by decide +kernel
abbrev po_X11_bad (T : Zt) (number place : Int) : Zt → Option Zv → Prop := fun T' r => r = none ∧ fr_ [(111, [62, 63])] T T' ∧ (T 111 0 62 = 0 ∧ T' 111 0 62 = number ∨ T 111 0 62 ≠ 0 ∧ T' 111 0 62 = T 111 0 62)
set_option maxHeartbeats 4000000 in
theorem ct_X11_bad {T : Zt} {number place : Int} (h1 : 1 ≤ number ∧ number ≤ 5) (h2 : -1 ≤ place ∧ place ≤ 400) : Ct_ yX11_bad zX11_bad T [vR 111 0, vI number, vI place] (po_X11_bad T number place) := by
  refine ct_of (by decide) rfl rfl (Nat.le_of_ble_eq_true rfl) (fun hT hav => ?_)
  have hr_number : -2147483648 ≤ number ∧ number ≤ 2147483647 := hav (vI number) (by simp)
  have hr_place : -2147483648 ≤ place ∧ place ≤ 2147483647 := hav (vI place) (by simp)
  have hz : zX11_bad.2.2.2.1 = some .boolean → ∀ (T' : Zt) (x : Int), po_X11_bad T number place T' (some (vI x)) → 0 ≤ x ∧ x ≤ 1 := fun h => by cases h
  show J_ zX11_bad T (po_X11_bad T number place) 0 0 0 [some (vR 111 0), some (vI number), some (vI place)] [] T
  refine j_blk (F := fX11) tb_X11 (by decide) bk_X11_bad_0 hz (fun K hK => ?_)
  intro b1 b1b
  refine And.intro (fun c2 => ?_) (fun c2 => ?_)
  · refine hK 17 [some (vR 111 0), some (vI number), some (vI place)] [] T ?_
    refine j_blk (F := fX11) tb_X11 (by decide) bk_X11_bad_17 hz (fun K hK => ?_)
    refine (show po_X11_bad T number place T (none) from ?_)
    exact ⟨rfl, fr_0 _ _, by omega⟩
  · refine bd_i (by omega) ?_
    refine sx_nm (fun U3 hU3 => ?_)
    have e4 := up_f hU3
    refine bd_i (by omega) ?_
    refine sx_nm (fun U5 hU5 => ?_)
    have e6 := up_f hU5
    refine (show po_X11_bad T number place U5 (none) from ?_)
    have e7 : U5 111 0 62 = number := (up_j hU5 (by decide) 111 0).trans (up_f hU3)
    exact ⟨rfl, fr_u (fr_u (fr_0 _ _) hU3 rfl) hU5 rfl, by omega⟩
abbrev cX11_take : ByteArray := prog_13_method_11_code
def yX11_take : MethodName := ⟨RX11, "take", "()V"⟩
def zX11_take : Zm := (RX11, cX11_take, 2, none, { frames := 2, cells := 0, slots := 0, locals := 42 })
theorem bk_X11_take_346 : ck_ fX11 none cX11_take 346 [.aload 0, .aload 0, .tableswitch 0 11 60 #[], .tableswitch 1 11 57 #[], .return_] 355 = true := by decide +kernel
theorem bk_X11_take_102 : ck_ fX11 none cX11_take 102 [.aload 0, .tableswitch 0 11 60 #[], .aload 0, .tableswitch 0 11 1 #[], .if_icmp .ge 141, .aload 0, .tableswitch 0 11 0 #[], .aload 0, .tableswitch 0 11 60 #[], .iaload] 122 = true := by decide +kernel
theorem bk_X11_take_141 : ck_ fX11 none cX11_take 141 [.aload 0, .iconst 1, .tableswitch 1 11 58 #[], .aload 0, .tableswitch 0 11 60 #[], .aload 0, .tableswitch 0 11 59 #[], .isub, .iconst 12, .if_icmp .le 346, .aload 0, .iconst 1, .aload 0, .tableswitch 0 11 59 #[]] 166 = true := by decide +kernel
theorem cl_X11_281 : cv_ RX11 281 yX11_bad zX11_bad 11 2 := ⟨gi_V (lw_at 1797 (by decide +kernel) rfl : Cond.methodLink RX11 281 yX11_bad ∈ lw_g) (lw_at 1799 (by decide +kernel) rfl : Cond.instanceMethod yX11_bad ∈ lw_g) (lw_sel 7 rfl : Cond.selects yX11_bad.cls yX11_bad yX11_bad ∈ lw_g) (lw_at 10 (by decide +kernel) rfl : Cond.initialized yX11_bad.cls ∈ lw_g) (lw_at 1800 (by decide +kernel) rfl : Cond.code yX11_bad cX11_bad 3 none ∈ lw_g), ⟨by decide, by decide, by decide +kernel⟩, ⟨_, _, rfl⟩⟩
theorem bk_X11_take_169 : ck_ fX11 none cX11_take 169 [.goto 346] 172 = true := by decide +kernel
theorem cl_X11_277 : cs_ RX11 277 yX11_isLetter zX11_isLetter 1 := ⟨gi_S (lw_at 1794 (by decide +kernel) rfl : Cond.methodLink RX11 277 yX11_isLetter ∈ lw_g) (lw_at 1795 (by decide +kernel) rfl : Cond.static yX11_isLetter ∈ lw_g) (lw_at 10 (by decide +kernel) rfl : Cond.initialized yX11_isLetter.cls ∈ lw_g) (lw_at 1796 (by decide +kernel) rfl : Cond.code yX11_isLetter cX11_isLetter 1 (some .boolean) ∈ lw_g), ⟨by decide, by decide, by decide +kernel⟩⟩
theorem bk_X11_take_125 : ck_ fX11 none cX11_take 125 [.ifCond .eq 141, .aload 0, .dup, .tableswitch 0 11 60 #[], .iconst 1, .iadd, .tableswitch 1 11 60 #[], .goto 102] 141 = true := by decide +kernel
theorem bk_X11_take_251 : ck_ fX11 none cX11_take 251 [.tableswitch 1 11 61 #[], .aload 0, .dup, .tableswitch 0 11 60 #[], .iconst 1, .iadd, .tableswitch 1 11 60 #[], .goto 184] 267 = true := by decide +kernel
theorem bk_X11_take_184 : ck_ fX11 none cX11_take 184 [.aload 0, .tableswitch 0 11 60 #[], .aload 0, .tableswitch 0 11 1 #[], .if_icmp .ge 267, .aload 0, .tableswitch 0 11 0 #[], .aload 0, .tableswitch 0 11 60 #[], .iaload] 204 = true := by decide +kernel
theorem bk_X11_take_267 : ck_ fX11 none cX11_take 267 [.aload 0, .iconst 2, .tableswitch 1 11 58 #[], .aload 0, .tableswitch 0 11 60 #[], .aload 0, .tableswitch 0 11 59 #[], .isub, .iconst 3, .if_icmp .le 346, .aload 0, .iconst 1, .aload 0, .tableswitch 0 11 59 #[]] 291 = true := by decide +kernel
theorem bk_X11_take_294 : ck_ fX11 none cX11_take 294 [.goto 346] 297 = true := by decide +kernel
theorem cl_X11_285 : cs_ RX11 285 yX11_isDigit zX11_isDigit 1 := ⟨gi_S (lw_at 1801 (by decide +kernel) rfl : Cond.methodLink RX11 285 yX11_isDigit ∈ lw_g) (lw_at 1802 (by decide +kernel) rfl : Cond.static yX11_isDigit ∈ lw_g) (lw_at 10 (by decide +kernel) rfl : Cond.initialized yX11_isDigit.cls ∈ lw_g) (lw_at 1803 (by decide +kernel) rfl : Cond.code yX11_isDigit cX11_isDigit 1 (some .boolean) ∈ lw_g), ⟨by decide, by decide, by decide +kernel⟩⟩
theorem bk_X11_take_207 : ck_ fX11 none cX11_take 207 [.ifCond .eq 267, .aload 0, .aload 0, .tableswitch 0 11 60 #[], .aload 0, .tableswitch 0 11 59 #[], .isub, .iconst 3, .if_icmp .ge 247, .iconst 10, .aload 0, .tableswitch 0 11 61 #[], .fmul, .aload 0, .tableswitch 0 11 0 #[], .aload 0, .tableswitch 0 11 60 #[], .iaload, .fadd, .iconst 48, .fsub, .goto 251] 247 = true := by decide +kernel
theorem bk_X11_take_247 : ck_ fX11 none cX11_take 247 [.aload 0, .tableswitch 0 11 61 #[]] 251 = true := by decide +kernel
theorem bk_X11_take_52 : ck_ fX11 none cX11_take 52 [.aload 0, .aload 0, .tableswitch 0 11 57 #[], .tableswitch 1 11 59 #[], .aload 0, .aload 0, .tableswitch 0 11 57 #[], .tableswitch 1 11 60 #[], .aload 0, .iconst 0, .tableswitch 1 11 58 #[], .aload 0, .tableswitch 0 11 57 #[], .aload 0, .tableswitch 0 11 1 #[], .if_icmp .ne 85, .return_] 85 = true := by decide +kernel
theorem bk_X11_take_85 : ck_ fX11 none cX11_take 85 [.aload 0, .tableswitch 0 11 0 #[], .aload 0, .tableswitch 0 11 57 #[], .iaload, .istore 1, .iload 1] 96 = true := by decide +kernel
theorem bk_X11_take_99 : ck_ fX11 none cX11_take 99 [.ifCond .eq 172] 102 = true := by decide +kernel
theorem bk_X11_take_172 : ck_ fX11 none cX11_take 172 [.iload 1] 173 = true := by decide +kernel
theorem bk_X11_take_176 : ck_ fX11 none cX11_take 176 [.ifCond .eq 297, .aload 0, .iconst 0, .tableswitch 1 11 61 #[]] 184 = true := by decide +kernel
theorem bk_X11_take_297 : ck_ fX11 none cX11_take 297 [.iload 1, .iconst 59, .if_icmp .eq 309, .iload 1, .iconst 44, .if_icmp .ne 337, .aload 0, .iload 1, .iconst 59, .if_icmp .ne 320, .iconst 3, .goto 321] 320 = true := by decide +kernel
theorem bk_X11_take_309 : ck_ fX11 none cX11_take 309 [.aload 0, .iload 1, .iconst 59, .if_icmp .ne 320, .iconst 3, .goto 321] 320 = true := by decide +kernel
theorem bk_X11_take_320 : ck_ fX11 none cX11_take 320 [.iconst 4, .tableswitch 1 11 58 #[], .aload 0, .dup, .tableswitch 0 11 60 #[], .iconst 1, .iadd, .tableswitch 1 11 60 #[], .goto 346] 337 = true := by decide +kernel
theorem bk_X11_take_321 : ck_ fX11 none cX11_take 321 [.tableswitch 1 11 58 #[], .aload 0, .dup, .tableswitch 0 11 60 #[], .iconst 1, .iadd, .tableswitch 1 11 60 #[], .goto 346] 337 = true := by decide +kernel
theorem bk_X11_take_337 : ck_ fX11 none cX11_take 337 [.aload 0, .iconst 1, .aload 0, .tableswitch 0 11 59 #[]] 343 = true := by decide +kernel
theorem bk_X11_take_0 : ck_ fX11 none cX11_take 0 [.aload 0, .tableswitch 0 11 57 #[], .aload 0, .tableswitch 0 11 1 #[], .if_icmp .ge 52, .aload 0, .tableswitch 0 11 0 #[], .aload 0, .tableswitch 0 11 57 #[], .iaload, .iconst 10, .if_icmp .eq 39, .aload 0, .tableswitch 0 11 0 #[], .aload 0, .tableswitch 0 11 57 #[], .iaload, .iconst 32, .if_icmp .ne 52, .aload 0, .dup, .tableswitch 0 11 57 #[], .iconst 1, .iadd, .tableswitch 1 11 57 #[], .goto 0] 52 = true := by decide +kernel
theorem bk_X11_take_39 : ck_ fX11 none cX11_take 39 [.aload 0, .dup, .tableswitch 0 11 57 #[], .iconst 1, .iadd, .tableswitch 1 11 57 #[], .goto 0] 52 = true := by decide +kernel
abbrev po_X11_take (T : Zt) : Zt → Option Zv → Prop := fun T' r => r = none ∧ fr_ [(111, [57, 58, 59, 60, 61, 62, 63])] T T' ∧ (T' 111 0 57 ≤ T 111 0 1 ∧ T 111 0 57 ≤ T' 111 0 59 ∧ T' 111 0 59 ≤ T' 111 0 60 ∧ T' 111 0 60 ≤ T 111 0 1 ∧ T 111 0 57 ≤ T' 111 0 57 ∧ (T' 111 0 58 ≠ 0 → T 111 0 57 < T' 111 0 57) ∧ (T' 111 0 62 = 0 → T 111 0 62 = 0))
set_option maxHeartbeats 4000000 in
theorem ct_X11_take {T : Zt} (h1 : T 111 0 57 ≤ T 111 0 1) : Ct_ yX11_take zX11_take T [vR 111 0] (po_X11_take T) := by
  refine ct_of (by decide) rfl rfl (Nat.le_of_ble_eq_true rfl) (fun hT hav => ?_)
  have hz : zX11_take.2.2.2.1 = some .boolean → ∀ (T' : Zt) (x : Int), po_X11_take T T' (some (vI x)) → 0 ≤ x ∧ x ≤ 1 := fun h => by cases h
  show J_ zX11_take T (po_X11_take T) 0 0 0 [some (vR 111 0), none] [] T
  have c_0 : ∀ (nn : Nat) (T1 : Zt), ((T 111 0 1 - T1 111 0 57).toNat) ≤ nn → (fr_ [(111, [57])] T T1) → (T 111 0 57 ≤ T1 111 0 57 ∧ T1 111 0 57 ≤ T 111 0 1) → J_ zX11_take T (po_X11_take T) 0 0 0 [some (vR 111 0), none] [] T1 := by
    intro nn
    induction nn using Nat.strongRecOn with
    | _ nn ih_0 =>
      intro T1 hm_0 hf_0 i1
      have c_52 : J_ zX11_take T (po_X11_take T) 0 0 52 [some (vR 111 0), none] [] T1 := by
        have c_346 : ∀ (T3 : Zt), (fr_ [(111, [57, 58, 59, 60, 61, 62, 63])] T T3) → (T3 111 0 59 = T1 111 0 57 ∧ T1 111 0 57 ≤ T3 111 0 60 ∧ T3 111 0 60 ≤ T 111 0 1 ∧ (T3 111 0 58 ≠ 0 → T1 111 0 57 < T3 111 0 60) ∧ 0 ≤ T3 111 0 58 ∧ T3 111 0 58 ≤ 4 ∧ (T3 111 0 62 = 0 → T 111 0 62 = 0)) → J_ zX11_take T (po_X11_take T) 0 0 346 [some (vR 111 0), none] [] T3 := by
          intro T3 hf_346 j1
          refine j_blk (F := fX11) tb_X11 (by decide) bk_X11_take_346 hz (fun K hK => ?_)
          intro b1 b1b
          refine bd_i (by omega) ?_
          refine sx_nm (fun U2 hU2 => ?_)
          have e3 := up_f hU2
          refine (show po_X11_take T U2 (none) from ?_)
          have e4 : U2 111 0 57 = T3 111 0 60 := up_f hU2
          have e5 : U2 111 0 59 = T3 111 0 59 := up_j hU2 (by decide) 111 0
          have e6 : U2 111 0 60 = T3 111 0 60 := up_j hU2 (by decide) 111 0
          have e7 : U2 111 0 58 = T3 111 0 58 := up_j hU2 (by decide) 111 0
          have e8 : U2 111 0 62 = T3 111 0 62 := up_j hU2 (by decide) 111 0
          exact ⟨rfl, fr_u (fr_t (fr_0 _ _) (fr_s hf_346 rfl)) hU2 rfl, by omega⟩
        have c_102 : ∀ (nn : Nat) (T2 : Zt), ((T 111 0 1 - T2 111 0 60).toNat) ≤ nn → (fr_ [(111, [57, 58, 59, 60, 61, 62, 63])] T T2) → (T2 111 0 59 = T1 111 0 57 ∧ T1 111 0 57 ≤ T2 111 0 60 ∧ T2 111 0 60 ≤ T 111 0 1 ∧ T1 111 0 57 < T 111 0 1 ∧ T2 111 0 62 = T 111 0 62) → (97 ≤ T 200 0 (T1 111 0 57) ∧ T 200 0 (T1 111 0 57) ≤ 122) → J_ zX11_take T (po_X11_take T) 0 0 102 [some (vR 111 0), none] [] T2 := by
          intro nn
          induction nn using Nat.strongRecOn with
          | _ nn ih_102 =>
            intro T2 hm_102 hf_102 k1 k2
            have cg : T2 111 0 60 = T1 111 0 57 → T 200 0 (T2 111 0 60) = T 200 0 (T1 111 0 57) := fun z => by rw [z]
            refine j_blk (F := fX11) tb_X11 (by decide) bk_X11_take_102 hz (fun K hK => ?_)
            intro b9 b9b
            intro b10 b10b
            have e11 : T2 111 0 1 = T 111 0 1 := hf_102 111 0 1 rfl
            rw [e11] at b10 b10b ⊢
            refine And.intro (fun c12 => ?_) (fun c12 => ?_)
            · refine hK 141 [some (vR 111 0), none] [] T2 ?_
              refine j_blk (F := fX11) tb_X11 (by decide) bk_X11_take_141 hz (fun K hK => ?_)
              refine bd_i (by omega) ?_
              refine sx_nm (fun U13 hU13 => ?_)
              have e14 := up_f hU13
              intro b15 b15b
              have e16 : U13 111 0 60 = T2 111 0 60 := up_j hU13 (by decide) 111 0
              rw [e16] at b15 b15b ⊢
              intro b17 b17b
              have e18 : U13 111 0 59 = T2 111 0 59 := up_j hU13 (by decide) 111 0
              rw [e18] at b17 b17b ⊢
              refine rg_i (by omega) ?_
              refine And.intro (fun c19 => ?_) (fun c19 => ?_)
              · refine hK 346 [some (vR 111 0), none] [] U13 ?_
                have e20 : U13 111 0 59 = T2 111 0 59 := up_j hU13 (by decide) 111 0
                have e21 : U13 111 0 60 = T2 111 0 60 := up_j hU13 (by decide) 111 0
                have e22 : U13 111 0 58 = 1 := up_f hU13
                have e23 : U13 111 0 62 = T2 111 0 62 := up_j hU13 (by decide) 111 0
                refine c_346 U13 ?_ ?_
                · exact fr_u (fr_t (fr_0 _ _) (fr_s hf_102 rfl)) hU13 rfl
                · omega
              · intro b24 b24b
                have e25 : U13 111 0 59 = T2 111 0 59 := up_j hU13 (by decide) 111 0
                rw [e25] at b24 b24b ⊢
                refine hK 166 [some (vR 111 0), none] [vI (T2 111 0 59), vI 1, vR 111 0] U13 ?_
                refine j_callV (y := yX11_bad) (Yc := zX11_bad) (rest := []) [vI 1, vI (T2 111 0 59)] (ct_X11_bad (T := U13) (by omega) (by omega)) cl_X11_281 (by decide +kernel) (by decide) rfl (by decide +kernel) (Nat.le_of_ble_eq_true rfl) (by decide) (by decide) rfl ?_
                rintro U26 _ ⟨rfl, fU26, qU26⟩
                show J_ zX11_take T (po_X11_take T) 0 0 169 [some (vR 111 0), none] [] U26
                refine j_blk (F := fX11) tb_X11 (by decide) bk_X11_take_169 hz (fun K hK => ?_)
                refine hK 346 [some (vR 111 0), none] [] U26 ?_
                have e27 : U26 111 0 59 = T2 111 0 59 := (fU26 111 0 59 rfl).trans (up_j hU13 (by decide) 111 0)
                have e28 : U26 111 0 60 = T2 111 0 60 := (fU26 111 0 60 rfl).trans (up_j hU13 (by decide) 111 0)
                have e29 : U26 111 0 58 = 1 := (fU26 111 0 58 rfl).trans (up_f hU13)
                refine c_346 U26 ?_ ?_
                · exact fr_t (fr_u (fr_t (fr_0 _ _) (fr_s hf_102 rfl)) hU13 rfl) (fr_s fU26 rfl)
                · omega
            · intro b30 b30b
              refine ix_i (by omega) ?_
              intro b31 b31b
              have e32 : T2 200 0 (T2 111 0 60) = T 200 0 (T2 111 0 60) := hf_102 200 0 (T2 111 0 60) rfl
              rw [e32] at b31 b31b ⊢
              refine hK 122 [some (vR 111 0), none] [vI (T 200 0 (T2 111 0 60))] T2 ?_
              refine j_callS (y := yX11_isLetter) (Yc := zX11_isLetter) (rest := []) [vI (T 200 0 (T2 111 0 60))] (ct_X11_isLetter (T := T2)) cl_X11_277 (by decide +kernel) (by decide) rfl (by decide +kernel) (Nat.le_of_ble_eq_true rfl) (by decide) (by decide) rfl ?_
              rintro _ _ ⟨rfl, x33, rfl, hx33⟩
              show J_ zX11_take T (po_X11_take T) 0 0 125 [some (vR 111 0), none] [vI x33] T2
              refine j_blk (F := fX11) tb_X11 (by decide) bk_X11_take_125 hz (fun K hK => ?_)
              refine And.intro (fun c34 => ?_) (fun c34 => ?_)
              · refine hK 141 [some (vR 111 0), none] [] T2 ?_
                refine j_blk (F := fX11) tb_X11 (by decide) bk_X11_take_141 hz (fun K hK => ?_)
                refine bd_i (by omega) ?_
                refine sx_nm (fun U35 hU35 => ?_)
                have e36 := up_f hU35
                intro b37 b37b
                have e38 : U35 111 0 60 = T2 111 0 60 := up_j hU35 (by decide) 111 0
                rw [e38] at b37 b37b ⊢
                intro b39 b39b
                have e40 : U35 111 0 59 = T2 111 0 59 := up_j hU35 (by decide) 111 0
                rw [e40] at b39 b39b ⊢
                refine rg_i (by omega) ?_
                refine And.intro (fun c41 => ?_) (fun c41 => ?_)
                · refine hK 346 [some (vR 111 0), none] [] U35 ?_
                  have e42 : U35 111 0 59 = T2 111 0 59 := up_j hU35 (by decide) 111 0
                  have e43 : U35 111 0 60 = T2 111 0 60 := up_j hU35 (by decide) 111 0
                  have e44 : U35 111 0 58 = 1 := up_f hU35
                  have e45 : U35 111 0 62 = T2 111 0 62 := up_j hU35 (by decide) 111 0
                  refine c_346 U35 ?_ ?_
                  · exact fr_u (fr_t (fr_0 _ _) (fr_s hf_102 rfl)) hU35 rfl
                  · omega
                · intro b46 b46b
                  have e47 : U35 111 0 59 = T2 111 0 59 := up_j hU35 (by decide) 111 0
                  rw [e47] at b46 b46b ⊢
                  refine hK 166 [some (vR 111 0), none] [vI (T2 111 0 59), vI 1, vR 111 0] U35 ?_
                  refine j_callV (y := yX11_bad) (Yc := zX11_bad) (rest := []) [vI 1, vI (T2 111 0 59)] (ct_X11_bad (T := U35) (by omega) (by omega)) cl_X11_281 (by decide +kernel) (by decide) rfl (by decide +kernel) (Nat.le_of_ble_eq_true rfl) (by decide) (by decide) rfl ?_
                  rintro U48 _ ⟨rfl, fU48, qU48⟩
                  show J_ zX11_take T (po_X11_take T) 0 0 169 [some (vR 111 0), none] [] U48
                  refine j_blk (F := fX11) tb_X11 (by decide) bk_X11_take_169 hz (fun K hK => ?_)
                  refine hK 346 [some (vR 111 0), none] [] U48 ?_
                  have e49 : U48 111 0 59 = T2 111 0 59 := (fU48 111 0 59 rfl).trans (up_j hU35 (by decide) 111 0)
                  have e50 : U48 111 0 60 = T2 111 0 60 := (fU48 111 0 60 rfl).trans (up_j hU35 (by decide) 111 0)
                  have e51 : U48 111 0 58 = 1 := (fU48 111 0 58 rfl).trans (up_f hU35)
                  refine c_346 U48 ?_ ?_
                  · exact fr_t (fr_u (fr_t (fr_0 _ _) (fr_s hf_102 rfl)) hU35 rfl) (fr_s fU48 rfl)
                  · omega
              · intro b52 b52b
                refine rg_i (by omega) ?_
                refine bd_i (by omega) ?_
                refine sx_nm (fun U53 hU53 => ?_)
                have e54 := up_f hU53
                refine hK 102 [some (vR 111 0), none] [] U53 ?_
                have e55 : U53 111 0 59 = T2 111 0 59 := up_j hU53 (by decide) 111 0
                have e56 : U53 111 0 60 = (T2 111 0 60) + 1 := up_f hU53
                have e57 : U53 111 0 62 = T2 111 0 62 := up_j hU53 (by decide) 111 0
                refine ih_102 _ ?_ U53 (Nat.le_refl _) ?_ ?_ ?_
                · omega
                · exact fr_u (fr_t (fr_0 _ _) (fr_s hf_102 rfl)) hU53 rfl
                · omega
                · omega
        have c_184 : ∀ (nn : Nat) (T2 : Zt), ((T 111 0 1 - T2 111 0 60).toNat) ≤ nn → (fr_ [(111, [57, 58, 59, 60, 61, 62, 63])] T T2) → (T2 111 0 59 = T1 111 0 57 ∧ T1 111 0 57 ≤ T2 111 0 60 ∧ T2 111 0 60 ≤ T 111 0 1 ∧ T1 111 0 57 < T 111 0 1 ∧ T2 111 0 62 = T 111 0 62) → (48 ≤ T 200 0 (T1 111 0 57) ∧ T 200 0 (T1 111 0 57) ≤ 57) → J_ zX11_take T (po_X11_take T) 0 0 184 [some (vR 111 0), none] [] T2 := by
          intro nn
          induction nn using Nat.strongRecOn with
          | _ nn ih_184 =>
            intro T2 hm_184 hf_184 k1 k2
            have cg : T2 111 0 60 = T1 111 0 57 → T 200 0 (T2 111 0 60) = T 200 0 (T1 111 0 57) := fun z => by rw [z]
            have c_251 : ∀ (v : Int), (-2147483648 ≤ v ∧ v ≤ 2147483647) → (T2 111 0 60 < T 111 0 1 ∧ T 111 0 1 ≤ 400) → J_ zX11_take T (po_X11_take T) 0 0 251 [some (vR 111 0), none] [vI v, vR 111 0] T2 := by
              intro v v1 v2
              refine j_blk (F := fX11) tb_X11 (by decide) bk_X11_take_251 hz (fun K hK => ?_)
              refine bd_i (by omega) ?_
              refine sx_nm (fun U58 hU58 => ?_)
              have e59 := up_f hU58
              intro b60 b60b
              have e61 : U58 111 0 60 = T2 111 0 60 := up_j hU58 (by decide) 111 0
              rw [e61] at b60 b60b ⊢
              refine rg_i (by omega) ?_
              refine bd_i (by omega) ?_
              refine sx_nm (fun U62 hU62 => ?_)
              have e63 := up_f hU62
              refine hK 184 [some (vR 111 0), none] [] U62 ?_
              have e64 : U62 111 0 59 = T2 111 0 59 := (up_j hU62 (by decide) 111 0).trans (up_j hU58 (by decide) 111 0)
              have e65 : U62 111 0 60 = (T2 111 0 60) + 1 := up_f hU62
              have e66 : U62 111 0 62 = T2 111 0 62 := (up_j hU62 (by decide) 111 0).trans (up_j hU58 (by decide) 111 0)
              refine ih_184 _ ?_ U62 (Nat.le_refl _) ?_ ?_ ?_
              · omega
              · exact fr_u (fr_u (fr_t (fr_0 _ _) (fr_s hf_184 rfl)) hU58 rfl) hU62 rfl
              · omega
              · omega
            refine j_blk (F := fX11) tb_X11 (by decide) bk_X11_take_184 hz (fun K hK => ?_)
            intro b67 b67b
            intro b68 b68b
            have e69 : T2 111 0 1 = T 111 0 1 := hf_184 111 0 1 rfl
            rw [e69] at b68 b68b ⊢
            refine And.intro (fun c70 => ?_) (fun c70 => ?_)
            · refine hK 267 [some (vR 111 0), none] [] T2 ?_
              refine j_blk (F := fX11) tb_X11 (by decide) bk_X11_take_267 hz (fun K hK => ?_)
              refine bd_i (by omega) ?_
              refine sx_nm (fun U71 hU71 => ?_)
              have e72 := up_f hU71
              intro b73 b73b
              have e74 : U71 111 0 60 = T2 111 0 60 := up_j hU71 (by decide) 111 0
              rw [e74] at b73 b73b ⊢
              intro b75 b75b
              have e76 : U71 111 0 59 = T2 111 0 59 := up_j hU71 (by decide) 111 0
              rw [e76] at b75 b75b ⊢
              refine rg_i (by omega) ?_
              refine And.intro (fun c77 => ?_) (fun c77 => ?_)
              · refine hK 346 [some (vR 111 0), none] [] U71 ?_
                have e78 : U71 111 0 59 = T2 111 0 59 := up_j hU71 (by decide) 111 0
                have e79 : U71 111 0 60 = T2 111 0 60 := up_j hU71 (by decide) 111 0
                have e80 : U71 111 0 58 = 2 := up_f hU71
                have e81 : U71 111 0 62 = T2 111 0 62 := up_j hU71 (by decide) 111 0
                refine c_346 U71 ?_ ?_
                · exact fr_u (fr_t (fr_0 _ _) (fr_s hf_184 rfl)) hU71 rfl
                · omega
              · intro b82 b82b
                have e83 : U71 111 0 59 = T2 111 0 59 := up_j hU71 (by decide) 111 0
                rw [e83] at b82 b82b ⊢
                refine hK 291 [some (vR 111 0), none] [vI (T2 111 0 59), vI 1, vR 111 0] U71 ?_
                refine j_callV (y := yX11_bad) (Yc := zX11_bad) (rest := []) [vI 1, vI (T2 111 0 59)] (ct_X11_bad (T := U71) (by omega) (by omega)) cl_X11_281 (by decide +kernel) (by decide) rfl (by decide +kernel) (Nat.le_of_ble_eq_true rfl) (by decide) (by decide) rfl ?_
                rintro U84 _ ⟨rfl, fU84, qU84⟩
                show J_ zX11_take T (po_X11_take T) 0 0 294 [some (vR 111 0), none] [] U84
                refine j_blk (F := fX11) tb_X11 (by decide) bk_X11_take_294 hz (fun K hK => ?_)
                refine hK 346 [some (vR 111 0), none] [] U84 ?_
                have e85 : U84 111 0 59 = T2 111 0 59 := (fU84 111 0 59 rfl).trans (up_j hU71 (by decide) 111 0)
                have e86 : U84 111 0 60 = T2 111 0 60 := (fU84 111 0 60 rfl).trans (up_j hU71 (by decide) 111 0)
                have e87 : U84 111 0 58 = 2 := (fU84 111 0 58 rfl).trans (up_f hU71)
                refine c_346 U84 ?_ ?_
                · exact fr_t (fr_u (fr_t (fr_0 _ _) (fr_s hf_184 rfl)) hU71 rfl) (fr_s fU84 rfl)
                · omega
            · intro b88 b88b
              refine ix_i (by omega) ?_
              intro b89 b89b
              have e90 : T2 200 0 (T2 111 0 60) = T 200 0 (T2 111 0 60) := hf_184 200 0 (T2 111 0 60) rfl
              rw [e90] at b89 b89b ⊢
              refine hK 204 [some (vR 111 0), none] [vI (T 200 0 (T2 111 0 60))] T2 ?_
              refine j_callS (y := yX11_isDigit) (Yc := zX11_isDigit) (rest := []) [vI (T 200 0 (T2 111 0 60))] (ct_X11_isDigit (T := T2)) cl_X11_285 (by decide +kernel) (by decide) rfl (by decide +kernel) (Nat.le_of_ble_eq_true rfl) (by decide) (by decide) rfl ?_
              rintro _ _ ⟨rfl, x91, rfl, hx91⟩
              show J_ zX11_take T (po_X11_take T) 0 0 207 [some (vR 111 0), none] [vI x91] T2
              refine j_blk (F := fX11) tb_X11 (by decide) bk_X11_take_207 hz (fun K hK => ?_)
              refine And.intro (fun c92 => ?_) (fun c92 => ?_)
              · refine hK 267 [some (vR 111 0), none] [] T2 ?_
                refine j_blk (F := fX11) tb_X11 (by decide) bk_X11_take_267 hz (fun K hK => ?_)
                refine bd_i (by omega) ?_
                refine sx_nm (fun U93 hU93 => ?_)
                have e94 := up_f hU93
                intro b95 b95b
                have e96 : U93 111 0 60 = T2 111 0 60 := up_j hU93 (by decide) 111 0
                rw [e96] at b95 b95b ⊢
                intro b97 b97b
                have e98 : U93 111 0 59 = T2 111 0 59 := up_j hU93 (by decide) 111 0
                rw [e98] at b97 b97b ⊢
                refine rg_i (by omega) ?_
                refine And.intro (fun c99 => ?_) (fun c99 => ?_)
                · refine hK 346 [some (vR 111 0), none] [] U93 ?_
                  have e100 : U93 111 0 59 = T2 111 0 59 := up_j hU93 (by decide) 111 0
                  have e101 : U93 111 0 60 = T2 111 0 60 := up_j hU93 (by decide) 111 0
                  have e102 : U93 111 0 58 = 2 := up_f hU93
                  have e103 : U93 111 0 62 = T2 111 0 62 := up_j hU93 (by decide) 111 0
                  refine c_346 U93 ?_ ?_
                  · exact fr_u (fr_t (fr_0 _ _) (fr_s hf_184 rfl)) hU93 rfl
                  · omega
                · intro b104 b104b
                  have e105 : U93 111 0 59 = T2 111 0 59 := up_j hU93 (by decide) 111 0
                  rw [e105] at b104 b104b ⊢
                  refine hK 291 [some (vR 111 0), none] [vI (T2 111 0 59), vI 1, vR 111 0] U93 ?_
                  refine j_callV (y := yX11_bad) (Yc := zX11_bad) (rest := []) [vI 1, vI (T2 111 0 59)] (ct_X11_bad (T := U93) (by omega) (by omega)) cl_X11_281 (by decide +kernel) (by decide) rfl (by decide +kernel) (Nat.le_of_ble_eq_true rfl) (by decide) (by decide) rfl ?_
                  rintro U106 _ ⟨rfl, fU106, qU106⟩
                  show J_ zX11_take T (po_X11_take T) 0 0 294 [some (vR 111 0), none] [] U106
                  refine j_blk (F := fX11) tb_X11 (by decide) bk_X11_take_294 hz (fun K hK => ?_)
                  refine hK 346 [some (vR 111 0), none] [] U106 ?_
                  have e107 : U106 111 0 59 = T2 111 0 59 := (fU106 111 0 59 rfl).trans (up_j hU93 (by decide) 111 0)
                  have e108 : U106 111 0 60 = T2 111 0 60 := (fU106 111 0 60 rfl).trans (up_j hU93 (by decide) 111 0)
                  have e109 : U106 111 0 58 = 2 := (fU106 111 0 58 rfl).trans (up_f hU93)
                  refine c_346 U106 ?_ ?_
                  · exact fr_t (fr_u (fr_t (fr_0 _ _) (fr_s hf_184 rfl)) hU93 rfl) (fr_s fU106 rfl)
                  · omega
              · intro b110 b110b
                intro b111 b111b
                refine rg_i (by omega) ?_
                refine And.intro (fun c112 => ?_) (fun c112 => ?_)
                · refine hK 247 [some (vR 111 0), none] [vR 111 0] T2 ?_
                  refine j_blk (F := fX11) tb_X11 (by decide) bk_X11_take_247 hz (fun K hK => ?_)
                  intro b113 b113b
                  refine hK 251 [some (vR 111 0), none] [vI (T2 111 0 61), vR 111 0] T2 ?_
                  refine c_251 (T2 111 0 61) ?_ ?_
                  · omega
                  · omega
                · intro b114 b114b
                  intro w115 w115b
                  intro b116 b116b
                  refine ix_i (by omega) ?_
                  intro b117 b117b
                  have e118 : T2 200 0 (T2 111 0 60) = T 200 0 (T2 111 0 60) := hf_184 200 0 (T2 111 0 60) rfl
                  rw [e118] at b117 b117b ⊢
                  intro w119 w119b
                  intro w120 w120b
                  refine hK 251 [some (vR 111 0), none] [vI (wr_ ((wr_ ((wr_ (10 * (T2 111 0 61))) + (T 200 0 (T2 111 0 60)))) - 48)), vR 111 0] T2 ?_
                  refine c_251 (wr_ ((wr_ ((wr_ (10 * (T2 111 0 61))) + (T 200 0 (T2 111 0 60)))) - 48)) ?_ ?_
                  · omega
                  · omega
        refine j_blk (F := fX11) tb_X11 (by decide) bk_X11_take_52 hz (fun K hK => ?_)
        intro b121 b121b
        refine bd_i (by omega) ?_
        refine sx_nm (fun U122 hU122 => ?_)
        have e123 := up_f hU122
        intro b124 b124b
        have e125 : U122 111 0 57 = T1 111 0 57 := up_j hU122 (by decide) 111 0
        rw [e125] at b124 b124b ⊢
        refine bd_i (by omega) ?_
        refine sx_nm (fun U126 hU126 => ?_)
        have e127 := up_f hU126
        refine bd_i (by omega) ?_
        refine sx_nm (fun U128 hU128 => ?_)
        have e129 := up_f hU128
        intro b130 b130b
        have e131 : U128 111 0 57 = T1 111 0 57 := (up_j hU128 (by decide) 111 0).trans ((up_j hU126 (by decide) 111 0).trans (up_j hU122 (by decide) 111 0))
        rw [e131] at b130 b130b ⊢
        intro b132 b132b
        have e133 : U128 111 0 1 = T 111 0 1 := (up_j hU128 (by decide) 111 0).trans ((up_j hU126 (by decide) 111 0).trans ((up_j hU122 (by decide) 111 0).trans (hf_0 111 0 1 rfl)))
        rw [e133] at b132 b132b ⊢
        refine And.intro (fun c134 => ?_) (fun c134 => ?_)
        · refine hK 85 [some (vR 111 0), none] [] U128 ?_
          refine j_blk (F := fX11) tb_X11 (by decide) bk_X11_take_85 hz (fun K hK => ?_)
          intro b135 b135b
          have e136 : U128 111 0 57 = T1 111 0 57 := (up_j hU128 (by decide) 111 0).trans ((up_j hU126 (by decide) 111 0).trans (up_j hU122 (by decide) 111 0))
          rw [e136] at b135 b135b ⊢
          refine ix_i (by omega) ?_
          intro b137 b137b
          have e138 : U128 200 0 (T1 111 0 57) = T 200 0 (T1 111 0 57) := (up_k hU128 (by decide) 0 (T1 111 0 57)).trans ((up_k hU126 (by decide) 0 (T1 111 0 57)).trans ((up_k hU122 (by decide) 0 (T1 111 0 57)).trans (hf_0 200 0 (T1 111 0 57) rfl)))
          rw [e138] at b137 b137b ⊢
          refine hK 96 [some (vR 111 0), some (vI (T 200 0 (T1 111 0 57)))] [vI (T 200 0 (T1 111 0 57))] U128 ?_
          refine j_callS (y := yX11_isLetter) (Yc := zX11_isLetter) (rest := []) [vI (T 200 0 (T1 111 0 57))] (ct_X11_isLetter (T := U128)) cl_X11_277 (by decide +kernel) (by decide) rfl (by decide +kernel) (Nat.le_of_ble_eq_true rfl) (by decide) (by decide) rfl ?_
          rintro _ _ ⟨rfl, x139, rfl, hx139⟩
          show J_ zX11_take T (po_X11_take T) 0 0 99 [some (vR 111 0), some (vI (T 200 0 (T1 111 0 57)))] [vI x139] U128
          refine j_blk (F := fX11) tb_X11 (by decide) bk_X11_take_99 hz (fun K hK => ?_)
          refine And.intro (fun c140 => ?_) (fun c140 => ?_)
          · refine hK 172 [some (vR 111 0), some (vI (T 200 0 (T1 111 0 57)))] [] U128 ?_
            refine j_blk (F := fX11) tb_X11 (by decide) bk_X11_take_172 hz (fun K hK => ?_)
            refine hK 173 [some (vR 111 0), some (vI (T 200 0 (T1 111 0 57)))] [vI (T 200 0 (T1 111 0 57))] U128 ?_
            refine j_callS (y := yX11_isDigit) (Yc := zX11_isDigit) (rest := []) [vI (T 200 0 (T1 111 0 57))] (ct_X11_isDigit (T := U128)) cl_X11_285 (by decide +kernel) (by decide) rfl (by decide +kernel) (Nat.le_of_ble_eq_true rfl) (by decide) (by decide) rfl ?_
            rintro _ _ ⟨rfl, x141, rfl, hx141⟩
            show J_ zX11_take T (po_X11_take T) 0 0 176 [some (vR 111 0), some (vI (T 200 0 (T1 111 0 57)))] [vI x141] U128
            refine j_blk (F := fX11) tb_X11 (by decide) bk_X11_take_176 hz (fun K hK => ?_)
            refine And.intro (fun c142 => ?_) (fun c142 => ?_)
            · refine hK 297 [some (vR 111 0), some (vI (T 200 0 (T1 111 0 57)))] [] U128 ?_
              refine j_blk (F := fX11) tb_X11 (by decide) bk_X11_take_297 hz (fun K hK => ?_)
              refine And.intro (fun c143 => ?_) (fun c143 => ?_)
              · refine hK 309 [some (vR 111 0), some (vI (T 200 0 (T1 111 0 57)))] [] U128 ?_
                refine j_blk (F := fX11) tb_X11 (by decide) bk_X11_take_309 hz (fun K hK => ?_)
                refine And.intro (fun c144 => ?_) (fun c144 => ?_)
                · refine hK 320 [some (vR 111 0), some (vI (T 200 0 (T1 111 0 57)))] [vR 111 0] U128 ?_
                  refine j_blk (F := fX11) tb_X11 (by decide) bk_X11_take_320 hz (fun K hK => ?_)
                  refine bd_i (by omega) ?_
                  refine sx_nm (fun U145 hU145 => ?_)
                  have e146 := up_f hU145
                  intro b147 b147b
                  have e148 : U145 111 0 60 = T1 111 0 57 := (up_j hU145 (by decide) 111 0).trans ((up_j hU128 (by decide) 111 0).trans (up_f hU126))
                  rw [e148] at b147 b147b ⊢
                  refine rg_i (by omega) ?_
                  refine bd_i (by omega) ?_
                  refine sx_nm (fun U149 hU149 => ?_)
                  have e150 := up_f hU149
                  refine hK 346 [some (vR 111 0), some (vI (T 200 0 (T1 111 0 57)))] [] U149 ?_
                  refine j_drop [some (vR 111 0), none] (fun k v hk => ?_) rfl ?_
                  · match k, hk with
                    | 0, hk => exact hk
                    | 1, hk => cases hk
                    | k + 2, hk => cases hk
                  have e151 : U149 111 0 59 = T1 111 0 57 := (up_j hU149 (by decide) 111 0).trans ((up_j hU145 (by decide) 111 0).trans ((up_j hU128 (by decide) 111 0).trans ((up_j hU126 (by decide) 111 0).trans (up_f hU122))))
                  have e152 : U149 111 0 60 = (T1 111 0 57) + 1 := up_f hU149
                  have e153 : U149 111 0 58 = 4 := (up_j hU149 (by decide) 111 0).trans (up_f hU145)
                  have e154 : U149 111 0 62 = T 111 0 62 := (up_j hU149 (by decide) 111 0).trans ((up_j hU145 (by decide) 111 0).trans ((up_j hU128 (by decide) 111 0).trans ((up_j hU126 (by decide) 111 0).trans ((up_j hU122 (by decide) 111 0).trans (hf_0 111 0 62 rfl)))))
                  refine c_346 U149 ?_ ?_
                  · exact fr_u (fr_u (fr_u (fr_u (fr_u (fr_t (fr_0 _ _) (fr_s hf_0 rfl)) hU122 rfl) hU126 rfl) hU128 rfl) hU145 rfl) hU149 rfl
                  · omega
                · refine hK 321 [some (vR 111 0), some (vI (T 200 0 (T1 111 0 57)))] [vI 3, vR 111 0] U128 ?_
                  refine j_blk (F := fX11) tb_X11 (by decide) bk_X11_take_321 hz (fun K hK => ?_)
                  refine bd_i (by omega) ?_
                  refine sx_nm (fun U155 hU155 => ?_)
                  have e156 := up_f hU155
                  intro b157 b157b
                  have e158 : U155 111 0 60 = T1 111 0 57 := (up_j hU155 (by decide) 111 0).trans ((up_j hU128 (by decide) 111 0).trans (up_f hU126))
                  rw [e158] at b157 b157b ⊢
                  refine rg_i (by omega) ?_
                  refine bd_i (by omega) ?_
                  refine sx_nm (fun U159 hU159 => ?_)
                  have e160 := up_f hU159
                  refine hK 346 [some (vR 111 0), some (vI (T 200 0 (T1 111 0 57)))] [] U159 ?_
                  refine j_drop [some (vR 111 0), none] (fun k v hk => ?_) rfl ?_
                  · match k, hk with
                    | 0, hk => exact hk
                    | 1, hk => cases hk
                    | k + 2, hk => cases hk
                  have e161 : U159 111 0 59 = T1 111 0 57 := (up_j hU159 (by decide) 111 0).trans ((up_j hU155 (by decide) 111 0).trans ((up_j hU128 (by decide) 111 0).trans ((up_j hU126 (by decide) 111 0).trans (up_f hU122))))
                  have e162 : U159 111 0 60 = (T1 111 0 57) + 1 := up_f hU159
                  have e163 : U159 111 0 58 = 3 := (up_j hU159 (by decide) 111 0).trans (up_f hU155)
                  have e164 : U159 111 0 62 = T 111 0 62 := (up_j hU159 (by decide) 111 0).trans ((up_j hU155 (by decide) 111 0).trans ((up_j hU128 (by decide) 111 0).trans ((up_j hU126 (by decide) 111 0).trans ((up_j hU122 (by decide) 111 0).trans (hf_0 111 0 62 rfl)))))
                  refine c_346 U159 ?_ ?_
                  · exact fr_u (fr_u (fr_u (fr_u (fr_u (fr_t (fr_0 _ _) (fr_s hf_0 rfl)) hU122 rfl) hU126 rfl) hU128 rfl) hU155 rfl) hU159 rfl
                  · omega
              · refine And.intro (fun c165 => ?_) (fun c165 => ?_)
                · refine hK 337 [some (vR 111 0), some (vI (T 200 0 (T1 111 0 57)))] [] U128 ?_
                  refine j_blk (F := fX11) tb_X11 (by decide) bk_X11_take_337 hz (fun K hK => ?_)
                  intro b166 b166b
                  have e167 : U128 111 0 59 = T1 111 0 57 := (up_j hU128 (by decide) 111 0).trans ((up_j hU126 (by decide) 111 0).trans (up_f hU122))
                  rw [e167] at b166 b166b ⊢
                  refine hK 343 [some (vR 111 0), some (vI (T 200 0 (T1 111 0 57)))] [vI (T1 111 0 57), vI 1, vR 111 0] U128 ?_
                  refine j_callV (y := yX11_bad) (Yc := zX11_bad) (rest := []) [vI 1, vI (T1 111 0 57)] (ct_X11_bad (T := U128) (by omega) (by omega)) cl_X11_281 (by decide +kernel) (by decide) rfl (by decide +kernel) (Nat.le_of_ble_eq_true rfl) (by decide) (by decide) rfl ?_
                  rintro U168 _ ⟨rfl, fU168, qU168⟩
                  show J_ zX11_take T (po_X11_take T) 0 0 346 [some (vR 111 0), some (vI (T 200 0 (T1 111 0 57)))] [] U168
                  refine j_drop [some (vR 111 0), none] (fun k v hk => ?_) rfl ?_
                  · match k, hk with
                    | 0, hk => exact hk
                    | 1, hk => cases hk
                    | k + 2, hk => cases hk
                  have e169 : U168 111 0 59 = T1 111 0 57 := (fU168 111 0 59 rfl).trans ((up_j hU128 (by decide) 111 0).trans ((up_j hU126 (by decide) 111 0).trans (up_f hU122)))
                  have e170 : U168 111 0 60 = T1 111 0 57 := (fU168 111 0 60 rfl).trans ((up_j hU128 (by decide) 111 0).trans (up_f hU126))
                  have e171 : U168 111 0 58 = 0 := (fU168 111 0 58 rfl).trans (up_f hU128)
                  refine c_346 U168 ?_ ?_
                  · exact fr_t (fr_u (fr_u (fr_u (fr_t (fr_0 _ _) (fr_s hf_0 rfl)) hU122 rfl) hU126 rfl) hU128 rfl) (fr_s fU168 rfl)
                  · omega
                · refine And.intro (fun c172 => ?_) (fun c172 => ?_)
                  · refine hK 320 [some (vR 111 0), some (vI (T 200 0 (T1 111 0 57)))] [vR 111 0] U128 ?_
                    refine j_blk (F := fX11) tb_X11 (by decide) bk_X11_take_320 hz (fun K hK => ?_)
                    refine bd_i (by omega) ?_
                    refine sx_nm (fun U173 hU173 => ?_)
                    have e174 := up_f hU173
                    intro b175 b175b
                    have e176 : U173 111 0 60 = T1 111 0 57 := (up_j hU173 (by decide) 111 0).trans ((up_j hU128 (by decide) 111 0).trans (up_f hU126))
                    rw [e176] at b175 b175b ⊢
                    refine rg_i (by omega) ?_
                    refine bd_i (by omega) ?_
                    refine sx_nm (fun U177 hU177 => ?_)
                    have e178 := up_f hU177
                    refine hK 346 [some (vR 111 0), some (vI (T 200 0 (T1 111 0 57)))] [] U177 ?_
                    refine j_drop [some (vR 111 0), none] (fun k v hk => ?_) rfl ?_
                    · match k, hk with
                      | 0, hk => exact hk
                      | 1, hk => cases hk
                      | k + 2, hk => cases hk
                    have e179 : U177 111 0 59 = T1 111 0 57 := (up_j hU177 (by decide) 111 0).trans ((up_j hU173 (by decide) 111 0).trans ((up_j hU128 (by decide) 111 0).trans ((up_j hU126 (by decide) 111 0).trans (up_f hU122))))
                    have e180 : U177 111 0 60 = (T1 111 0 57) + 1 := up_f hU177
                    have e181 : U177 111 0 58 = 4 := (up_j hU177 (by decide) 111 0).trans (up_f hU173)
                    have e182 : U177 111 0 62 = T 111 0 62 := (up_j hU177 (by decide) 111 0).trans ((up_j hU173 (by decide) 111 0).trans ((up_j hU128 (by decide) 111 0).trans ((up_j hU126 (by decide) 111 0).trans ((up_j hU122 (by decide) 111 0).trans (hf_0 111 0 62 rfl)))))
                    refine c_346 U177 ?_ ?_
                    · exact fr_u (fr_u (fr_u (fr_u (fr_u (fr_t (fr_0 _ _) (fr_s hf_0 rfl)) hU122 rfl) hU126 rfl) hU128 rfl) hU173 rfl) hU177 rfl
                    · omega
                  · refine hK 321 [some (vR 111 0), some (vI (T 200 0 (T1 111 0 57)))] [vI 3, vR 111 0] U128 ?_
                    refine j_blk (F := fX11) tb_X11 (by decide) bk_X11_take_321 hz (fun K hK => ?_)
                    refine bd_i (by omega) ?_
                    refine sx_nm (fun U183 hU183 => ?_)
                    have e184 := up_f hU183
                    intro b185 b185b
                    have e186 : U183 111 0 60 = T1 111 0 57 := (up_j hU183 (by decide) 111 0).trans ((up_j hU128 (by decide) 111 0).trans (up_f hU126))
                    rw [e186] at b185 b185b ⊢
                    refine rg_i (by omega) ?_
                    refine bd_i (by omega) ?_
                    refine sx_nm (fun U187 hU187 => ?_)
                    have e188 := up_f hU187
                    refine hK 346 [some (vR 111 0), some (vI (T 200 0 (T1 111 0 57)))] [] U187 ?_
                    refine j_drop [some (vR 111 0), none] (fun k v hk => ?_) rfl ?_
                    · match k, hk with
                      | 0, hk => exact hk
                      | 1, hk => cases hk
                      | k + 2, hk => cases hk
                    have e189 : U187 111 0 59 = T1 111 0 57 := (up_j hU187 (by decide) 111 0).trans ((up_j hU183 (by decide) 111 0).trans ((up_j hU128 (by decide) 111 0).trans ((up_j hU126 (by decide) 111 0).trans (up_f hU122))))
                    have e190 : U187 111 0 60 = (T1 111 0 57) + 1 := up_f hU187
                    have e191 : U187 111 0 58 = 3 := (up_j hU187 (by decide) 111 0).trans (up_f hU183)
                    have e192 : U187 111 0 62 = T 111 0 62 := (up_j hU187 (by decide) 111 0).trans ((up_j hU183 (by decide) 111 0).trans ((up_j hU128 (by decide) 111 0).trans ((up_j hU126 (by decide) 111 0).trans ((up_j hU122 (by decide) 111 0).trans (hf_0 111 0 62 rfl)))))
                    refine c_346 U187 ?_ ?_
                    · exact fr_u (fr_u (fr_u (fr_u (fr_u (fr_t (fr_0 _ _) (fr_s hf_0 rfl)) hU122 rfl) hU126 rfl) hU128 rfl) hU183 rfl) hU187 rfl
                    · omega
            · refine bd_i (by omega) ?_
              refine sx_nm (fun U193 hU193 => ?_)
              have e194 := up_f hU193
              refine hK 184 [some (vR 111 0), some (vI (T 200 0 (T1 111 0 57)))] [] U193 ?_
              refine j_drop [some (vR 111 0), none] (fun k v hk => ?_) rfl ?_
              · match k, hk with
                | 0, hk => exact hk
                | 1, hk => cases hk
                | k + 2, hk => cases hk
              have e195 : U193 111 0 59 = T1 111 0 57 := (up_j hU193 (by decide) 111 0).trans ((up_j hU128 (by decide) 111 0).trans ((up_j hU126 (by decide) 111 0).trans (up_f hU122)))
              have e196 : U193 111 0 60 = T1 111 0 57 := (up_j hU193 (by decide) 111 0).trans ((up_j hU128 (by decide) 111 0).trans (up_f hU126))
              have e197 : U193 111 0 62 = T 111 0 62 := (up_j hU193 (by decide) 111 0).trans ((up_j hU128 (by decide) 111 0).trans ((up_j hU126 (by decide) 111 0).trans ((up_j hU122 (by decide) 111 0).trans (hf_0 111 0 62 rfl))))
              refine c_184 _ U193 (Nat.le_refl _) ?_ ?_ ?_
              · exact fr_u (fr_u (fr_u (fr_u (fr_t (fr_0 _ _) (fr_s hf_0 rfl)) hU122 rfl) hU126 rfl) hU128 rfl) hU193 rfl
              · omega
              · omega
          · refine hK 102 [some (vR 111 0), some (vI (T 200 0 (T1 111 0 57)))] [] U128 ?_
            refine j_drop [some (vR 111 0), none] (fun k v hk => ?_) rfl ?_
            · match k, hk with
              | 0, hk => exact hk
              | 1, hk => cases hk
              | k + 2, hk => cases hk
            have e198 : U128 111 0 59 = T1 111 0 57 := (up_j hU128 (by decide) 111 0).trans ((up_j hU126 (by decide) 111 0).trans (up_f hU122))
            have e199 : U128 111 0 60 = T1 111 0 57 := (up_j hU128 (by decide) 111 0).trans (up_f hU126)
            have e200 : U128 111 0 62 = T 111 0 62 := (up_j hU128 (by decide) 111 0).trans ((up_j hU126 (by decide) 111 0).trans ((up_j hU122 (by decide) 111 0).trans (hf_0 111 0 62 rfl)))
            refine c_102 _ U128 (Nat.le_refl _) ?_ ?_ ?_
            · exact fr_u (fr_u (fr_u (fr_t (fr_0 _ _) (fr_s hf_0 rfl)) hU122 rfl) hU126 rfl) hU128 rfl
            · omega
            · omega
        · refine (show po_X11_take T U128 (none) from ?_)
          have e201 : U128 111 0 57 = T1 111 0 57 := (up_j hU128 (by decide) 111 0).trans ((up_j hU126 (by decide) 111 0).trans (up_j hU122 (by decide) 111 0))
          have e202 : U128 111 0 59 = T1 111 0 57 := (up_j hU128 (by decide) 111 0).trans ((up_j hU126 (by decide) 111 0).trans (up_f hU122))
          have e203 : U128 111 0 60 = T1 111 0 57 := (up_j hU128 (by decide) 111 0).trans (up_f hU126)
          have e204 : U128 111 0 58 = 0 := up_f hU128
          have e205 : U128 111 0 62 = T 111 0 62 := (up_j hU128 (by decide) 111 0).trans ((up_j hU126 (by decide) 111 0).trans ((up_j hU122 (by decide) 111 0).trans (hf_0 111 0 62 rfl)))
          exact ⟨rfl, fr_u (fr_u (fr_u (fr_t (fr_0 _ _) (fr_s hf_0 rfl)) hU122 rfl) hU126 rfl) hU128 rfl, by omega⟩
      refine j_blk (F := fX11) tb_X11 (by decide) bk_X11_take_0 hz (fun K hK => ?_)
      intro b206 b206b
      intro b207 b207b
      have e208 : T1 111 0 1 = T 111 0 1 := hf_0 111 0 1 rfl
      rw [e208] at b207 b207b ⊢
      refine And.intro (fun c209 => ?_) (fun c209 => ?_)
      · refine hK 52 [some (vR 111 0), none] [] T1 ?_
        exact c_52 
      · intro b210 b210b
        refine ix_i (by omega) ?_
        intro b211 b211b
        have e212 : T1 200 0 (T1 111 0 57) = T 200 0 (T1 111 0 57) := hf_0 200 0 (T1 111 0 57) rfl
        rw [e212] at b211 b211b ⊢
        refine And.intro (fun c213 => ?_) (fun c213 => ?_)
        · refine hK 39 [some (vR 111 0), none] [] T1 ?_
          refine j_blk (F := fX11) tb_X11 (by decide) bk_X11_take_39 hz (fun K hK => ?_)
          intro b214 b214b
          refine rg_i (by omega) ?_
          refine bd_i (by omega) ?_
          refine sx_nm (fun U215 hU215 => ?_)
          have e216 := up_f hU215
          refine hK 0 [some (vR 111 0), none] [] U215 ?_
          have e217 : U215 111 0 57 = (T1 111 0 57) + 1 := up_f hU215
          refine ih_0 _ ?_ U215 (Nat.le_refl _) ?_ ?_
          · omega
          · exact fr_u (fr_t (fr_0 _ _) (fr_s hf_0 rfl)) hU215 rfl
          · omega
        · intro b218 b218b
          refine ix_i (by omega) ?_
          intro b219 b219b
          have e220 : T1 200 0 (T1 111 0 57) = T 200 0 (T1 111 0 57) := hf_0 200 0 (T1 111 0 57) rfl
          rw [e220] at b219 b219b ⊢
          refine And.intro (fun c221 => ?_) (fun c221 => ?_)
          · refine hK 52 [some (vR 111 0), none] [] T1 ?_
            exact c_52 
          · intro b222 b222b
            refine rg_i (by omega) ?_
            refine bd_i (by omega) ?_
            refine sx_nm (fun U223 hU223 => ?_)
            have e224 := up_f hU223
            refine hK 0 [some (vR 111 0), none] [] U223 ?_
            have e225 : U223 111 0 57 = (T1 111 0 57) + 1 := up_f hU223
            refine ih_0 _ ?_ U223 (Nat.le_refl _) ?_ ?_
            · omega
            · exact fr_u (fr_t (fr_0 _ _) (fr_s hf_0 rfl)) hU223 rfl
            · omega
  refine c_0 _ T (Nat.le_refl _) ?_ ?_
  · exact fr_0 _ _
  · omega
