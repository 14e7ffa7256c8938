def wl_264 : List Int := [115, 112, 111, 114, 116, 32, 112, 111, 105, 110, 116, 115, 32, 111, 114, 100, 101, 114, 32, 114, 101, 100, 111, 32, 108, 101, 103, 115, 32, 101, 118, 101, 114, 121, 32, 114, 101, 115, 116, 32, 102, 105, 101, 108, 100, 32, 115, 117, 98, 115, 32, 116, 97, 114, 103, 101, 116, 32, 119, 97, 108, 107, 111, 118, 101, 114, 32, 99, 97, 114, 100, 115, 32, 114, 101, 100, 32, 115, 101, 101, 100, 32]
def wl_265 : List Int := [102, 111, 111, 116, 98, 97, 108, 108, 32, 118, 111, 108, 108, 101, 121, 98, 97, 108, 108, 32, 116, 101, 110, 110, 105, 115, 32, 98, 97, 115, 101, 98, 97, 108, 108, 32]
def wl_266 : List Int := [100, 105, 102, 102, 32, 115, 99, 111, 114, 101, 100, 32, 119, 105, 110, 115, 32, 97, 119, 97, 121, 32, 104, 101, 97, 100, 32, 102, 97, 105, 114, 32, 108, 111, 116, 115, 32]
def wl_267 : List Int := [1, 1, 1, 1, 0, 2, 1, 1, 1, 0]
def wl_268 : List Int := [4, 30, 9, 6, 5, 25, 9, 9, 9, 999]
/-- the reference's constant rows hold their words -/
def CW_ (T : Zt) : Prop := (∀ i : Int, 0 ≤ i → i < 82 → T 264 0 i = wl_264.getD i.toNat 0) ∧ (∀ i : Int, 0 ≤ i → i < 36 → T 265 0 i = wl_265.getD i.toNat 0) ∧ (∀ i : Int, 0 ≤ i → i < 37 → T 266 0 i = wl_266.getD i.toNat 0) ∧ (∀ i : Int, 0 ≤ i → i < 10 → T 267 0 i = wl_267.getD i.toNat 0) ∧ (∀ i : Int, 0 ≤ i → i < 10 → T 268 0 i = wl_268.getD i.toNat 0)
theorem CW_f {ws : List (Nat × List Int)} {T T' : Zt} (h : CW_ T) (f : fr_ ws T T') (w : (∀ j, fw_ ws 264 j = false) ∧ (∀ j, fw_ ws 265 j = false) ∧ (∀ j, fw_ ws 266 j = false) ∧ (∀ j, fw_ ws 267 j = false) ∧ (∀ j, fw_ ws 268 j = false)) : CW_ T' := ⟨fun i a b => (f 264 0 i (w.1 i)).trans (h.1 i a b), fun i a b => (f 265 0 i (w.2.1 i)).trans (h.2.1 i a b), fun i a b => (f 266 0 i (w.2.2.1 i)).trans (h.2.2.1 i a b), fun i a b => (f 267 0 i (w.2.2.2.1 i)).trans (h.2.2.2.1 i a b), fun i a b => (f 268 0 i (w.2.2.2.2 i)).trans (h.2.2.2.2 i a b)⟩
def ws_ok (w : List Int) (ts : List (Int × Int × Int)) : Bool := ts.all fun q => decide (0 ≤ q.1) && decide (q.1 ≤ q.2.2) && decide (q.2.2 < w.length) && ((List.range w.length).all fun i => if q.1 ≤ (i : Int) ∧ (i : Int) < q.2.2 then w.getD i 0 != 32 else true) && (w.getD q.2.2.toNat 0 == 32)
def wt_264 : List (Int × Int × Int) := [(0, 0, 5), (6, 1, 12), (13, 2, 18), (19, 3, 23), (24, 4, 28), (29, 5, 34), (35, 6, 39), (40, 7, 45), (46, 8, 50), (51, 9, 57), (58, 10, 66), (67, 11, 72), (73, 12, 76), (77, 13, 81)]
/-- at the start of word nr, or behind the last -/
def wp_264 (k nr : Int) : Prop := (∃ e, (k, nr, e) ∈ wt_264) ∨ (k = 82 ∧ nr = 14)
theorem wn_264 : ∀ q ∈ wt_264, 0 ≤ q.2.1 ∧ q.2.1 < 14 ∧ ((∃ e, (q.2.2 + 1, q.2.1 + 1, e) ∈ wt_264) ∨ (q.2.2 + 1 = 82 ∧ q.2.1 + 1 = 14)) := by
  have h : ∀ q ∈ wt_264, 0 ≤ q.2.1 ∧ q.2.1 < 14 ∧ ((wt_264.any fun z => z.1 == q.2.2 + 1 && z.2.1 == q.2.1 + 1) = true ∨ (q.2.2 + 1 = 82 ∧ q.2.1 + 1 = 14)) := by decide +kernel
  intro q hq
  refine ⟨(h q hq).1, (h q hq).2.1, (h q hq).2.2.imp (fun z => ?_) id⟩
  obtain ⟨⟨a, b, e⟩, h1, h2⟩ := List.any_eq_true.mp z
  simp only [Bool.and_eq_true, beq_iff_eq] at h2
  obtain ⟨rfl, rfl⟩ := h2
  exact ⟨e, h1⟩
theorem wc_264 : ws_ok wl_264 wt_264 = true := by decide +kernel
theorem ww_264 {T : Zt} (hC : CW_ T) {k nr : Int} (h : wp_264 k nr) (hk : k < 82) : ∃ e, 0 ≤ k ∧ k ≤ e ∧ e < 82 ∧ (∀ i, k ≤ i → i < e → T 264 0 i ≠ 32) ∧ T 264 0 e = 32 ∧ wp_264 (e + 1) (nr + 1) ∧ 0 ≤ nr ∧ nr < 14 := by
  rcases h with ⟨e, he⟩ | h
  · have h1 := List.all_eq_true.mp wc_264 _ he
    simp only [Bool.and_eq_true, decide_eq_true_eq, beq_iff_eq] at h1
    obtain ⟨⟨⟨⟨a0, a1⟩, a2⟩, a3⟩, a4⟩ := h1
    have a2 : e < 82 := a2
    have hn := wn_264 _ he
    refine ⟨e, a0, a1, a2, fun i hi1 hi2 => ?_, ?_, hn.2.2, hn.1, hn.2.1⟩
    · have h2 := List.all_eq_true.mp a3 i.toNat (List.mem_range.mpr (by show i.toNat < 82; omega))
      rw [if_pos ⟨by omega, by omega⟩] at h2
      rw [hC.1 i (by omega) (by omega)]
      simpa using h2
    · rw [hC.1 e (by omega) (by omega)]
      exact a4
  · omega
def wt_265 : List (Int × Int × Int) := [(0, 0, 8), (9, 1, 19), (20, 2, 26), (27, 3, 35)]
/-- at the start of word nr, or behind the last -/
def wp_265 (k nr : Int) : Prop := (∃ e, (k, nr, e) ∈ wt_265) ∨ (k = 36 ∧ nr = 4)
theorem wn_265 : ∀ q ∈ wt_265, 0 ≤ q.2.1 ∧ q.2.1 < 4 ∧ ((∃ e, (q.2.2 + 1, q.2.1 + 1, e) ∈ wt_265) ∨ (q.2.2 + 1 = 36 ∧ q.2.1 + 1 = 4)) := by
  have h : ∀ q ∈ wt_265, 0 ≤ q.2.1 ∧ q.2.1 < 4 ∧ ((wt_265.any fun z => z.1 == q.2.2 + 1 && z.2.1 == q.2.1 + 1) = true ∨ (q.2.2 + 1 = 36 ∧ q.2.1 + 1 = 4)) := by decide +kernel
  intro q hq
  refine ⟨(h q hq).1, (h q hq).2.1, (h q hq).2.2.imp (fun z => ?_) id⟩
  obtain ⟨⟨a, b, e⟩, h1, h2⟩ := List.any_eq_true.mp z
  simp only [Bool.and_eq_true, beq_iff_eq] at h2
  obtain ⟨rfl, rfl⟩ := h2
  exact ⟨e, h1⟩
theorem wc_265 : ws_ok wl_265 wt_265 = true := by decide +kernel
theorem ww_265 {T : Zt} (hC : CW_ T) {k nr : Int} (h : wp_265 k nr) (hk : k < 36) : ∃ e, 0 ≤ k ∧ k ≤ e ∧ e < 36 ∧ (∀ i, k ≤ i → i < e → T 265 0 i ≠ 32) ∧ T 265 0 e = 32 ∧ wp_265 (e + 1) (nr + 1) ∧ 0 ≤ nr ∧ nr < 4 := by
  rcases h with ⟨e, he⟩ | h
  · have h1 := List.all_eq_true.mp wc_265 _ he
    simp only [Bool.and_eq_true, decide_eq_true_eq, beq_iff_eq] at h1
    obtain ⟨⟨⟨⟨a0, a1⟩, a2⟩, a3⟩, a4⟩ := h1
    have a2 : e < 36 := a2
    have hn := wn_265 _ he
    refine ⟨e, a0, a1, a2, fun i hi1 hi2 => ?_, ?_, hn.2.2, hn.1, hn.2.1⟩
    · have h2 := List.all_eq_true.mp a3 i.toNat (List.mem_range.mpr (by show i.toNat < 36; omega))
      rw [if_pos ⟨by omega, by omega⟩] at h2
      rw [hC.2.1 i (by omega) (by omega)]
      simpa using h2
    · rw [hC.2.1 e (by omega) (by omega)]
      exact a4
  · omega
def wt_266 : List (Int × Int × Int) := [(0, 0, 4), (5, 1, 11), (12, 2, 16), (17, 3, 21), (22, 4, 26), (27, 5, 31), (32, 6, 36)]
/-- at the start of word nr, or behind the last -/
def wp_266 (k nr : Int) : Prop := (∃ e, (k, nr, e) ∈ wt_266) ∨ (k = 37 ∧ nr = 7)
theorem wn_266 : ∀ q ∈ wt_266, 0 ≤ q.2.1 ∧ q.2.1 < 7 ∧ ((∃ e, (q.2.2 + 1, q.2.1 + 1, e) ∈ wt_266) ∨ (q.2.2 + 1 = 37 ∧ q.2.1 + 1 = 7)) := by
  have h : ∀ q ∈ wt_266, 0 ≤ q.2.1 ∧ q.2.1 < 7 ∧ ((wt_266.any fun z => z.1 == q.2.2 + 1 && z.2.1 == q.2.1 + 1) = true ∨ (q.2.2 + 1 = 37 ∧ q.2.1 + 1 = 7)) := by decide +kernel
  intro q hq
  refine ⟨(h q hq).1, (h q hq).2.1, (h q hq).2.2.imp (fun z => ?_) id⟩
  obtain ⟨⟨a, b, e⟩, h1, h2⟩ := List.any_eq_true.mp z
  simp only [Bool.and_eq_true, beq_iff_eq] at h2
  obtain ⟨rfl, rfl⟩ := h2
  exact ⟨e, h1⟩
theorem wc_266 : ws_ok wl_266 wt_266 = true := by decide +kernel
theorem ww_266 {T : Zt} (hC : CW_ T) {k nr : Int} (h : wp_266 k nr) (hk : k < 37) : ∃ e, 0 ≤ k ∧ k ≤ e ∧ e < 37 ∧ (∀ i, k ≤ i → i < e → T 266 0 i ≠ 32) ∧ T 266 0 e = 32 ∧ wp_266 (e + 1) (nr + 1) ∧ 0 ≤ nr ∧ nr < 7 := by
  rcases h with ⟨e, he⟩ | h
  · have h1 := List.all_eq_true.mp wc_266 _ he
    simp only [Bool.and_eq_true, decide_eq_true_eq, beq_iff_eq] at h1
    obtain ⟨⟨⟨⟨a0, a1⟩, a2⟩, a3⟩, a4⟩ := h1
    have a2 : e < 37 := a2
    have hn := wn_266 _ he
    refine ⟨e, a0, a1, a2, fun i hi1 hi2 => ?_, ?_, hn.2.2, hn.1, hn.2.1⟩
    · have h2 := List.all_eq_true.mp a3 i.toNat (List.mem_range.mpr (by show i.toNat < 37; omega))
      rw [if_pos ⟨by omega, by omega⟩] at h2
      rw [hC.2.2.1 i (by omega) (by omega)]
      simpa using h2
    · rw [hC.2.2.1 e (by omega) (by omega)]
      exact a4
  · omega
abbrev cX11_bad : ByteArray := prog_13_method_8_code
def yX11_bad : MethodName := ⟨RX11, "bad", "(II)V"⟩
def zX11_bad : Zm := (RX11, cX11_bad, 3, none, { frames := 0, cells := 0, slots := 0, locals := 0 })
theorem bk_X11_bad_0 : ck_ fX11 none cX11_bad 0 [.aload 0, .tableswitch 0 11 62 #[], .ifCond .ne 17, .aload 0, .iload 1, .tableswitch 1 11 62 #[], .aload 0, .iload 2, .tableswitch 1 11 63 #[], .return_] 18 = true := by decide +kernel
theorem bk_X11_bad_17 : ck_ fX11 none cX11_bad 17 [.return_] 18 = true := by decide +kernel
abbrev po_X11_bad (T : Zt) (number place : Int) : Zt → Option Zv → Prop := fun T' r => r = none ∧ fr_ [(111, [62, 63])] T T' ∧ (T 111 0 62 = 0 ∧ T' 111 0 62 = number ∨ T 111 0 62 ≠ 0 ∧ T' 111 0 62 = T 111 0 62)
set_option maxHeartbeats 4000000 in
theorem ct_X11_bad {T : Zt} {number place : Int} (h1 : 1 ≤ number ∧ number ≤ 5) (h2 : -1 ≤ place ∧ place ≤ 400) : Ct_ yX11_bad zX11_bad T [vR 111 0, vI number, vI place] (po_X11_bad T number place) := by
  refine ct_of (by decide) rfl rfl (Nat.le_of_ble_eq_true rfl) (fun hT hav => ?_)
  have hr_number : -2147483648 ≤ number ∧ number ≤ 2147483647 := hav (vI number) (by simp)
  have hr_place : -2147483648 ≤ place ∧ place ≤ 2147483647 := hav (vI place) (by simp)
  have hz : zX11_bad.2.2.2.1 = some .boolean → ∀ (T' : Zt) (x : Int), po_X11_bad T number place T' (some (vI x)) → 0 ≤ x ∧ x ≤ 1 := fun h => by cases h
  show J_ zX11_bad T (po_X11_bad T number place) 0 0 0 [some (vR 111 0), some (vI number), some (vI place)] [] T
  refine j_blk (F := fX11) tb_X11 (by decide) bk_X11_bad_0 hz (fun K hK => ?_)
  intro b1 b1b
  refine And.intro (fun c2 => ?_) (fun c2 => ?_)
  · refine hK 17 [some (vR 111 0), some (vI number), some (vI place)] [] T ?_
    refine j_blk (F := fX11) tb_X11 (by decide) bk_X11_bad_17 hz (fun K hK => ?_)
    refine (show po_X11_bad T number place T (none) from ?_)
    exact ⟨rfl, fr_0 _ _, by omega⟩
  · refine bd_i (by omega) ?_
    refine sx_nm (fun U3 hU3 => ?_)
    have e4 := up_f hU3
    refine bd_i (by omega) ?_
    refine sx_nm (fun U5 hU5 => ?_)
    have e6 := up_f hU5
    refine (show po_X11_bad T number place U5 (none) from ?_)
    have e7 : U5 111 0 62 = number := (up_j hU5 (by decide) 111 0).trans (up_f hU3)
    exact ⟨rfl, fr_u (fr_u (fr_0 _ _) hU3 rfl) hU5 rfl, by omega⟩
abbrev cX11_take : ByteArray := prog_13_method_11_code
def yX11_take : MethodName := ⟨RX11, "take", "()V"⟩
def zX11_take : Zm := (RX11, cX11_take, 2, none, { frames := 2, cells := 0, slots := 0, locals := 42 })
theorem bk_X11_take_346 : ck_ fX11 none cX11_take 346 [.aload 0, .aload 0, .tableswitch 0 11 60 #[], .tableswitch 1 11 57 #[], .return_] 355 = true := by decide +kernel
theorem bk_X11_take_102 : ck_ fX11 none cX11_take 102 [.aload 0, .tableswitch 0 11 60 #[], .aload 0, .tableswitch 0 11 1 #[], .if_icmp .ge 141, .aload 0, .tableswitch 0 11 0 #[], .aload 0, .tableswitch 0 11 60 #[], .iaload] 122 = true := by decide +kernel
theorem bk_X11_take_141 : ck_ fX11 none cX11_take 141 [.aload 0, .iconst 1, .tableswitch 1 11 58 #[], .aload 0, .tableswitch 0 11 60 #[], .aload 0, .tableswitch 0 11 59 #[], .isub, .iconst 12, .if_icmp .le 346, .aload 0, .iconst 1, .aload 0, .tableswitch 0 11 59 #[]] 166 = true := by decide +kernel
theorem cl_X11_281 : cv_ RX11 281 yX11_bad zX11_bad 11 2 := ⟨gi_V (lw_at 1797 (by decide +kernel) rfl : Cond.methodLink RX11 281 yX11_bad ∈ lw_g) (lw_at 1799 (by decide +kernel) rfl : Cond.instanceMethod yX11_bad ∈ lw_g) (lw_sel 7 rfl : Cond.selects yX11_bad.cls yX11_bad yX11_bad ∈ lw_g) (lw_at 10 (by decide +kernel) rfl : Cond.initialized yX11_bad.cls ∈ lw_g) (lw_at 1800 (by decide +kernel) rfl : Cond.code yX11_bad cX11_bad 3 none ∈ lw_g), ⟨by decide, by decide, by decide +kernel⟩, ⟨_, _, rfl⟩⟩
theorem bk_X11_take_169 : ck_ fX11 none cX11_take 169 [.goto 346] 172 = true := by decide +kernel
theorem cl_X11_277 : cs_ RX11 277 yX11_isLetter zX11_isLetter 1 := ⟨gi_S (lw_at 1794 (by decide +kernel) rfl : Cond.methodLink RX11 277 yX11_isLetter ∈ lw_g) (lw_at 1795 (by decide +kernel) rfl : Cond.static yX11_isLetter ∈ lw_g) (lw_at 10 (by decide +kernel) rfl : Cond.initialized yX11_isLetter.cls ∈ lw_g) (lw_at 1796 (by decide +kernel) rfl : Cond.code yX11_isLetter cX11_isLetter 1 (some .boolean) ∈ lw_g), ⟨by decide, by decide, by decide +kernel⟩⟩
theorem bk_X11_take_125 : ck_ fX11 none cX11_take 125 [.ifCond .eq 141, .aload 0, .dup, .tableswitch 0 11 60 #[], .iconst 1, .iadd, .tableswitch 1 11 60 #[], .goto 102] 141 = true := by decide +kernel
theorem bk_X11_take_251 : ck_ fX11 none cX11_take 251 [.tableswitch 1 11 61 #[], .aload 0, .dup, .tableswitch 0 11 60 #[], .iconst 1, .iadd, .tableswitch 1 11 60 #[], .goto 184] 267 = true := by decide +kernel
theorem bk_X11_take_184 : ck_ fX11 none cX11_take 184 [.aload 0, .tableswitch 0 11 60 #[], .aload 0, .tableswitch 0 11 1 #[], .if_icmp .ge 267, .aload 0, .tableswitch 0 11 0 #[], .aload 0, .tableswitch 0 11 60 #[], .iaload] 204 = true := by decide +kernel
theorem bk_X11_take_267 : ck_ fX11 none cX11_take 267 [.aload 0, .iconst 2, .tableswitch 1 11 58 #[], .aload 0, .tableswitch 0 11 60 #[], .aload 0, .tableswitch 0 11 59 #[], .isub, .iconst 3, .if_icmp .le 346, .aload 0, .iconst 1, .aload 0, .tableswitch 0 11 59 #[]] 291 = true := by decide +kernel
theorem bk_X11_take_294 : ck_ fX11 none cX11_take 294 [.goto 346] 297 = true := by decide +kernel
theorem cl_X11_285 : cs_ RX11 285 yX11_isDigit zX11_isDigit 1 := ⟨gi_S (lw_at 1801 (by decide +kernel) rfl : Cond.methodLink RX11 285 yX11_isDigit ∈ lw_g) (lw_at 1802 (by decide +kernel) rfl : Cond.static yX11_isDigit ∈ lw_g) (lw_at 10 (by decide +kernel) rfl : Cond.initialized yX11_isDigit.cls ∈ lw_g) (lw_at 1803 (by decide +kernel) rfl : Cond.code yX11_isDigit cX11_isDigit 1 (some .boolean) ∈ lw_g), ⟨by decide, by decide, by decide +kernel⟩⟩
theorem bk_X11_take_207 : ck_ fX11 none cX11_take 207 [.ifCond .eq 267, .aload 0, .aload 0, .tableswitch 0 11 60 #[], .aload 0, .tableswitch 0 11 59 #[], .isub, .iconst 3, .if_icmp .ge 247, .iconst 10, .aload 0, .tableswitch 0 11 61 #[], .fmul, .aload 0, .tableswitch 0 11 0 #[], .aload 0, .tableswitch 0 11 60 #[], .iaload, .fadd, .iconst 48, .fsub, .goto 251] 247 = true := by decide +kernel
theorem bk_X11_take_247 : ck_ fX11 none cX11_take 247 [.aload 0, .tableswitch 0 11 61 #[]] 251 = true := by decide +kernel
theorem bk_X11_take_52 : ck_ fX11 none cX11_take 52 [.aload 0, .aload 0, .tableswitch 0 11 57 #[], .tableswitch 1 11 59 #[], .aload 0, .aload 0, .tableswitch 0 11 57 #[], .tableswitch 1 11 60 #[], .aload 0, .iconst 0, .tableswitch 1 11 58 #[], .aload 0, .tableswitch 0 11 57 #[], .aload 0, .tableswitch 0 11 1 #[], .if_icmp .ne 85, .return_] 85 = true := by decide +kernel
theorem bk_X11_take_85 : ck_ fX11 none cX11_take 85 [.aload 0, .tableswitch 0 11 0 #[], .aload 0, .tableswitch 0 11 57 #[], .iaload, .istore 1, .iload 1] 96 = true := by decide +kernel
theorem bk_X11_take_99 : ck_ fX11 none cX11_take 99 [.ifCond .eq 172] 102 = true := by decide +kernel
theorem bk_X11_take_172 : ck_ fX11 none cX11_take 172 [.iload 1] 173 = true := by decide +kernel
theorem bk_X11_take_176 : ck_ fX11 none cX11_take 176 [.ifCond .eq 297, .aload 0, .iconst 0, .tableswitch 1 11 61 #[]] 184 = true := by decide +kernel
theorem bk_X11_take_297 : ck_ fX11 none cX11_take 297 [.iload 1, .iconst 59, .if_icmp .eq 309, .iload 1, .iconst 44, .if_icmp .ne 337, .aload 0, .iload 1, .iconst 59, .if_icmp .ne 320, .iconst 3, .goto 321] 320 = true := by decide +kernel
theorem bk_X11_take_309 : ck_ fX11 none cX11_take 309 [.aload 0, .iload 1, .iconst 59, .if_icmp .ne 320, .iconst 3, .goto 321] 320 = true := by decide +kernel
theorem bk_X11_take_320 : ck_ fX11 none cX11_take 320 [.iconst 4, .tableswitch 1 11 58 #[], .aload 0, .dup, .tableswitch 0 11 60 #[], .iconst 1, .iadd, .tableswitch 1 11 60 #[], .goto 346] 337 = true := by decide +kernel
theorem bk_X11_take_321 : ck_ fX11 none cX11_take 321 [.tableswitch 1 11 58 #[], .aload 0, .dup, .tableswitch 0 11 60 #[], .iconst 1, .iadd, .tableswitch 1 11 60 #[], .goto 346] 337 = true := by decide +kernel
theorem bk_X11_take_337 : ck_ fX11 none cX11_take 337 [.aload 0, .iconst 1, .aload 0, .tableswitch 0 11 59 #[]] 343 = true := by decide +kernel
theorem bk_X11_take_0 : ck_ fX11 none cX11_take 0 [.aload 0, .tableswitch 0 11 57 #[], .aload 0, .tableswitch 0 11 1 #[], .if_icmp .ge 52, .aload 0, .tableswitch 0 11 0 #[], .aload 0, .tableswitch 0 11 57 #[], .iaload, .iconst 10, .if_icmp .eq 39, .aload 0, .tableswitch 0 11 0 #[], .aload 0, .tableswitch 0 11 57 #[], .iaload, .iconst 32, .if_icmp .ne 52, .aload 0, .dup, .tableswitch 0 11 57 #[], .iconst 1, .iadd, .tableswitch 1 11 57 #[], .goto 0] 52 = true := by decide +kernel
theorem bk_X11_take_39 : ck_ fX11 none cX11_take 39 [.aload 0, .dup, .tableswitch 0 11 57 #[], .iconst 1, .iadd, .tableswitch 1 11 57 #[], .goto 0] 52 = true := by decide +kernel
abbrev po_X11_take (T : Zt) : Zt → Option Zv → Prop := fun T' r => r = none ∧ fr_ [(111, [57, 58, 59, 60, 61, 62, 63])] T T' ∧ (T' 111 0 57 ≤ T 111 0 1 ∧ T 111 0 57 ≤ T' 111 0 59 ∧ T' 111 0 59 ≤ T' 111 0 60 ∧ T' 111 0 60 ≤ T 111 0 1 ∧ T 111 0 57 ≤ T' 111 0 57 ∧ (T' 111 0 58 ≠ 0 → T 111 0 57 < T' 111 0 57))
set_option maxHeartbeats 4000000 in
theorem ct_X11_take {T : Zt} (h1 : T 111 0 57 ≤ T 111 0 1) : Ct_ yX11_take zX11_take T [vR 111 0] (po_X11_take T) := by
  refine ct_of (by decide) rfl rfl (Nat.le_of_ble_eq_true rfl) (fun hT hav => ?_)
  have hz : zX11_take.2.2.2.1 = some .boolean → ∀ (T' : Zt) (x : Int), po_X11_take T T' (some (vI x)) → 0 ≤ x ∧ x ≤ 1 := fun h => by cases h
  show J_ zX11_take T (po_X11_take T) 0 0 0 [some (vR 111 0), none] [] T
  have c_0 : ∀ (nn : Nat) (T1 : Zt), ((T 111 0 1 - T1 111 0 57).toNat) ≤ nn → (fr_ [(111, [57])] T T1) → (T 111 0 57 ≤ T1 111 0 57 ∧ T1 111 0 57 ≤ T 111 0 1) → J_ zX11_take T (po_X11_take T) 0 0 0 [some (vR 111 0), none] [] T1 := by
    intro nn
    induction nn using Nat.strongRecOn with
    | _ nn ih_0 =>
      intro T1 hm_0 hf_0 i1
      have c_52 : J_ zX11_take T (po_X11_take T) 0 0 52 [some (vR 111 0), none] [] T1 := by
        have c_346 : ∀ (T3 : Zt), (fr_ [(111, [57, 58, 59, 60, 61, 62, 63])] T T3) → (T3 111 0 59 = T1 111 0 57 ∧ T1 111 0 57 ≤ T3 111 0 60 ∧ T3 111 0 60 ≤ T 111 0 1 ∧ (T3 111 0 58 ≠ 0 → T1 111 0 57 < T3 111 0 60) ∧ 0 ≤ T3 111 0 58 ∧ T3 111 0 58 ≤ 4) → J_ zX11_take T (po_X11_take T) 0 0 346 [some (vR 111 0), none] [] T3 := by
          intro T3 hf_346 j1
          refine j_blk (F := fX11) tb_X11 (by decide) bk_X11_take_346 hz (fun K hK => ?_)
          intro b1 b1b
          refine bd_i (by omega) ?_
          refine sx_nm (fun U2 hU2 => ?_)
          have e3 := up_f hU2
          refine (show po_X11_take T U2 (none) from ?_)
          have e4 : U2 111 0 57 = T3 111 0 60 := up_f hU2
          have e5 : U2 111 0 59 = T3 111 0 59 := up_j hU2 (by decide) 111 0
          have e6 : U2 111 0 60 = T3 111 0 60 := up_j hU2 (by decide) 111 0
          have e7 : U2 111 0 58 = T3 111 0 58 := up_j hU2 (by decide) 111 0
          exact ⟨rfl, fr_u (fr_t (fr_0 _ _) (fr_s hf_346 rfl)) hU2 rfl, by omega⟩
        have c_102 : ∀ (nn : Nat) (T2 : Zt), ((T 111 0 1 - T2 111 0 60).toNat) ≤ nn → (fr_ [(111, [57, 58, 59, 60, 61, 62, 63])] T T2) → (T2 111 0 59 = T1 111 0 57 ∧ T1 111 0 57 ≤ T2 111 0 60 ∧ T2 111 0 60 ≤ T 111 0 1 ∧ T1 111 0 57 < T 111 0 1) → (97 ≤ T 200 0 (T1 111 0 57) ∧ T 200 0 (T1 111 0 57) ≤ 122) → J_ zX11_take T (po_X11_take T) 0 0 102 [some (vR 111 0), none] [] T2 := by
          intro nn
          induction nn using Nat.strongRecOn with
          | _ nn ih_102 =>
            intro T2 hm_102 hf_102 k1 k2
            have cg : T2 111 0 60 = T1 111 0 57 → T 200 0 (T2 111 0 60) = T 200 0 (T1 111 0 57) := fun z => by rw [z]
            refine j_blk (F := fX11) tb_X11 (by decide) bk_X11_take_102 hz (fun K hK => ?_)
            intro b8 b8b
            intro b9 b9b
            have e10 : T2 111 0 1 = T 111 0 1 := hf_102 111 0 1 rfl
            rw [e10] at b9 b9b ⊢
            refine And.intro (fun c11 => ?_) (fun c11 => ?_)
            · refine hK 141 [some (vR 111 0), none] [] T2 ?_
              refine j_blk (F := fX11) tb_X11 (by decide) bk_X11_take_141 hz (fun K hK => ?_)
              refine bd_i (by omega) ?_
              refine sx_nm (fun U12 hU12 => ?_)
              have e13 := up_f hU12
              intro b14 b14b
              have e15 : U12 111 0 60 = T2 111 0 60 := up_j hU12 (by decide) 111 0
              rw [e15] at b14 b14b ⊢
              intro b16 b16b
              have e17 : U12 111 0 59 = T2 111 0 59 := up_j hU12 (by decide) 111 0
              rw [e17] at b16 b16b ⊢
              refine rg_i (by omega) ?_
              refine And.intro (fun c18 => ?_) (fun c18 => ?_)
              · refine hK 346 [some (vR 111 0), none] [] U12 ?_
                have e19 : U12 111 0 59 = T2 111 0 59 := up_j hU12 (by decide) 111 0
                have e20 : U12 111 0 60 = T2 111 0 60 := up_j hU12 (by decide) 111 0
                have e21 : U12 111 0 58 = 1 := up_f hU12
                refine c_346 U12 ?_ ?_
                · exact fr_u (fr_t (fr_0 _ _) (fr_s hf_102 rfl)) hU12 rfl
                · omega
              · intro b22 b22b
                have e23 : U12 111 0 59 = T2 111 0 59 := up_j hU12 (by decide) 111 0
                rw [e23] at b22 b22b ⊢
                refine hK 166 [some (vR 111 0), none] [vI (T2 111 0 59), vI 1, vR 111 0] U12 ?_
                refine j_callV (y := yX11_bad) (Yc := zX11_bad) (rest := []) [vI 1, vI (T2 111 0 59)] (ct_X11_bad (T := U12) (by omega) (by omega)) cl_X11_281 (by decide +kernel) (by decide) rfl (by decide +kernel) (Nat.le_of_ble_eq_true rfl) (by decide) (by decide) rfl ?_
                rintro U24 _ ⟨rfl, fU24, qU24⟩
                show J_ zX11_take T (po_X11_take T) 0 0 169 [some (vR 111 0), none] [] U24
                refine j_blk (F := fX11) tb_X11 (by decide) bk_X11_take_169 hz (fun K hK => ?_)
                refine hK 346 [some (vR 111 0), none] [] U24 ?_
                have e25 : U24 111 0 59 = T2 111 0 59 := (fU24 111 0 59 rfl).trans (up_j hU12 (by decide) 111 0)
                have e26 : U24 111 0 60 = T2 111 0 60 := (fU24 111 0 60 rfl).trans (up_j hU12 (by decide) 111 0)
                have e27 : U24 111 0 58 = 1 := (fU24 111 0 58 rfl).trans (up_f hU12)
                refine c_346 U24 ?_ ?_
                · exact fr_t (fr_u (fr_t (fr_0 _ _) (fr_s hf_102 rfl)) hU12 rfl) (fr_s fU24 rfl)
                · omega
            · intro b28 b28b
              refine ix_i (by omega) ?_
              intro b29 b29b
              have e30 : T2 200 0 (T2 111 0 60) = T 200 0 (T2 111 0 60) := hf_102 200 0 (T2 111 0 60) rfl
              rw [e30] at b29 b29b ⊢
              refine hK 122 [some (vR 111 0), none] [vI (T 200 0 (T2 111 0 60))] T2 ?_
              refine j_callS (y := yX11_isLetter) (Yc := zX11_isLetter) (rest := []) [vI (T 200 0 (T2 111 0 60))] (ct_X11_isLetter (T := T2)) cl_X11_277 (by decide +kernel) (by decide) rfl (by decide +kernel) (Nat.le_of_ble_eq_true rfl) (by decide) (by decide) rfl ?_
              rintro _ _ ⟨rfl, x31, rfl, hx31⟩
              show J_ zX11_take T (po_X11_take T) 0 0 125 [some (vR 111 0), none] [vI x31] T2
              refine j_blk (F := fX11) tb_X11 (by decide) bk_X11_take_125 hz (fun K hK => ?_)
              refine And.intro (fun c32 => ?_) (fun c32 => ?_)
              · refine hK 141 [some (vR 111 0), none] [] T2 ?_
                refine j_blk (F := fX11) tb_X11 (by decide) bk_X11_take_141 hz (fun K hK => ?_)
                refine bd_i (by omega) ?_
                refine sx_nm (fun U33 hU33 => ?_)
                have e34 := up_f hU33
                intro b35 b35b
                have e36 : U33 111 0 60 = T2 111 0 60 := up_j hU33 (by decide) 111 0
                rw [e36] at b35 b35b ⊢
                intro b37 b37b
                have e38 : U33 111 0 59 = T2 111 0 59 := up_j hU33 (by decide) 111 0
                rw [e38] at b37 b37b ⊢
                refine rg_i (by omega) ?_
                refine And.intro (fun c39 => ?_) (fun c39 => ?_)
                · refine hK 346 [some (vR 111 0), none] [] U33 ?_
                  have e40 : U33 111 0 59 = T2 111 0 59 := up_j hU33 (by decide) 111 0
                  have e41 : U33 111 0 60 = T2 111 0 60 := up_j hU33 (by decide) 111 0
                  have e42 : U33 111 0 58 = 1 := up_f hU33
                  refine c_346 U33 ?_ ?_
                  · exact fr_u (fr_t (fr_0 _ _) (fr_s hf_102 rfl)) hU33 rfl
                  · omega
                · intro b43 b43b
                  have e44 : U33 111 0 59 = T2 111 0 59 := up_j hU33 (by decide) 111 0
                  rw [e44] at b43 b43b ⊢
                  refine hK 166 [some (vR 111 0), none] [vI (T2 111 0 59), vI 1, vR 111 0] U33 ?_
                  refine j_callV (y := yX11_bad) (Yc := zX11_bad) (rest := []) [vI 1, vI (T2 111 0 59)] (ct_X11_bad (T := U33) (by omega) (by omega)) cl_X11_281 (by decide +kernel) (by decide) rfl (by decide +kernel) (Nat.le_of_ble_eq_true rfl) (by decide) (by decide) rfl ?_
                  rintro U45 _ ⟨rfl, fU45, qU45⟩
                  show J_ zX11_take T (po_X11_take T) 0 0 169 [some (vR 111 0), none] [] U45
                  refine j_blk (F := fX11) tb_X11 (by decide) bk_X11_take_169 hz (fun K hK => ?_)
                  refine hK 346 [some (vR 111 0), none] [] U45 ?_
                  have e46 : U45 111 0 59 = T2 111 0 59 := (fU45 111 0 59 rfl).trans (up_j hU33 (by decide) 111 0)
                  have e47 : U45 111 0 60 = T2 111 0 60 := (fU45 111 0 60 rfl).trans (up_j hU33 (by decide) 111 0)
                  have e48 : U45 111 0 58 = 1 := (fU45 111 0 58 rfl).trans (up_f hU33)
                  refine c_346 U45 ?_ ?_
                  · exact fr_t (fr_u (fr_t (fr_0 _ _) (fr_s hf_102 rfl)) hU33 rfl) (fr_s fU45 rfl)
                  · omega
              · intro b49 b49b
                refine rg_i (by omega) ?_
                refine bd_i (by omega) ?_
                refine sx_nm (fun U50 hU50 => ?_)
                have e51 := up_f hU50
                refine hK 102 [some (vR 111 0), none] [] U50 ?_
                have e52 : U50 111 0 59 = T2 111 0 59 := up_j hU50 (by decide) 111 0
                have e53 : U50 111 0 60 = (T2 111 0 60) + 1 := up_f hU50
                refine ih_102 _ ?_ U50 (Nat.le_refl _) ?_ ?_ ?_
                · omega
                · exact fr_u (fr_t (fr_0 _ _) (fr_s hf_102 rfl)) hU50 rfl
                · omega
                · omega
        have c_184 : ∀ (nn : Nat) (T2 : Zt), ((T 111 0 1 - T2 111 0 60).toNat) ≤ nn → (fr_ [(111, [57, 58, 59, 60, 61, 62, 63])] T T2) → (T2 111 0 59 = T1 111 0 57 ∧ T1 111 0 57 ≤ T2 111 0 60 ∧ T2 111 0 60 ≤ T 111 0 1 ∧ T1 111 0 57 < T 111 0 1) → (48 ≤ T 200 0 (T1 111 0 57) ∧ T 200 0 (T1 111 0 57) ≤ 57) → J_ zX11_take T (po_X11_take T) 0 0 184 [some (vR 111 0), none] [] T2 := by
          intro nn
          induction nn using Nat.strongRecOn with
          | _ nn ih_184 =>
            intro T2 hm_184 hf_184 k1 k2
            have cg : T2 111 0 60 = T1 111 0 57 → T 200 0 (T2 111 0 60) = T 200 0 (T1 111 0 57) := fun z => by rw [z]
            have c_251 : ∀ (v : Int), (-2147483648 ≤ v ∧ v ≤ 2147483647) → (T2 111 0 60 < T 111 0 1 ∧ T 111 0 1 ≤ 400) → J_ zX11_take T (po_X11_take T) 0 0 251 [some (vR 111 0), none] [vI v, vR 111 0] T2 := by
              intro v v1 v2
              refine j_blk (F := fX11) tb_X11 (by decide) bk_X11_take_251 hz (fun K hK => ?_)
              refine bd_i (by omega) ?_
              refine sx_nm (fun U54 hU54 => ?_)
              have e55 := up_f hU54
              intro b56 b56b
              have e57 : U54 111 0 60 = T2 111 0 60 := up_j hU54 (by decide) 111 0
              rw [e57] at b56 b56b ⊢
              refine rg_i (by omega) ?_
              refine bd_i (by omega) ?_
              refine sx_nm (fun U58 hU58 => ?_)
              have e59 := up_f hU58
              refine hK 184 [some (vR 111 0), none] [] U58 ?_
              have e60 : U58 111 0 59 = T2 111 0 59 := (up_j hU58 (by decide) 111 0).trans (up_j hU54 (by decide) 111 0)
              have e61 : U58 111 0 60 = (T2 111 0 60) + 1 := up_f hU58
              refine ih_184 _ ?_ U58 (Nat.le_refl _) ?_ ?_ ?_
              · omega
              · exact fr_u (fr_u (fr_t (fr_0 _ _) (fr_s hf_184 rfl)) hU54 rfl) hU58 rfl
              · omega
              · omega
            refine j_blk (F := fX11) tb_X11 (by decide) bk_X11_take_184 hz (fun K hK => ?_)
            intro b62 b62b
            intro b63 b63b
            have e64 : T2 111 0 1 = T 111 0 1 := hf_184 111 0 1 rfl
            rw [e64] at b63 b63b ⊢
            refine And.intro (fun c65 => ?_) (fun c65 => ?_)
            · refine hK 267 [some (vR 111 0), none] [] T2 ?_
              refine j_blk (F := fX11) tb_X11 (by decide) bk_X11_take_267 hz (fun K hK => ?_)
              refine bd_i (by omega) ?_
              refine sx_nm (fun U66 hU66 => ?_)
              have e67 := up_f hU66
              intro b68 b68b
              have e69 : U66 111 0 60 = T2 111 0 60 := up_j hU66 (by decide) 111 0
              rw [e69] at b68 b68b ⊢
              intro b70 b70b
              have e71 : U66 111 0 59 = T2 111 0 59 := up_j hU66 (by decide) 111 0
              rw [e71] at b70 b70b ⊢
              refine rg_i (by omega) ?_
              refine And.intro (fun c72 => ?_) (fun c72 => ?_)
              · refine hK 346 [some (vR 111 0), none] [] U66 ?_
                have e73 : U66 111 0 59 = T2 111 0 59 := up_j hU66 (by decide) 111 0
                have e74 : U66 111 0 60 = T2 111 0 60 := up_j hU66 (by decide) 111 0
                have e75 : U66 111 0 58 = 2 := up_f hU66
                refine c_346 U66 ?_ ?_
                · exact fr_u (fr_t (fr_0 _ _) (fr_s hf_184 rfl)) hU66 rfl
                · omega
              · intro b76 b76b
                have e77 : U66 111 0 59 = T2 111 0 59 := up_j hU66 (by decide) 111 0
                rw [e77] at b76 b76b ⊢
                refine hK 291 [some (vR 111 0), none] [vI (T2 111 0 59), vI 1, vR 111 0] U66 ?_
                refine j_callV (y := yX11_bad) (Yc := zX11_bad) (rest := []) [vI 1, vI (T2 111 0 59)] (ct_X11_bad (T := U66) (by omega) (by omega)) cl_X11_281 (by decide +kernel) (by decide) rfl (by decide +kernel) (Nat.le_of_ble_eq_true rfl) (by decide) (by decide) rfl ?_
                rintro U78 _ ⟨rfl, fU78, qU78⟩
                show J_ zX11_take T (po_X11_take T) 0 0 294 [some (vR 111 0), none] [] U78
                refine j_blk (F := fX11) tb_X11 (by decide) bk_X11_take_294 hz (fun K hK => ?_)
                refine hK 346 [some (vR 111 0), none] [] U78 ?_
                have e79 : U78 111 0 59 = T2 111 0 59 := (fU78 111 0 59 rfl).trans (up_j hU66 (by decide) 111 0)
                have e80 : U78 111 0 60 = T2 111 0 60 := (fU78 111 0 60 rfl).trans (up_j hU66 (by decide) 111 0)
                have e81 : U78 111 0 58 = 2 := (fU78 111 0 58 rfl).trans (up_f hU66)
                refine c_346 U78 ?_ ?_
                · exact fr_t (fr_u (fr_t (fr_0 _ _) (fr_s hf_184 rfl)) hU66 rfl) (fr_s fU78 rfl)
                · omega
            · intro b82 b82b
              refine ix_i (by omega) ?_
              intro b83 b83b
              have e84 : T2 200 0 (T2 111 0 60) = T 200 0 (T2 111 0 60) := hf_184 200 0 (T2 111 0 60) rfl
              rw [e84] at b83 b83b ⊢
              refine hK 204 [some (vR 111 0), none] [vI (T 200 0 (T2 111 0 60))] T2 ?_
              refine j_callS (y := yX11_isDigit) (Yc := zX11_isDigit) (rest := []) [vI (T 200 0 (T2 111 0 60))] (ct_X11_isDigit (T := T2)) cl_X11_285 (by decide +kernel) (by decide) rfl (by decide +kernel) (Nat.le_of_ble_eq_true rfl) (by decide) (by decide) rfl ?_
              rintro _ _ ⟨rfl, x85, rfl, hx85⟩
              show J_ zX11_take T (po_X11_take T) 0 0 207 [some (vR 111 0), none] [vI x85] T2
              refine j_blk (F := fX11) tb_X11 (by decide) bk_X11_take_207 hz (fun K hK => ?_)
              refine And.intro (fun c86 => ?_) (fun c86 => ?_)
              · refine hK 267 [some (vR 111 0), none] [] T2 ?_
                refine j_blk (F := fX11) tb_X11 (by decide) bk_X11_take_267 hz (fun K hK => ?_)
                refine bd_i (by omega) ?_
                refine sx_nm (fun U87 hU87 => ?_)
                have e88 := up_f hU87
                intro b89 b89b
                have e90 : U87 111 0 60 = T2 111 0 60 := up_j hU87 (by decide) 111 0
                rw [e90] at b89 b89b ⊢
                intro b91 b91b
                have e92 : U87 111 0 59 = T2 111 0 59 := up_j hU87 (by decide) 111 0
                rw [e92] at b91 b91b ⊢
                refine rg_i (by omega) ?_
                refine And.intro (fun c93 => ?_) (fun c93 => ?_)
                · refine hK 346 [some (vR 111 0), none] [] U87 ?_
                  have e94 : U87 111 0 59 = T2 111 0 59 := up_j hU87 (by decide) 111 0
                  have e95 : U87 111 0 60 = T2 111 0 60 := up_j hU87 (by decide) 111 0
                  have e96 : U87 111 0 58 = 2 := up_f hU87
                  refine c_346 U87 ?_ ?_
                  · exact fr_u (fr_t (fr_0 _ _) (fr_s hf_184 rfl)) hU87 rfl
                  · omega
                · intro b97 b97b
                  have e98 : U87 111 0 59 = T2 111 0 59 := up_j hU87 (by decide) 111 0
                  rw [e98] at b97 b97b ⊢
                  refine hK 291 [some (vR 111 0), none] [vI (T2 111 0 59), vI 1, vR 111 0] U87 ?_
                  refine j_callV (y := yX11_bad) (Yc := zX11_bad) (rest := []) [vI 1, vI (T2 111 0 59)] (ct_X11_bad (T := U87) (by omega) (by omega)) cl_X11_281 (by decide +kernel) (by decide) rfl (by decide +kernel) (Nat.le_of_ble_eq_true rfl) (by decide) (by decide) rfl ?_
                  rintro U99 _ ⟨rfl, fU99, qU99⟩
                  show J_ zX11_take T (po_X11_take T) 0 0 294 [some (vR 111 0), none] [] U99
                  refine j_blk (F := fX11) tb_X11 (by decide) bk_X11_take_294 hz (fun K hK => ?_)
                  refine hK 346 [some (vR 111 0), none] [] U99 ?_
                  have e100 : U99 111 0 59 = T2 111 0 59 := (fU99 111 0 59 rfl).trans (up_j hU87 (by decide) 111 0)
                  have e101 : U99 111 0 60 = T2 111 0 60 := (fU99 111 0 60 rfl).trans (up_j hU87 (by decide) 111 0)
                  have e102 : U99 111 0 58 = 2 := (fU99 111 0 58 rfl).trans (up_f hU87)
                  refine c_346 U99 ?_ ?_
                  · exact fr_t (fr_u (fr_t (fr_0 _ _) (fr_s hf_184 rfl)) hU87 rfl) (fr_s fU99 rfl)
                  · omega
              · intro b103 b103b
                intro b104 b104b
                refine rg_i (by omega) ?_
                refine And.intro (fun c105 => ?_) (fun c105 => ?_)
                · refine hK 247 [some (vR 111 0), none] [vR 111 0] T2 ?_
                  refine j_blk (F := fX11) tb_X11 (by decide) bk_X11_take_247 hz (fun K hK => ?_)
                  intro b106 b106b
                  refine hK 251 [some (vR 111 0), none] [vI (T2 111 0 61), vR 111 0] T2 ?_
                  refine c_251 (T2 111 0 61) ?_ ?_
                  · omega
                  · omega
                · intro b107 b107b
                  intro w108 w108b
                  intro b109 b109b
                  refine ix_i (by omega) ?_
                  intro b110 b110b
                  have e111 : T2 200 0 (T2 111 0 60) = T 200 0 (T2 111 0 60) := hf_184 200 0 (T2 111 0 60) rfl
                  rw [e111] at b110 b110b ⊢
                  intro w112 w112b
                  intro w113 w113b
                  refine hK 251 [some (vR 111 0), none] [vI (wr_ ((wr_ ((wr_ (10 * (T2 111 0 61))) + (T 200 0 (T2 111 0 60)))) - 48)), vR 111 0] T2 ?_
                  refine c_251 (wr_ ((wr_ ((wr_ (10 * (T2 111 0 61))) + (T 200 0 (T2 111 0 60)))) - 48)) ?_ ?_
                  · omega
                  · omega
        refine j_blk (F := fX11) tb_X11 (by decide) bk_X11_take_52 hz (fun K hK => ?_)
        intro b114 b114b
        refine bd_i (by omega) ?_
        refine sx_nm (fun U115 hU115 => ?_)
        have e116 := up_f hU115
        intro b117 b117b
        have e118 : U115 111 0 57 = T1 111 0 57 := up_j hU115 (by decide) 111 0
        rw [e118] at b117 b117b ⊢
        refine bd_i (by omega) ?_
        refine sx_nm (fun U119 hU119 => ?_)
        have e120 := up_f hU119
        refine bd_i (by omega) ?_
        refine sx_nm (fun U121 hU121 => ?_)
        have e122 := up_f hU121
        intro b123 b123b
        have e124 : U121 111 0 57 = T1 111 0 57 := (up_j hU121 (by decide) 111 0).trans ((up_j hU119 (by decide) 111 0).trans (up_j hU115 (by decide) 111 0))
        rw [e124] at b123 b123b ⊢
        intro b125 b125b
        have e126 : U121 111 0 1 = T 111 0 1 := (up_j hU121 (by decide) 111 0).trans ((up_j hU119 (by decide) 111 0).trans ((up_j hU115 (by decide) 111 0).trans (hf_0 111 0 1 rfl)))
        rw [e126] at b125 b125b ⊢
        refine And.intro (fun c127 => ?_) (fun c127 => ?_)
        · refine hK 85 [some (vR 111 0), none] [] U121 ?_
          refine j_blk (F := fX11) tb_X11 (by decide) bk_X11_take_85 hz (fun K hK => ?_)
          intro b128 b128b
          have e129 : U121 111 0 57 = T1 111 0 57 := (up_j hU121 (by decide) 111 0).trans ((up_j hU119 (by decide) 111 0).trans (up_j hU115 (by decide) 111 0))
          rw [e129] at b128 b128b ⊢
          refine ix_i (by omega) ?_
          intro b130 b130b
          have e131 : U121 200 0 (T1 111 0 57) = T 200 0 (T1 111 0 57) := (up_k hU121 (by decide) 0 (T1 111 0 57)).trans ((up_k hU119 (by decide) 0 (T1 111 0 57)).trans ((up_k hU115 (by decide) 0 (T1 111 0 57)).trans (hf_0 200 0 (T1 111 0 57) rfl)))
          rw [e131] at b130 b130b ⊢
          refine hK 96 [some (vR 111 0), some (vI (T 200 0 (T1 111 0 57)))] [vI (T 200 0 (T1 111 0 57))] U121 ?_
          refine j_callS (y := yX11_isLetter) (Yc := zX11_isLetter) (rest := []) [vI (T 200 0 (T1 111 0 57))] (ct_X11_isLetter (T := U121)) cl_X11_277 (by decide +kernel) (by decide) rfl (by decide +kernel) (Nat.le_of_ble_eq_true rfl) (by decide) (by decide) rfl ?_
          rintro _ _ ⟨rfl, x132, rfl, hx132⟩
          show J_ zX11_take T (po_X11_take T) 0 0 99 [some (vR 111 0), some (vI (T 200 0 (T1 111 0 57)))] [vI x132] U121
          refine j_blk (F := fX11) tb_X11 (by decide) bk_X11_take_99 hz (fun K hK => ?_)
          refine And.intro (fun c133 => ?_) (fun c133 => ?_)
          · refine hK 172 [some (vR 111 0), some (vI (T 200 0 (T1 111 0 57)))] [] U121 ?_
            refine j_blk (F := fX11) tb_X11 (by decide) bk_X11_take_172 hz (fun K hK => ?_)
            refine hK 173 [some (vR 111 0), some (vI (T 200 0 (T1 111 0 57)))] [vI (T 200 0 (T1 111 0 57))] U121 ?_
            refine j_callS (y := yX11_isDigit) (Yc := zX11_isDigit) (rest := []) [vI (T 200 0 (T1 111 0 57))] (ct_X11_isDigit (T := U121)) cl_X11_285 (by decide +kernel) (by decide) rfl (by decide +kernel) (Nat.le_of_ble_eq_true rfl) (by decide) (by decide) rfl ?_
            rintro _ _ ⟨rfl, x134, rfl, hx134⟩
            show J_ zX11_take T (po_X11_take T) 0 0 176 [some (vR 111 0), some (vI (T 200 0 (T1 111 0 57)))] [vI x134] U121
            refine j_blk (F := fX11) tb_X11 (by decide) bk_X11_take_176 hz (fun K hK => ?_)
            refine And.intro (fun c135 => ?_) (fun c135 => ?_)
            · refine hK 297 [some (vR 111 0), some (vI (T 200 0 (T1 111 0 57)))] [] U121 ?_
              refine j_blk (F := fX11) tb_X11 (by decide) bk_X11_take_297 hz (fun K hK => ?_)
              refine And.intro (fun c136 => ?_) (fun c136 => ?_)
              · refine hK 309 [some (vR 111 0), some (vI (T 200 0 (T1 111 0 57)))] [] U121 ?_
                refine j_blk (F := fX11) tb_X11 (by decide) bk_X11_take_309 hz (fun K hK => ?_)
                refine And.intro (fun c137 => ?_) (fun c137 => ?_)
                · refine hK 320 [some (vR 111 0), some (vI (T 200 0 (T1 111 0 57)))] [vR 111 0] U121 ?_
                  refine j_blk (F := fX11) tb_X11 (by decide) bk_X11_take_320 hz (fun K hK => ?_)
                  refine bd_i (by omega) ?_
                  refine sx_nm (fun U138 hU138 => ?_)
                  have e139 := up_f hU138
                  intro b140 b140b
                  have e141 : U138 111 0 60 = T1 111 0 57 := (up_j hU138 (by decide) 111 0).trans ((up_j hU121 (by decide) 111 0).trans (up_f hU119))
                  rw [e141] at b140 b140b ⊢
                  refine rg_i (by omega) ?_
                  refine bd_i (by omega) ?_
                  refine sx_nm (fun U142 hU142 => ?_)
                  have e143 := up_f hU142
                  refine hK 346 [some (vR 111 0), some (vI (T 200 0 (T1 111 0 57)))] [] U142 ?_
                  refine j_drop [some (vR 111 0), none] (fun k v hk => ?_) rfl ?_
                  · match k, hk with
                    | 0, hk => exact hk
                    | 1, hk => cases hk
                    | k + 2, hk => cases hk
                  have e144 : U142 111 0 59 = T1 111 0 57 := (up_j hU142 (by decide) 111 0).trans ((up_j hU138 (by decide) 111 0).trans ((up_j hU121 (by decide) 111 0).trans ((up_j hU119 (by decide) 111 0).trans (up_f hU115))))
                  have e145 : U142 111 0 60 = (T1 111 0 57) + 1 := up_f hU142
                  have e146 : U142 111 0 58 = 4 := (up_j hU142 (by decide) 111 0).trans (up_f hU138)
                  refine c_346 U142 ?_ ?_
                  · exact fr_u (fr_u (fr_u (fr_u (fr_u (fr_t (fr_0 _ _) (fr_s hf_0 rfl)) hU115 rfl) hU119 rfl) hU121 rfl) hU138 rfl) hU142 rfl
                  · omega
                · refine hK 321 [some (vR 111 0), some (vI (T 200 0 (T1 111 0 57)))] [vI 3, vR 111 0] U121 ?_
                  refine j_blk (F := fX11) tb_X11 (by decide) bk_X11_take_321 hz (fun K hK => ?_)
                  refine bd_i (by omega) ?_
                  refine sx_nm (fun U147 hU147 => ?_)
                  have e148 := up_f hU147
                  intro b149 b149b
                  have e150 : U147 111 0 60 = T1 111 0 57 := (up_j hU147 (by decide) 111 0).trans ((up_j hU121 (by decide) 111 0).trans (up_f hU119))
                  rw [e150] at b149 b149b ⊢
                  refine rg_i (by omega) ?_
                  refine bd_i (by omega) ?_
                  refine sx_nm (fun U151 hU151 => ?_)
                  have e152 := up_f hU151
                  refine hK 346 [some (vR 111 0), some (vI (T 200 0 (T1 111 0 57)))] [] U151 ?_
                  refine j_drop [some (vR 111 0), none] (fun k v hk => ?_) rfl ?_
                  · match k, hk with
                    | 0, hk => exact hk
                    | 1, hk => cases hk
                    | k + 2, hk => cases hk
                  have e153 : U151 111 0 59 = T1 111 0 57 := (up_j hU151 (by decide) 111 0).trans ((up_j hU147 (by decide) 111 0).trans ((up_j hU121 (by decide) 111 0).trans ((up_j hU119 (by decide) 111 0).trans (up_f hU115))))
                  have e154 : U151 111 0 60 = (T1 111 0 57) + 1 := up_f hU151
                  have e155 : U151 111 0 58 = 3 := (up_j hU151 (by decide) 111 0).trans (up_f hU147)
                  refine c_346 U151 ?_ ?_
                  · exact fr_u (fr_u (fr_u (fr_u (fr_u (fr_t (fr_0 _ _) (fr_s hf_0 rfl)) hU115 rfl) hU119 rfl) hU121 rfl) hU147 rfl) hU151 rfl
                  · omega
              · refine And.intro (fun c156 => ?_) (fun c156 => ?_)
                · refine hK 337 [some (vR 111 0), some (vI (T 200 0 (T1 111 0 57)))] [] U121 ?_
                  refine j_blk (F := fX11) tb_X11 (by decide) bk_X11_take_337 hz (fun K hK => ?_)
                  intro b157 b157b
                  have e158 : U121 111 0 59 = T1 111 0 57 := (up_j hU121 (by decide) 111 0).trans ((up_j hU119 (by decide) 111 0).trans (up_f hU115))
                  rw [e158] at b157 b157b ⊢
                  refine hK 343 [some (vR 111 0), some (vI (T 200 0 (T1 111 0 57)))] [vI (T1 111 0 57), vI 1, vR 111 0] U121 ?_
                  refine j_callV (y := yX11_bad) (Yc := zX11_bad) (rest := []) [vI 1, vI (T1 111 0 57)] (ct_X11_bad (T := U121) (by omega) (by omega)) cl_X11_281 (by decide +kernel) (by decide) rfl (by decide +kernel) (Nat.le_of_ble_eq_true rfl) (by decide) (by decide) rfl ?_
                  rintro U159 _ ⟨rfl, fU159, qU159⟩
                  show J_ zX11_take T (po_X11_take T) 0 0 346 [some (vR 111 0), some (vI (T 200 0 (T1 111 0 57)))] [] U159
                  refine j_drop [some (vR 111 0), none] (fun k v hk => ?_) rfl ?_
                  · match k, hk with
                    | 0, hk => exact hk
                    | 1, hk => cases hk
                    | k + 2, hk => cases hk
                  have e160 : U159 111 0 59 = T1 111 0 57 := (fU159 111 0 59 rfl).trans ((up_j hU121 (by decide) 111 0).trans ((up_j hU119 (by decide) 111 0).trans (up_f hU115)))
                  have e161 : U159 111 0 60 = T1 111 0 57 := (fU159 111 0 60 rfl).trans ((up_j hU121 (by decide) 111 0).trans (up_f hU119))
                  have e162 : U159 111 0 58 = 0 := (fU159 111 0 58 rfl).trans (up_f hU121)
                  refine c_346 U159 ?_ ?_
                  · exact fr_t (fr_u (fr_u (fr_u (fr_t (fr_0 _ _) (fr_s hf_0 rfl)) hU115 rfl) hU119 rfl) hU121 rfl) (fr_s fU159 rfl)
                  · omega
                · refine And.intro (fun c163 => ?_) (fun c163 => ?_)
                  · refine hK 320 [some (vR 111 0), some (vI (T 200 0 (T1 111 0 57)))] [vR 111 0] U121 ?_
                    refine j_blk (F := fX11) tb_X11 (by decide) bk_X11_take_320 hz (fun K hK => ?_)
                    refine bd_i (by omega) ?_
                    refine sx_nm (fun U164 hU164 => ?_)
                    have e165 := up_f hU164
                    intro b166 b166b
                    have e167 : U164 111 0 60 = T1 111 0 57 := (up_j hU164 (by decide) 111 0).trans ((up_j hU121 (by decide) 111 0).trans (up_f hU119))
                    rw [e167] at b166 b166b ⊢
                    refine rg_i (by omega) ?_
                    refine bd_i (by omega) ?_
                    refine sx_nm (fun U168 hU168 => ?_)
                    have e169 := up_f hU168
                    refine hK 346 [some (vR 111 0), some (vI (T 200 0 (T1 111 0 57)))] [] U168 ?_
                    refine j_drop [some (vR 111 0), none] (fun k v hk => ?_) rfl ?_
                    · match k, hk with
                      | 0, hk => exact hk
                      | 1, hk => cases hk
                      | k + 2, hk => cases hk
                    have e170 : U168 111 0 59 = T1 111 0 57 := (up_j hU168 (by decide) 111 0).trans ((up_j hU164 (by decide) 111 0).trans ((up_j hU121 (by decide) 111 0).trans ((up_j hU119 (by decide) 111 0).trans (up_f hU115))))
                    have e171 : U168 111 0 60 = (T1 111 0 57) + 1 := up_f hU168
                    have e172 : U168 111 0 58 = 4 := (up_j hU168 (by decide) 111 0).trans (up_f hU164)
                    refine c_346 U168 ?_ ?_
                    · exact fr_u (fr_u (fr_u (fr_u (fr_u (fr_t (fr_0 _ _) (fr_s hf_0 rfl)) hU115 rfl) hU119 rfl) hU121 rfl) hU164 rfl) hU168 rfl
                    · omega
                  · refine hK 321 [some (vR 111 0), some (vI (T 200 0 (T1 111 0 57)))] [vI 3, vR 111 0] U121 ?_
                    refine j_blk (F := fX11) tb_X11 (by decide) bk_X11_take_321 hz (fun K hK => ?_)
                    refine bd_i (by omega) ?_
                    refine sx_nm (fun U173 hU173 => ?_)
                    have e174 := up_f hU173
                    intro b175 b175b
                    have e176 : U173 111 0 60 = T1 111 0 57 := (up_j hU173 (by decide) 111 0).trans ((up_j hU121 (by decide) 111 0).trans (up_f hU119))
                    rw [e176] at b175 b175b ⊢
                    refine rg_i (by omega) ?_
                    refine bd_i (by omega) ?_
                    refine sx_nm (fun U177 hU177 => ?_)
                    have e178 := up_f hU177
                    refine hK 346 [some (vR 111 0), some (vI (T 200 0 (T1 111 0 57)))] [] U177 ?_
                    refine j_drop [some (vR 111 0), none] (fun k v hk => ?_) rfl ?_
                    · match k, hk with
                      | 0, hk => exact hk
                      | 1, hk => cases hk
                      | k + 2, hk => cases hk
                    have e179 : U177 111 0 59 = T1 111 0 57 := (up_j hU177 (by decide) 111 0).trans ((up_j hU173 (by decide) 111 0).trans ((up_j hU121 (by decide) 111 0).trans ((up_j hU119 (by decide) 111 0).trans (up_f hU115))))
                    have e180 : U177 111 0 60 = (T1 111 0 57) + 1 := up_f hU177
                    have e181 : U177 111 0 58 = 3 := (up_j hU177 (by decide) 111 0).trans (up_f hU173)
                    refine c_346 U177 ?_ ?_
                    · exact fr_u (fr_u (fr_u (fr_u (fr_u (fr_t (fr_0 _ _) (fr_s hf_0 rfl)) hU115 rfl) hU119 rfl) hU121 rfl) hU173 rfl) hU177 rfl
                    · omega
            · refine bd_i (by omega) ?_
              refine sx_nm (fun U182 hU182 => ?_)
              have e183 := up_f hU182
              refine hK 184 [some (vR 111 0), some (vI (T 200 0 (T1 111 0 57)))] [] U182 ?_
              refine j_drop [some (vR 111 0), none] (fun k v hk => ?_) rfl ?_
              · match k, hk with
                | 0, hk => exact hk
                | 1, hk => cases hk
                | k + 2, hk => cases hk
              have e184 : U182 111 0 59 = T1 111 0 57 := (up_j hU182 (by decide) 111 0).trans ((up_j hU121 (by decide) 111 0).trans ((up_j hU119 (by decide) 111 0).trans (up_f hU115)))
              have e185 : U182 111 0 60 = T1 111 0 57 := (up_j hU182 (by decide) 111 0).trans ((up_j hU121 (by decide) 111 0).trans (up_f hU119))
              refine c_184 _ U182 (Nat.le_refl _) ?_ ?_ ?_
              · exact fr_u (fr_u (fr_u (fr_u (fr_t (fr_0 _ _) (fr_s hf_0 rfl)) hU115 rfl) hU119 rfl) hU121 rfl) hU182 rfl
              · omega
              · omega
          · refine hK 102 [some (vR 111 0), some (vI (T 200 0 (T1 111 0 57)))] [] U121 ?_
            refine j_drop [some (vR 111 0), none] (fun k v hk => ?_) rfl ?_
            · match k, hk with
              | 0, hk => exact hk
              | 1, hk => cases hk
              | k + 2, hk => cases hk
            have e186 : U121 111 0 59 = T1 111 0 57 := (up_j hU121 (by decide) 111 0).trans ((up_j hU119 (by decide) 111 0).trans (up_f hU115))
            have e187 : U121 111 0 60 = T1 111 0 57 := (up_j hU121 (by decide) 111 0).trans (up_f hU119)
            refine c_102 _ U121 (Nat.le_refl _) ?_ ?_ ?_
            · exact fr_u (fr_u (fr_u (fr_t (fr_0 _ _) (fr_s hf_0 rfl)) hU115 rfl) hU119 rfl) hU121 rfl
            · omega
            · omega
        · refine (show po_X11_take T U121 (none) from ?_)
          have e188 : U121 111 0 57 = T1 111 0 57 := (up_j hU121 (by decide) 111 0).trans ((up_j hU119 (by decide) 111 0).trans (up_j hU115 (by decide) 111 0))
          have e189 : U121 111 0 59 = T1 111 0 57 := (up_j hU121 (by decide) 111 0).trans ((up_j hU119 (by decide) 111 0).trans (up_f hU115))
          have e190 : U121 111 0 60 = T1 111 0 57 := (up_j hU121 (by decide) 111 0).trans (up_f hU119)
          have e191 : U121 111 0 58 = 0 := up_f hU121
          exact ⟨rfl, fr_u (fr_u (fr_u (fr_t (fr_0 _ _) (fr_s hf_0 rfl)) hU115 rfl) hU119 rfl) hU121 rfl, by omega⟩
      refine j_blk (F := fX11) tb_X11 (by decide) bk_X11_take_0 hz (fun K hK => ?_)
      intro b192 b192b
      intro b193 b193b
      have e194 : T1 111 0 1 = T 111 0 1 := hf_0 111 0 1 rfl
      rw [e194] at b193 b193b ⊢
      refine And.intro (fun c195 => ?_) (fun c195 => ?_)
      · refine hK 52 [some (vR 111 0), none] [] T1 ?_
        exact c_52 
      · intro b196 b196b
        refine ix_i (by omega) ?_
        intro b197 b197b
        have e198 : T1 200 0 (T1 111 0 57) = T 200 0 (T1 111 0 57) := hf_0 200 0 (T1 111 0 57) rfl
        rw [e198] at b197 b197b ⊢
        refine And.intro (fun c199 => ?_) (fun c199 => ?_)
        · refine hK 39 [some (vR 111 0), none] [] T1 ?_
          refine j_blk (F := fX11) tb_X11 (by decide) bk_X11_take_39 hz (fun K hK => ?_)
          intro b200 b200b
          refine rg_i (by omega) ?_
          refine bd_i (by omega) ?_
          refine sx_nm (fun U201 hU201 => ?_)
          have e202 := up_f hU201
          refine hK 0 [some (vR 111 0), none] [] U201 ?_
          have e203 : U201 111 0 57 = (T1 111 0 57) + 1 := up_f hU201
          refine ih_0 _ ?_ U201 (Nat.le_refl _) ?_ ?_
          · omega
          · exact fr_u (fr_t (fr_0 _ _) (fr_s hf_0 rfl)) hU201 rfl
          · omega
        · intro b204 b204b
          refine ix_i (by omega) ?_
          intro b205 b205b
          have e206 : T1 200 0 (T1 111 0 57) = T 200 0 (T1 111 0 57) := hf_0 200 0 (T1 111 0 57) rfl
          rw [e206] at b205 b205b ⊢
          refine And.intro (fun c207 => ?_) (fun c207 => ?_)
          · refine hK 52 [some (vR 111 0), none] [] T1 ?_
            exact c_52 
          · intro b208 b208b
            refine rg_i (by omega) ?_
            refine bd_i (by omega) ?_
            refine sx_nm (fun U209 hU209 => ?_)
            have e210 := up_f hU209
            refine hK 0 [some (vR 111 0), none] [] U209 ?_
            have e211 : U209 111 0 57 = (T1 111 0 57) + 1 := up_f hU209
            refine ih_0 _ ?_ U209 (Nat.le_refl _) ?_ ?_
            · omega
            · exact fr_u (fr_t (fr_0 _ _) (fr_s hf_0 rfl)) hU209 rfl
            · omega
  refine c_0 _ T (Nat.le_refl _) ?_ ?_
  · exact fr_0 _ _
  · omega
