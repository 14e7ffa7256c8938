def wl_264 : List Int := [115, 112, 111, 114, 116, 32, 112, 111, 105, 110, 116, 115, 32, 111, 114, 100, 101, 114, 32, 114, 101, 100, 111, 32, 108, 101, 103, 115, 32, 101, 118, 101, 114, 121, 32, 114, 101, 115, 116, 32, 102, 105, 101, 108, 100, 32, 115, 117, 98, 115, 32, 116, 97, 114, 103, 101, 116, 32, 119, 97, 108, 107, 111, 118, 101, 114, 32, 99, 97, 114, 100, 115, 32, 114, 101, 100, 32, 115, 101, 101, 100, 32]
def wl_265 : List Int := [102, 111, 111, 116, 98, 97, 108, 108, 32, 118, 111, 108, 108, 101, 121, 98, 97, 108, 108, 32, 116, 101, 110, 110, 105, 115, 32, 98, 97, 115, 101, 98, 97, 108, 108, 32]
def wl_266 : List Int := [100, 105, 102, 102, 32, 115, 99, 111, 114, 101, 100, 32, 119, 105, 110, 115, 32, 97, 119, 97, 121, 32, 104, 101, 97, 100, 32, 102, 97, 105, 114, 32, 108, 111, 116, 115, 32]
def wl_267 : List Int := [1, 1, 1, 1, 0, 2, 1, 1, 1, 0]
def wl_268 : List Int := [4, 30, 9, 6, 5, 25, 9, 9, 9, 999]
/-- the reference's constant rows hold their words -/
def CW_ (T : Zt) : Prop := (∀ i : Int, 0 ≤ i → i < 82 → T 264 0 i = wl_264.getD i.toNat 0) ∧ (∀ i : Int, 0 ≤ i → i < 36 → T 265 0 i = wl_265.getD i.toNat 0) ∧ (∀ i : Int, 0 ≤ i → i < 37 → T 266 0 i = wl_266.getD i.toNat 0) ∧ (∀ i : Int, 0 ≤ i → i < 10 → T 267 0 i = wl_267.getD i.toNat 0) ∧ (∀ i : Int, 0 ≤ i → i < 10 → T 268 0 i = wl_268.getD i.toNat 0)
theorem CW_f {ws : List (Nat × List Int)} {T T' : Zt} (h : CW_ T) (f : fr_ ws T T') (w : (∀ j, fw_ ws 264 j = false) ∧ (∀ j, fw_ ws 265 j = false) ∧ (∀ j, fw_ ws 266 j = false) ∧ (∀ j, fw_ ws 267 j = false) ∧ (∀ j, fw_ ws 268 j = false)) : CW_ T' := ⟨fun i a b => (f 264 0 i (w.1 i)).trans (h.1 i a b), fun i a b => (f 265 0 i (w.2.1 i)).trans (h.2.1 i a b), fun i a b => (f 266 0 i (w.2.2.1 i)).trans (h.2.2.1 i a b), fun i a b => (f 267 0 i (w.2.2.2.1 i)).trans (h.2.2.2.1 i a b), fun i a b => (f 268 0 i (w.2.2.2.2 i)).trans (h.2.2.2.2 i a b)⟩
def ws_ok (w : List Int) (ts : List (Int × Int × Int)) : Bool := ts.all fun q => decide (0 ≤ q.1) && decide (q.1 ≤ q.2.2) && decide (q.2.2 < w.length) && ((List.range w.length).all fun i => if q.1 ≤ (i : Int) ∧ (i : Int) < q.2.2 then w.getD i 0 != 32 else true) && (w.getD q.2.2.toNat 0 == 32)
def wt_264 : List (Int × Int × Int) := [(0, 0, 5), (6, 1, 12), (13, 2, 18), (19, 3, 23), (24, 4, 28), (29, 5, 34), (35, 6, 39), (40, 7, 45), (46, 8, 50), (51, 9, 57), (58, 10, 66), (67, 11, 72), (73, 12, 76), (77, 13, 81)]
/-- at the start of word nr, or behind the last -/
def wp_264 (k nr : Int) : Prop := (∃ e, (k, nr, e) ∈ wt_264) ∨ (k = 82 ∧ nr = 14)
theorem wn_264 : ∀ q ∈ wt_264, 0 ≤ q.2.1 ∧ q.2.1 < 14 ∧ ((∃ e, (q.2.2 + 1, q.2.1 + 1, e) ∈ wt_264) ∨ (q.2.2 + 1 = 82 ∧ q.2.1 + 1 = 14)) := by
  have h : ∀ q ∈ wt_264, 0 ≤ q.2.1 ∧ q.2.1 < 14 ∧ ((wt_264.any fun z => z.1 == q.2.2 + 1 && z.2.1 == q.2.1 + 1) = true ∨ (q.2.2 + 1 = 82 ∧ q.2.1 + 1 = 14)) := by decide +kernel
  intro q hq
  refine ⟨(h q hq).1, (h q hq).2.1, (h q hq).2.2.imp (fun z => ?_) id⟩
  obtain ⟨⟨a, b, e⟩, h1, h2⟩ := List.any_eq_true.mp z
  simp only [Bool.and_eq_true, beq_iff_eq] at h2
  obtain ⟨rfl, rfl⟩ := h2
  exact ⟨e, h1⟩
theorem wc_264 : ws_ok wl_264 wt_264 = true := by decide +kernel
theorem ww_264 {T : Zt} (hC : CW_ T) {k nr : Int} (h : wp_264 k nr) (hk : k < 82) : ∃ e, 0 ≤ k ∧ k ≤ e ∧ e < 82 ∧ (∀ i, k ≤ i → i < e → T 264 0 i ≠ 32) ∧ T 264 0 e = 32 ∧ wp_264 (e + 1) (nr + 1) ∧ 0 ≤ nr ∧ nr < 14 := by
  rcases h with ⟨e, he⟩ | h
  · have h1 := List.all_eq_true.mp wc_264 _ he
    simp only [Bool.and_eq_true, decide_eq_true_eq, beq_iff_eq] at h1
    obtain ⟨⟨⟨⟨a0, a1⟩, a2⟩, a3⟩, a4⟩ := h1
    have a2 : e < 82 := a2
    have hn := wn_264 _ he
    refine ⟨e, a0, a1, a2, fun i hi1 hi2 => ?_, ?_, hn.2.2, hn.1, hn.2.1⟩
    · have h2 := List.all_eq_true.mp a3 i.toNat (List.mem_range.mpr (by show i.toNat < 82; omega))
      rw [if_pos ⟨by omega, by omega⟩] at h2
      rw [hC.1 i (by omega) (by omega)]
      simpa using h2
    · rw [hC.1 e (by omega) (by omega)]
      exact a4
  · omega
def wt_265 : List (Int × Int × Int) := [(0, 0, 8), (9, 1, 19), (20, 2, 26), (27, 3, 35)]
/-- at the start of word nr, or behind the last -/
def wp_265 (k nr : Int) : Prop := (∃ e, (k, nr, e) ∈ wt_265) ∨ (k = 36 ∧ nr = 4)
theorem wn_265 : ∀ q ∈ wt_265, 0 ≤ q.2.1 ∧ q.2.1 < 4 ∧ ((∃ e, (q.2.2 + 1, q.2.1 + 1, e) ∈ wt_265) ∨ (q.2.2 + 1 = 36 ∧ q.2.1 + 1 = 4)) := by
  have h : ∀ q ∈ wt_265, 0 ≤ q.2.1 ∧ q.2.1 < 4 ∧ ((wt_265.any fun z => z.1 == q.2.2 + 1 && z.2.1 == q.2.1 + 1) = true ∨ (q.2.2 + 1 = 36 ∧ q.2.1 + 1 = 4)) := by decide +kernel
  intro q hq
  refine ⟨(h q hq).1, (h q hq).2.1, (h q hq).2.2.imp (fun z => ?_) id⟩
  obtain ⟨⟨a, b, e⟩, h1, h2⟩ := List.any_eq_true.mp z
  simp only [Bool.and_eq_true, beq_iff_eq] at h2
  obtain ⟨rfl, rfl⟩ := h2
  exact ⟨e, h1⟩
theorem wc_265 : ws_ok wl_265 wt_265 = true := by decide +kernel
theorem ww_265 {T : Zt} (hC : CW_ T) {k nr : Int} (h : wp_265 k nr) (hk : k < 36) : ∃ e, 0 ≤ k ∧ k ≤ e ∧ e < 36 ∧ (∀ i, k ≤ i → i < e → T 265 0 i ≠ 32) ∧ T 265 0 e = 32 ∧ wp_265 (e + 1) (nr + 1) ∧ 0 ≤ nr ∧ nr < 4 := by
  rcases h with ⟨e, he⟩ | h
  · have h1 := List.all_eq_true.mp wc_265 _ he
    simp only [Bool.and_eq_true, decide_eq_true_eq, beq_iff_eq] at h1
    obtain ⟨⟨⟨⟨a0, a1⟩, a2⟩, a3⟩, a4⟩ := h1
    have a2 : e < 36 := a2
    have hn := wn_265 _ he
    refine ⟨e, a0, a1, a2, fun i hi1 hi2 => ?_, ?_, hn.2.2, hn.1, hn.2.1⟩
    · have h2 := List.all_eq_true.mp a3 i.toNat (List.mem_range.mpr (by show i.toNat < 36; omega))
      rw [if_pos ⟨by omega, by omega⟩] at h2
      rw [hC.2.1 i (by omega) (by omega)]
      simpa using h2
    · rw [hC.2.1 e (by omega) (by omega)]
      exact a4
  · omega
def wt_266 : List (Int × Int × Int) := [(0, 0, 4), (5, 1, 11), (12, 2, 16), (17, 3, 21), (22, 4, 26), (27, 5, 31), (32, 6, 36)]
/-- at the start of word nr, or behind the last -/
def wp_266 (k nr : Int) : Prop := (∃ e, (k, nr, e) ∈ wt_266) ∨ (k = 37 ∧ nr = 7)
theorem wn_266 : ∀ q ∈ wt_266, 0 ≤ q.2.1 ∧ q.2.1 < 7 ∧ ((∃ e, (q.2.2 + 1, q.2.1 + 1, e) ∈ wt_266) ∨ (q.2.2 + 1 = 37 ∧ q.2.1 + 1 = 7)) := by
  have h : ∀ q ∈ wt_266, 0 ≤ q.2.1 ∧ q.2.1 < 7 ∧ ((wt_266.any fun z => z.1 == q.2.2 + 1 && z.2.1 == q.2.1 + 1) = true ∨ (q.2.2 + 1 = 37 ∧ q.2.1 + 1 = 7)) := by decide +kernel
  intro q hq
  refine ⟨(h q hq).1, (h q hq).2.1, (h q hq).2.2.imp (fun z => ?_) id⟩
  obtain ⟨⟨a, b, e⟩, h1, h2⟩ := List.any_eq_true.mp z
  simp only [Bool.and_eq_true, beq_iff_eq] at h2
  obtain ⟨rfl, rfl⟩ := h2
  exact ⟨e, h1⟩
theorem wc_266 : ws_ok wl_266 wt_266 = true := by decide +kernel
theorem ww_266 {T : Zt} (hC : CW_ T) {k nr : Int} (h : wp_266 k nr) (hk : k < 37) : ∃ e, 0 ≤ k ∧ k ≤ e ∧ e < 37 ∧ (∀ i, k ≤ i → i < e → T 266 0 i ≠ 32) ∧ T 266 0 e = 32 ∧ wp_266 (e + 1) (nr + 1) ∧ 0 ≤ nr ∧ nr < 7 := by
  rcases h with ⟨e, he⟩ | h
  · have h1 := List.all_eq_true.mp wc_266 _ he
    simp only [Bool.and_eq_true, decide_eq_true_eq, beq_iff_eq] at h1
    obtain ⟨⟨⟨⟨a0, a1⟩, a2⟩, a3⟩, a4⟩ := h1
    have a2 : e < 37 := a2
    have hn := wn_266 _ he
    refine ⟨e, a0, a1, a2, fun i hi1 hi2 => ?_, ?_, hn.2.2, hn.1, hn.2.1⟩
    · have h2 := List.all_eq_true.mp a3 i.toNat (List.mem_range.mpr (by show i.toNat < 37; omega))
      rw [if_pos ⟨by omega, by omega⟩] at h2
      rw [hC.2.2.1 i (by omega) (by omega)]
      simpa using h2
    · rw [hC.2.2.1 e (by omega) (by omega)]
      exact a4
  · omega
abbrev cX11_bad : ByteArray := prog_13_method_8_code
def yX11_bad : MethodName := ⟨RX11, "bad", "(II)V"⟩
def zX11_bad : Zm := (RX11, cX11_bad, 3, none, { frames := 0, cells := 0, slots := 0, locals := 0 })
theorem bk_X11_bad_0 : ck_ fX11 none cX11_bad 0 [.aload 0, .tableswitch 0 11 62 #[], .ifCond .ne 17, .aload 0, .iload 1, .tableswitch 1 11 62 #[], .aload 0, .iload 2, .tableswitch 1 11 63 #[], .return_] 18 = true := qck_r (nn_ _) (by decide +kernel)
theorem bs_X11_bad_0 {P : Zt → Option Zv → Prop} (K : Int → Zl → List Zv → Zt → Prop) : sx_ K P [.aload 0, .tableswitch 0 11 62 #[], .ifCond .ne 17, .aload 0, .iload 1, .tableswitch 1 11 62 #[], .aload 0, .iload 2, .tableswitch 1 11 63 #[], .return_] 18 = x_aload 0 (x_g0 111 62 0 5 (x_ifCond .ne 17 K (x_aload 0 (x_iload 1 (x_p 111 62 0 5 (x_aload 0 (x_iload 2 (x_p 111 63 (-1) 400 (x_return_ P))))))))) := ((xe_aload 0).trans (congrArg (x_aload 0) ((xe_g0 (kk := 111) rfl tl_11_62).trans (congrArg (x_g0 111 62 0 5) ((xe_ifCond .ne 17).trans (congrArg (x_ifCond .ne 17 K) ((xe_aload 0).trans (congrArg (x_aload 0) ((xe_iload 1).trans (congrArg (x_iload 1) ((xe_p (kk := 111) rfl tl_11_62).trans (congrArg (x_p 111 62 0 5) ((xe_aload 0).trans (congrArg (x_aload 0) ((xe_iload 2).trans (congrArg (x_iload 2) ((xe_p (kk := 111) rfl tl_11_63).trans (congrArg (x_p 111 63 (-1) 400) (xe_return_)))))))))))))))))))
theorem bk_X11_bad_17 : ck_ fX11 none cX11_bad 17 [.return_] 18 = true := qck_r (nn_ _) (by decide +kernel)
theorem bs_X11_bad_17 {P : Zt → Option Zv → Prop} (K : Int → Zl → List Zv → Zt → Prop) : sx_ K P [.return_] 18 = x_return_ P := (xe_return_)
abbrev po_X11_bad (T : Zt) (number place : Int) : Zt → Option Zv → Prop := fun T' r => r = none ∧ fr_ [(111, [62, 63])] T T' ∧ (T 111 0 62 = 0 ∧ T' 111 0 62 = number ∨ T 111 0 62 ≠ 0 ∧ T' 111 0 62 = T 111 0 62)
set_option maxHeartbeats 4000000 in
theorem ct_X11_bad {T : Zt} {number place : Int} (h1 : 1 ≤ number ∧ number ≤ 5) (h2 : -1 ≤ place ∧ place ≤ 400) : Ct_ yX11_bad zX11_bad T [vR 111 0, vI number, vI place] (po_X11_bad T number place) := by
  refine ct_of pn_11 rfl rfl (Nat.le_of_ble_eq_true rfl) (fun hT hav => ?_)
  have hr_number : -2147483648 ≤ number ∧ number ≤ 2147483647 := hav (vI number) (by simp)
  have hr_place : -2147483648 ≤ place ∧ place ≤ 2147483647 := hav (vI place) (by simp)
  have hz : zX11_bad.2.2.2.1 = some .boolean → ∀ (T' : Zt) (x : Int), po_X11_bad T number place T' (some (vI x)) → 0 ≤ x ∧ x ≤ 1 := fun h => by cases h
  show J_ zX11_bad T (po_X11_bad T number place) 0 0 0 [some (vR 111 0), some (vI number), some (vI place)] [] T
  refine j_blx (F := fX11) tb_X11 (nn_ _) bk_X11_bad_0 bs_X11_bad_0 hz (fun K hK => ?_)
  intro b1 b1b
  refine And.intro (fun c2 => ?_) (fun c2 => ?_)
  · refine hK 17 _ [] T ?_
    refine j_blx (F := fX11) tb_X11 (nn_ _) bk_X11_bad_17 bs_X11_bad_17 hz (fun K hK => ?_)
    refine (show po_X11_bad T number place T (none) from ?_)
    exact ⟨rfl, fr_0 _ _, by omega⟩
  · refine bd_i (by omega) ?_
    refine x_nm (fun U3 hU3 => ?_)
    have e4 := up_f hU3
    refine bd_i (by omega) ?_
    refine x_nm (fun U5 hU5 => ?_)
    have e6 := up_f hU5
    refine (show po_X11_bad T number place U5 (none) from ?_)
    have e7 : U5 111 0 62 = number := (up_j hU5 (by exact ni_ rfl) 111 0).trans (up_f hU3)
    exact ⟨rfl, fr_u (fr_u (fr_0 _ _) hU3 rfl) hU5 rfl, by omega⟩
abbrev cX11_take : ByteArray := prog_13_method_11_code
def yX11_take : MethodName := ⟨RX11, "take", "()V"⟩
def zX11_take : Zm := (RX11, cX11_take, 2, none, { frames := 2, cells := 0, slots := 0, locals := 42 })
theorem bk_X11_take_346 : ck_ fX11 none cX11_take 346 [.aload 0, .aload 0, .tableswitch 0 11 60 #[], .tableswitch 1 11 57 #[], .return_] 355 = true := qck_r (nn_ _) (by decide +kernel)
theorem bs_X11_take_346 {P : Zt → Option Zv → Prop} (K : Int → Zl → List Zv → Zt → Prop) : sx_ K P [.aload 0, .aload 0, .tableswitch 0 11 60 #[], .tableswitch 1 11 57 #[], .return_] 355 = x_aload 0 (x_aload 0 (x_g0 111 60 0 400 (x_p 111 57 0 400 (x_return_ P)))) := ((xe_aload 0).trans (congrArg (x_aload 0) ((xe_aload 0).trans (congrArg (x_aload 0) ((xe_g0 (kk := 111) rfl tl_11_60).trans (congrArg (x_g0 111 60 0 400) ((xe_p (kk := 111) rfl tl_11_57).trans (congrArg (x_p 111 57 0 400) (xe_return_)))))))))
theorem bk_X11_take_102 : ck_ fX11 none cX11_take 102 [.aload 0, .tableswitch 0 11 60 #[], .aload 0, .tableswitch 0 11 1 #[], .if_icmp .ge 141, .aload 0, .tableswitch 0 11 0 #[], .aload 0, .tableswitch 0 11 60 #[], .iaload] 122 = true := qck_r (nn_ _) (by decide +kernel)
theorem bs_X11_take_102 {P : Zt → Option Zv → Prop} (K : Int → Zl → List Zv → Zt → Prop) : sx_ K P [.aload 0, .tableswitch 0 11 60 #[], .aload 0, .tableswitch 0 11 1 #[], .if_icmp .ge 141, .aload 0, .tableswitch 0 11 0 #[], .aload 0, .tableswitch 0 11 60 #[], .iaload] 122 = x_aload 0 (x_g0 111 60 0 400 (x_aload 0 (x_g0 111 1 0 400 (x_if_icmp .ge 141 K (x_aload 0 (x_g1 111 200 (x_aload 0 (x_g0 111 60 0 400 (x_iaload (K 122)))))))))) := ((xe_aload 0).trans (congrArg (x_aload 0) ((xe_g0 (kk := 111) rfl tl_11_60).trans (congrArg (x_g0 111 60 0 400) ((xe_aload 0).trans (congrArg (x_aload 0) ((xe_g0 (kk := 111) rfl tl_11_1).trans (congrArg (x_g0 111 1 0 400) ((xe_if_icmp .ge 141).trans (congrArg (x_if_icmp .ge 141 K) ((xe_aload 0).trans (congrArg (x_aload 0) ((xe_g1 (kk := 111) rfl tl_11_0).trans (congrArg (x_g1 111 200) ((xe_aload 0).trans (congrArg (x_aload 0) ((xe_g0 (kk := 111) rfl tl_11_60).trans (congrArg (x_g0 111 60 0 400) ((xe_iaload).trans (congrArg (x_iaload) xe_nil))))))))))))))))))))
theorem bk_X11_take_141 : ck_ fX11 none cX11_take 141 [.aload 0, .iconst 1, .tableswitch 1 11 58 #[], .aload 0, .tableswitch 0 11 60 #[], .aload 0, .tableswitch 0 11 59 #[], .isub, .iconst 12, .if_icmp .le 346, .aload 0, .iconst 1, .aload 0, .tableswitch 0 11 59 #[]] 166 = true := qck_r (nn_ _) (by decide +kernel)
theorem bs_X11_take_141 {P : Zt → Option Zv → Prop} (K : Int → Zl → List Zv → Zt → Prop) : sx_ K P [.aload 0, .iconst 1, .tableswitch 1 11 58 #[], .aload 0, .tableswitch 0 11 60 #[], .aload 0, .tableswitch 0 11 59 #[], .isub, .iconst 12, .if_icmp .le 346, .aload 0, .iconst 1, .aload 0, .tableswitch 0 11 59 #[]] 166 = x_aload 0 (x_iconst 1 (x_p 111 58 0 4 (x_aload 0 (x_g0 111 60 0 400 (x_aload 0 (x_g0 111 59 0 400 (x_isub (x_iconst 12 (x_if_icmp .le 346 K (x_aload 0 (x_iconst 1 (x_aload 0 (x_g0 111 59 0 400 (K 166)))))))))))))) := ((xe_aload 0).trans (congrArg (x_aload 0) ((xe_iconst 1).trans (congrArg (x_iconst 1) ((xe_p (kk := 111) rfl tl_11_58).trans (congrArg (x_p 111 58 0 4) ((xe_aload 0).trans (congrArg (x_aload 0) ((xe_g0 (kk := 111) rfl tl_11_60).trans (congrArg (x_g0 111 60 0 400) ((xe_aload 0).trans (congrArg (x_aload 0) ((xe_g0 (kk := 111) rfl tl_11_59).trans (congrArg (x_g0 111 59 0 400) ((xe_isub).trans (congrArg (x_isub) ((xe_iconst 12).trans (congrArg (x_iconst 12) ((xe_if_icmp .le 346).trans (congrArg (x_if_icmp .le 346 K) ((xe_aload 0).trans (congrArg (x_aload 0) ((xe_iconst 1).trans (congrArg (x_iconst 1) ((xe_aload 0).trans (congrArg (x_aload 0) ((xe_g0 (kk := 111) rfl tl_11_59).trans (congrArg (x_g0 111 59 0 400) xe_nil))))))))))))))))))))))))))))
set_option maxRecDepth 100000 in
theorem cl_X11_281 : cv_ RX11 281 yX11_bad zX11_bad 11 2 := ⟨gi_V (lw_b8 117 (by decide +kernel) rfl : Cond.methodLink RX11 281 yX11_bad ∈ lw_g) (lw_b8 119 (by decide +kernel) rfl : Cond.instanceMethod yX11_bad ∈ lw_g) (lw_sel 7 rfl : Cond.selects yX11_bad.cls yX11_bad yX11_bad ∈ lw_g) (lw_b1 10 (by decide +kernel) rfl : Cond.initialized yX11_bad.cls ∈ lw_g) (lw_b8 120 rfl rfl : Cond.code yX11_bad cX11_bad 3 none ∈ lw_g), ⟨by decide, by decide, by decide +kernel⟩, ⟨_, _, rfl⟩⟩
theorem bk_X11_take_169 : ck_ fX11 none cX11_take 169 [.goto 346] 172 = true := qck_r (nn_ _) (by decide +kernel)
theorem bs_X11_take_169 {P : Zt → Option Zv → Prop} (K : Int → Zl → List Zv → Zt → Prop) : sx_ K P [.goto 346] 172 = x_goto 346 K := (xe_goto 346)
set_option maxRecDepth 100000 in
theorem cl_X11_277 : cs_ RX11 277 yX11_isLetter zX11_isLetter 1 := ⟨gi_S (lw_b8 114 (by decide +kernel) rfl : Cond.methodLink RX11 277 yX11_isLetter ∈ lw_g) (lw_b8 115 (by decide +kernel) rfl : Cond.static yX11_isLetter ∈ lw_g) (lw_b1 10 (by decide +kernel) rfl : Cond.initialized yX11_isLetter.cls ∈ lw_g) (lw_b8 116 rfl rfl : Cond.code yX11_isLetter cX11_isLetter 1 (some .boolean) ∈ lw_g), ⟨by decide, by decide, by decide +kernel⟩⟩
theorem bk_X11_take_125 : ck_ fX11 none cX11_take 125 [.ifCond .eq 141, .aload 0, .dup, .tableswitch 0 11 60 #[], .iconst 1, .iadd, .tableswitch 1 11 60 #[], .goto 102] 141 = true := qck_r (nn_ _) (by decide +kernel)
theorem bs_X11_take_125 {P : Zt → Option Zv → Prop} (K : Int → Zl → List Zv → Zt → Prop) : sx_ K P [.ifCond .eq 141, .aload 0, .dup, .tableswitch 0 11 60 #[], .iconst 1, .iadd, .tableswitch 1 11 60 #[], .goto 102] 141 = x_ifCond .eq 141 K (x_aload 0 (x_dup (x_g0 111 60 0 400 (x_iconst 1 (x_iadd (x_p 111 60 0 400 (x_goto 102 K))))))) := ((xe_ifCond .eq 141).trans (congrArg (x_ifCond .eq 141 K) ((xe_aload 0).trans (congrArg (x_aload 0) ((xe_dup).trans (congrArg (x_dup) ((xe_g0 (kk := 111) rfl tl_11_60).trans (congrArg (x_g0 111 60 0 400) ((xe_iconst 1).trans (congrArg (x_iconst 1) ((xe_iadd).trans (congrArg (x_iadd) ((xe_p (kk := 111) rfl tl_11_60).trans (congrArg (x_p 111 60 0 400) (xe_goto 102)))))))))))))))
theorem bk_X11_take_251 : ck_ fX11 none cX11_take 251 [.tableswitch 1 11 61 #[], .aload 0, .dup, .tableswitch 0 11 60 #[], .iconst 1, .iadd, .tableswitch 1 11 60 #[], .goto 184] 267 = true := qck_r (nn_ _) (by decide +kernel)
theorem bs_X11_take_251 {P : Zt → Option Zv → Prop} (K : Int → Zl → List Zv → Zt → Prop) : sx_ K P [.tableswitch 1 11 61 #[], .aload 0, .dup, .tableswitch 0 11 60 #[], .iconst 1, .iadd, .tableswitch 1 11 60 #[], .goto 184] 267 = x_p 111 61 (-2147483648) 2147483647 (x_aload 0 (x_dup (x_g0 111 60 0 400 (x_iconst 1 (x_iadd (x_p 111 60 0 400 (x_goto 184 K))))))) := ((xe_p (kk := 111) rfl tl_11_61).trans (congrArg (x_p 111 61 (-2147483648) 2147483647) ((xe_aload 0).trans (congrArg (x_aload 0) ((xe_dup).trans (congrArg (x_dup) ((xe_g0 (kk := 111) rfl tl_11_60).trans (congrArg (x_g0 111 60 0 400) ((xe_iconst 1).trans (congrArg (x_iconst 1) ((xe_iadd).trans (congrArg (x_iadd) ((xe_p (kk := 111) rfl tl_11_60).trans (congrArg (x_p 111 60 0 400) (xe_goto 184)))))))))))))))
theorem bk_X11_take_184 : ck_ fX11 none cX11_take 184 [.aload 0, .tableswitch 0 11 60 #[], .aload 0, .tableswitch 0 11 1 #[], .if_icmp .ge 267, .aload 0, .tableswitch 0 11 0 #[], .aload 0, .tableswitch 0 11 60 #[], .iaload] 204 = true := qck_r (nn_ _) (by decide +kernel)
theorem bs_X11_take_184 {P : Zt → Option Zv → Prop} (K : Int → Zl → List Zv → Zt → Prop) : sx_ K P [.aload 0, .tableswitch 0 11 60 #[], .aload 0, .tableswitch 0 11 1 #[], .if_icmp .ge 267, .aload 0, .tableswitch 0 11 0 #[], .aload 0, .tableswitch 0 11 60 #[], .iaload] 204 = x_aload 0 (x_g0 111 60 0 400 (x_aload 0 (x_g0 111 1 0 400 (x_if_icmp .ge 267 K (x_aload 0 (x_g1 111 200 (x_aload 0 (x_g0 111 60 0 400 (x_iaload (K 204)))))))))) := ((xe_aload 0).trans (congrArg (x_aload 0) ((xe_g0 (kk := 111) rfl tl_11_60).trans (congrArg (x_g0 111 60 0 400) ((xe_aload 0).trans (congrArg (x_aload 0) ((xe_g0 (kk := 111) rfl tl_11_1).trans (congrArg (x_g0 111 1 0 400) ((xe_if_icmp .ge 267).trans (congrArg (x_if_icmp .ge 267 K) ((xe_aload 0).trans (congrArg (x_aload 0) ((xe_g1 (kk := 111) rfl tl_11_0).trans (congrArg (x_g1 111 200) ((xe_aload 0).trans (congrArg (x_aload 0) ((xe_g0 (kk := 111) rfl tl_11_60).trans (congrArg (x_g0 111 60 0 400) ((xe_iaload).trans (congrArg (x_iaload) xe_nil))))))))))))))))))))
theorem bk_X11_take_267 : ck_ fX11 none cX11_take 267 [.aload 0, .iconst 2, .tableswitch 1 11 58 #[], .aload 0, .tableswitch 0 11 60 #[], .aload 0, .tableswitch 0 11 59 #[], .isub, .iconst 3, .if_icmp .le 346, .aload 0, .iconst 1, .aload 0, .tableswitch 0 11 59 #[]] 291 = true := qck_r (nn_ _) (by decide +kernel)
theorem bs_X11_take_267 {P : Zt → Option Zv → Prop} (K : Int → Zl → List Zv → Zt → Prop) : sx_ K P [.aload 0, .iconst 2, .tableswitch 1 11 58 #[], .aload 0, .tableswitch 0 11 60 #[], .aload 0, .tableswitch 0 11 59 #[], .isub, .iconst 3, .if_icmp .le 346, .aload 0, .iconst 1, .aload 0, .tableswitch 0 11 59 #[]] 291 = x_aload 0 (x_iconst 2 (x_p 111 58 0 4 (x_aload 0 (x_g0 111 60 0 400 (x_aload 0 (x_g0 111 59 0 400 (x_isub (x_iconst 3 (x_if_icmp .le 346 K (x_aload 0 (x_iconst 1 (x_aload 0 (x_g0 111 59 0 400 (K 291)))))))))))))) := ((xe_aload 0).trans (congrArg (x_aload 0) ((xe_iconst 2).trans (congrArg (x_iconst 2) ((xe_p (kk := 111) rfl tl_11_58).trans (congrArg (x_p 111 58 0 4) ((xe_aload 0).trans (congrArg (x_aload 0) ((xe_g0 (kk := 111) rfl tl_11_60).trans (congrArg (x_g0 111 60 0 400) ((xe_aload 0).trans (congrArg (x_aload 0) ((xe_g0 (kk := 111) rfl tl_11_59).trans (congrArg (x_g0 111 59 0 400) ((xe_isub).trans (congrArg (x_isub) ((xe_iconst 3).trans (congrArg (x_iconst 3) ((xe_if_icmp .le 346).trans (congrArg (x_if_icmp .le 346 K) ((xe_aload 0).trans (congrArg (x_aload 0) ((xe_iconst 1).trans (congrArg (x_iconst 1) ((xe_aload 0).trans (congrArg (x_aload 0) ((xe_g0 (kk := 111) rfl tl_11_59).trans (congrArg (x_g0 111 59 0 400) xe_nil))))))))))))))))))))))))))))
theorem bk_X11_take_294 : ck_ fX11 none cX11_take 294 [.goto 346] 297 = true := qck_r (nn_ _) (by decide +kernel)
theorem bs_X11_take_294 {P : Zt → Option Zv → Prop} (K : Int → Zl → List Zv → Zt → Prop) : sx_ K P [.goto 346] 297 = x_goto 346 K := (xe_goto 346)
set_option maxRecDepth 100000 in
theorem cl_X11_285 : cs_ RX11 285 yX11_isDigit zX11_isDigit 1 := ⟨gi_S (lw_b8 121 (by decide +kernel) rfl : Cond.methodLink RX11 285 yX11_isDigit ∈ lw_g) (lw_b8 122 (by decide +kernel) rfl : Cond.static yX11_isDigit ∈ lw_g) (lw_b1 10 (by decide +kernel) rfl : Cond.initialized yX11_isDigit.cls ∈ lw_g) (lw_b8 123 rfl rfl : Cond.code yX11_isDigit cX11_isDigit 1 (some .boolean) ∈ lw_g), ⟨by decide, by decide, by decide +kernel⟩⟩
theorem bk_X11_take_207 : ck_ fX11 none cX11_take 207 [.ifCond .eq 267, .aload 0, .aload 0, .tableswitch 0 11 60 #[], .aload 0, .tableswitch 0 11 59 #[], .isub, .iconst 3, .if_icmp .ge 247, .iconst 10, .aload 0, .tableswitch 0 11 61 #[], .fmul, .aload 0, .tableswitch 0 11 0 #[], .aload 0, .tableswitch 0 11 60 #[], .iaload, .fadd, .iconst 48, .fsub, .goto 251] 247 = true := qck_r (nn_ _) (by decide +kernel)
theorem bs_X11_take_207 {P : Zt → Option Zv → Prop} (K : Int → Zl → List Zv → Zt → Prop) : sx_ K P [.ifCond .eq 267, .aload 0, .aload 0, .tableswitch 0 11 60 #[], .aload 0, .tableswitch 0 11 59 #[], .isub, .iconst 3, .if_icmp .ge 247, .iconst 10, .aload 0, .tableswitch 0 11 61 #[], .fmul, .aload 0, .tableswitch 0 11 0 #[], .aload 0, .tableswitch 0 11 60 #[], .iaload, .fadd, .iconst 48, .fsub, .goto 251] 247 = x_ifCond .eq 267 K (x_aload 0 (x_aload 0 (x_g0 111 60 0 400 (x_aload 0 (x_g0 111 59 0 400 (x_isub (x_iconst 3 (x_if_icmp .ge 247 K (x_iconst 10 (x_aload 0 (x_g0 111 61 (-2147483648) 2147483647 (x_fmul (x_aload 0 (x_g1 111 200 (x_aload 0 (x_g0 111 60 0 400 (x_iaload (x_fadd (x_iconst 48 (x_fsub (x_goto 251 K))))))))))))))))))))) := ((xe_ifCond .eq 267).trans (congrArg (x_ifCond .eq 267 K) ((xe_aload 0).trans (congrArg (x_aload 0) ((xe_aload 0).trans (congrArg (x_aload 0) ((xe_g0 (kk := 111) rfl tl_11_60).trans (congrArg (x_g0 111 60 0 400) ((xe_aload 0).trans (congrArg (x_aload 0) ((xe_g0 (kk := 111) rfl tl_11_59).trans (congrArg (x_g0 111 59 0 400) ((xe_isub).trans (congrArg (x_isub) ((xe_iconst 3).trans (congrArg (x_iconst 3) ((xe_if_icmp .ge 247).trans (congrArg (x_if_icmp .ge 247 K) ((xe_iconst 10).trans (congrArg (x_iconst 10) ((xe_aload 0).trans (congrArg (x_aload 0) ((xe_g0 (kk := 111) rfl tl_11_61).trans (congrArg (x_g0 111 61 (-2147483648) 2147483647) ((xe_fmul).trans (congrArg (x_fmul) ((xe_aload 0).trans (congrArg (x_aload 0) ((xe_g1 (kk := 111) rfl tl_11_0).trans (congrArg (x_g1 111 200) ((xe_aload 0).trans (congrArg (x_aload 0) ((xe_g0 (kk := 111) rfl tl_11_60).trans (congrArg (x_g0 111 60 0 400) ((xe_iaload).trans (congrArg (x_iaload) ((xe_fadd).trans (congrArg (x_fadd) ((xe_iconst 48).trans (congrArg (x_iconst 48) ((xe_fsub).trans (congrArg (x_fsub) (xe_goto 251)))))))))))))))))))))))))))))))))))))))))))
theorem bk_X11_take_247 : ck_ fX11 none cX11_take 247 [.aload 0, .tableswitch 0 11 61 #[]] 251 = true := qck_r (nn_ _) (by decide +kernel)
theorem bs_X11_take_247 {P : Zt → Option Zv → Prop} (K : Int → Zl → List Zv → Zt → Prop) : sx_ K P [.aload 0, .tableswitch 0 11 61 #[]] 251 = x_aload 0 (x_g0 111 61 (-2147483648) 2147483647 (K 251)) := ((xe_aload 0).trans (congrArg (x_aload 0) ((xe_g0 (kk := 111) rfl tl_11_61).trans (congrArg (x_g0 111 61 (-2147483648) 2147483647) xe_nil))))
theorem bk_X11_take_52 : ck_ fX11 none cX11_take 52 [.aload 0, .aload 0, .tableswitch 0 11 57 #[], .tableswitch 1 11 59 #[], .aload 0, .aload 0, .tableswitch 0 11 57 #[], .tableswitch 1 11 60 #[], .aload 0, .iconst 0, .tableswitch 1 11 58 #[], .aload 0, .tableswitch 0 11 57 #[], .aload 0, .tableswitch 0 11 1 #[], .if_icmp .ne 85, .return_] 85 = true := qck_r (nn_ _) (by decide +kernel)
theorem bs_X11_take_52 {P : Zt → Option Zv → Prop} (K : Int → Zl → List Zv → Zt → Prop) : sx_ K P [.aload 0, .aload 0, .tableswitch 0 11 57 #[], .tableswitch 1 11 59 #[], .aload 0, .aload 0, .tableswitch 0 11 57 #[], .tableswitch 1 11 60 #[], .aload 0, .iconst 0, .tableswitch 1 11 58 #[], .aload 0, .tableswitch 0 11 57 #[], .aload 0, .tableswitch 0 11 1 #[], .if_icmp .ne 85, .return_] 85 = x_aload 0 (x_aload 0 (x_g0 111 57 0 400 (x_p 111 59 0 400 (x_aload 0 (x_aload 0 (x_g0 111 57 0 400 (x_p 111 60 0 400 (x_aload 0 (x_iconst 0 (x_p 111 58 0 4 (x_aload 0 (x_g0 111 57 0 400 (x_aload 0 (x_g0 111 1 0 400 (x_if_icmp .ne 85 K (x_return_ P)))))))))))))))) := ((xe_aload 0).trans (congrArg (x_aload 0) ((xe_aload 0).trans (congrArg (x_aload 0) ((xe_g0 (kk := 111) rfl tl_11_57).trans (congrArg (x_g0 111 57 0 400) ((xe_p (kk := 111) rfl tl_11_59).trans (congrArg (x_p 111 59 0 400) ((xe_aload 0).trans (congrArg (x_aload 0) ((xe_aload 0).trans (congrArg (x_aload 0) ((xe_g0 (kk := 111) rfl tl_11_57).trans (congrArg (x_g0 111 57 0 400) ((xe_p (kk := 111) rfl tl_11_60).trans (congrArg (x_p 111 60 0 400) ((xe_aload 0).trans (congrArg (x_aload 0) ((xe_iconst 0).trans (congrArg (x_iconst 0) ((xe_p (kk := 111) rfl tl_11_58).trans (congrArg (x_p 111 58 0 4) ((xe_aload 0).trans (congrArg (x_aload 0) ((xe_g0 (kk := 111) rfl tl_11_57).trans (congrArg (x_g0 111 57 0 400) ((xe_aload 0).trans (congrArg (x_aload 0) ((xe_g0 (kk := 111) rfl tl_11_1).trans (congrArg (x_g0 111 1 0 400) ((xe_if_icmp .ne 85).trans (congrArg (x_if_icmp .ne 85 K) (xe_return_)))))))))))))))))))))))))))))))))
theorem bk_X11_take_85 : ck_ fX11 none cX11_take 85 [.aload 0, .tableswitch 0 11 0 #[], .aload 0, .tableswitch 0 11 57 #[], .iaload, .istore 1, .iload 1] 96 = true := qck_r (nn_ _) (by decide +kernel)
theorem bs_X11_take_85 {P : Zt → Option Zv → Prop} (K : Int → Zl → List Zv → Zt → Prop) : sx_ K P [.aload 0, .tableswitch 0 11 0 #[], .aload 0, .tableswitch 0 11 57 #[], .iaload, .istore 1, .iload 1] 96 = x_aload 0 (x_g1 111 200 (x_aload 0 (x_g0 111 57 0 400 (x_iaload (x_istore 1 (x_iload 1 (K 96))))))) := ((xe_aload 0).trans (congrArg (x_aload 0) ((xe_g1 (kk := 111) rfl tl_11_0).trans (congrArg (x_g1 111 200) ((xe_aload 0).trans (congrArg (x_aload 0) ((xe_g0 (kk := 111) rfl tl_11_57).trans (congrArg (x_g0 111 57 0 400) ((xe_iaload).trans (congrArg (x_iaload) ((xe_istore 1).trans (congrArg (x_istore 1) ((xe_iload 1).trans (congrArg (x_iload 1) xe_nil))))))))))))))
theorem bk_X11_take_99 : ck_ fX11 none cX11_take 99 [.ifCond .eq 172] 102 = true := qck_r (nn_ _) (by decide +kernel)
theorem bs_X11_take_99 {P : Zt → Option Zv → Prop} (K : Int → Zl → List Zv → Zt → Prop) : sx_ K P [.ifCond .eq 172] 102 = x_ifCond .eq 172 K (K 102) := ((xe_ifCond .eq 172).trans (congrArg (x_ifCond .eq 172 K) xe_nil))
theorem bk_X11_take_172 : ck_ fX11 none cX11_take 172 [.iload 1] 173 = true := qck_r (nn_ _) (by decide +kernel)
theorem bs_X11_take_172 {P : Zt → Option Zv → Prop} (K : Int → Zl → List Zv → Zt → Prop) : sx_ K P [.iload 1] 173 = x_iload 1 (K 173) := ((xe_iload 1).trans (congrArg (x_iload 1) xe_nil))
theorem bk_X11_take_176 : ck_ fX11 none cX11_take 176 [.ifCond .eq 297, .aload 0, .iconst 0, .tableswitch 1 11 61 #[]] 184 = true := qck_r (nn_ _) (by decide +kernel)
theorem bs_X11_take_176 {P : Zt → Option Zv → Prop} (K : Int → Zl → List Zv → Zt → Prop) : sx_ K P [.ifCond .eq 297, .aload 0, .iconst 0, .tableswitch 1 11 61 #[]] 184 = x_ifCond .eq 297 K (x_aload 0 (x_iconst 0 (x_p 111 61 (-2147483648) 2147483647 (K 184)))) := ((xe_ifCond .eq 297).trans (congrArg (x_ifCond .eq 297 K) ((xe_aload 0).trans (congrArg (x_aload 0) ((xe_iconst 0).trans (congrArg (x_iconst 0) ((xe_p (kk := 111) rfl tl_11_61).trans (congrArg (x_p 111 61 (-2147483648) 2147483647) xe_nil))))))))
theorem bk_X11_take_297 : ck_ fX11 none cX11_take 297 [.iload 1, .iconst 59, .if_icmp .eq 309, .iload 1, .iconst 44, .if_icmp .ne 337, .aload 0, .iload 1, .iconst 59, .if_icmp .ne 320, .iconst 3, .goto 321] 320 = true := qck_r (nn_ _) (by decide +kernel)
theorem bs_X11_take_297 {P : Zt → Option Zv → Prop} (K : Int → Zl → List Zv → Zt → Prop) : sx_ K P [.iload 1, .iconst 59, .if_icmp .eq 309, .iload 1, .iconst 44, .if_icmp .ne 337, .aload 0, .iload 1, .iconst 59, .if_icmp .ne 320, .iconst 3, .goto 321] 320 = x_iload 1 (x_iconst 59 (x_if_icmp .eq 309 K (x_iload 1 (x_iconst 44 (x_if_icmp .ne 337 K (x_aload 0 (x_iload 1 (x_iconst 59 (x_if_icmp .ne 320 K (x_iconst 3 (x_goto 321 K))))))))))) := ((xe_iload 1).trans (congrArg (x_iload 1) ((xe_iconst 59).trans (congrArg (x_iconst 59) ((xe_if_icmp .eq 309).trans (congrArg (x_if_icmp .eq 309 K) ((xe_iload 1).trans (congrArg (x_iload 1) ((xe_iconst 44).trans (congrArg (x_iconst 44) ((xe_if_icmp .ne 337).trans (congrArg (x_if_icmp .ne 337 K) ((xe_aload 0).trans (congrArg (x_aload 0) ((xe_iload 1).trans (congrArg (x_iload 1) ((xe_iconst 59).trans (congrArg (x_iconst 59) ((xe_if_icmp .ne 320).trans (congrArg (x_if_icmp .ne 320 K) ((xe_iconst 3).trans (congrArg (x_iconst 3) (xe_goto 321)))))))))))))))))))))))
theorem bk_X11_take_309 : ck_ fX11 none cX11_take 309 [.aload 0, .iload 1, .iconst 59, .if_icmp .ne 320, .iconst 3, .goto 321] 320 = true := qck_r (nn_ _) (by decide +kernel)
theorem bs_X11_take_309 {P : Zt → Option Zv → Prop} (K : Int → Zl → List Zv → Zt → Prop) : sx_ K P [.aload 0, .iload 1, .iconst 59, .if_icmp .ne 320, .iconst 3, .goto 321] 320 = x_aload 0 (x_iload 1 (x_iconst 59 (x_if_icmp .ne 320 K (x_iconst 3 (x_goto 321 K))))) := ((xe_aload 0).trans (congrArg (x_aload 0) ((xe_iload 1).trans (congrArg (x_iload 1) ((xe_iconst 59).trans (congrArg (x_iconst 59) ((xe_if_icmp .ne 320).trans (congrArg (x_if_icmp .ne 320 K) ((xe_iconst 3).trans (congrArg (x_iconst 3) (xe_goto 321)))))))))))
theorem bk_X11_take_320 : ck_ fX11 none cX11_take 320 [.iconst 4, .tableswitch 1 11 58 #[], .aload 0, .dup, .tableswitch 0 11 60 #[], .iconst 1, .iadd, .tableswitch 1 11 60 #[], .goto 346] 337 = true := qck_r (nn_ _) (by decide +kernel)
theorem bs_X11_take_320 {P : Zt → Option Zv → Prop} (K : Int → Zl → List Zv → Zt → Prop) : sx_ K P [.iconst 4, .tableswitch 1 11 58 #[], .aload 0, .dup, .tableswitch 0 11 60 #[], .iconst 1, .iadd, .tableswitch 1 11 60 #[], .goto 346] 337 = x_iconst 4 (x_p 111 58 0 4 (x_aload 0 (x_dup (x_g0 111 60 0 400 (x_iconst 1 (x_iadd (x_p 111 60 0 400 (x_goto 346 K)))))))) := ((xe_iconst 4).trans (congrArg (x_iconst 4) ((xe_p (kk := 111) rfl tl_11_58).trans (congrArg (x_p 111 58 0 4) ((xe_aload 0).trans (congrArg (x_aload 0) ((xe_dup).trans (congrArg (x_dup) ((xe_g0 (kk := 111) rfl tl_11_60).trans (congrArg (x_g0 111 60 0 400) ((xe_iconst 1).trans (congrArg (x_iconst 1) ((xe_iadd).trans (congrArg (x_iadd) ((xe_p (kk := 111) rfl tl_11_60).trans (congrArg (x_p 111 60 0 400) (xe_goto 346)))))))))))))))))
theorem bk_X11_take_321 : ck_ fX11 none cX11_take 321 [.tableswitch 1 11 58 #[], .aload 0, .dup, .tableswitch 0 11 60 #[], .iconst 1, .iadd, .tableswitch 1 11 60 #[], .goto 346] 337 = true := qck_r (nn_ _) (by decide +kernel)
theorem bs_X11_take_321 {P : Zt → Option Zv → Prop} (K : Int → Zl → List Zv → Zt → Prop) : sx_ K P [.tableswitch 1 11 58 #[], .aload 0, .dup, .tableswitch 0 11 60 #[], .iconst 1, .iadd, .tableswitch 1 11 60 #[], .goto 346] 337 = x_p 111 58 0 4 (x_aload 0 (x_dup (x_g0 111 60 0 400 (x_iconst 1 (x_iadd (x_p 111 60 0 400 (x_goto 346 K))))))) := ((xe_p (kk := 111) rfl tl_11_58).trans (congrArg (x_p 111 58 0 4) ((xe_aload 0).trans (congrArg (x_aload 0) ((xe_dup).trans (congrArg (x_dup) ((xe_g0 (kk := 111) rfl tl_11_60).trans (congrArg (x_g0 111 60 0 400) ((xe_iconst 1).trans (congrArg (x_iconst 1) ((xe_iadd).trans (congrArg (x_iadd) ((xe_p (kk := 111) rfl tl_11_60).trans (congrArg (x_p 111 60 0 400) (xe_goto 346)))))))))))))))
theorem bk_X11_take_337 : ck_ fX11 none cX11_take 337 [.aload 0, .iconst 1, .aload 0, .tableswitch 0 11 59 #[]] 343 = true := qck_r (nn_ _) (by decide +kernel)
theorem bs_X11_take_337 {P : Zt → Option Zv → Prop} (K : Int → Zl → List Zv → Zt → Prop) : sx_ K P [.aload 0, .iconst 1, .aload 0, .tableswitch 0 11 59 #[]] 343 = x_aload 0 (x_iconst 1 (x_aload 0 (x_g0 111 59 0 400 (K 343)))) := ((xe_aload 0).trans (congrArg (x_aload 0) ((xe_iconst 1).trans (congrArg (x_iconst 1) ((xe_aload 0).trans (congrArg (x_aload 0) ((xe_g0 (kk := 111) rfl tl_11_59).trans (congrArg (x_g0 111 59 0 400) xe_nil))))))))
theorem bk_X11_take_0 : ck_ fX11 none cX11_take 0 [.aload 0, .tableswitch 0 11 57 #[], .aload 0, .tableswitch 0 11 1 #[], .if_icmp .ge 52, .aload 0, .tableswitch 0 11 0 #[], .aload 0, .tableswitch 0 11 57 #[], .iaload, .iconst 10, .if_icmp .eq 39, .aload 0, .tableswitch 0 11 0 #[], .aload 0, .tableswitch 0 11 57 #[], .iaload, .iconst 32, .if_icmp .ne 52, .aload 0, .dup, .tableswitch 0 11 57 #[], .iconst 1, .iadd, .tableswitch 1 11 57 #[], .goto 0] 52 = true := qck_r (nn_ _) (by decide +kernel)
theorem bs_X11_take_0 {P : Zt → Option Zv → Prop} (K : Int → Zl → List Zv → Zt → Prop) : sx_ K P [.aload 0, .tableswitch 0 11 57 #[], .aload 0, .tableswitch 0 11 1 #[], .if_icmp .ge 52, .aload 0, .tableswitch 0 11 0 #[], .aload 0, .tableswitch 0 11 57 #[], .iaload, .iconst 10, .if_icmp .eq 39, .aload 0, .tableswitch 0 11 0 #[], .aload 0, .tableswitch 0 11 57 #[], .iaload, .iconst 32, .if_icmp .ne 52, .aload 0, .dup, .tableswitch 0 11 57 #[], .iconst 1, .iadd, .tableswitch 1 11 57 #[], .goto 0] 52 = x_aload 0 (x_g0 111 57 0 400 (x_aload 0 (x_g0 111 1 0 400 (x_if_icmp .ge 52 K (x_aload 0 (x_g1 111 200 (x_aload 0 (x_g0 111 57 0 400 (x_iaload (x_iconst 10 (x_if_icmp .eq 39 K (x_aload 0 (x_g1 111 200 (x_aload 0 (x_g0 111 57 0 400 (x_iaload (x_iconst 32 (x_if_icmp .ne 52 K (x_aload 0 (x_dup (x_g0 111 57 0 400 (x_iconst 1 (x_iadd (x_p 111 57 0 400 (x_goto 0 K))))))))))))))))))))))))) := ((xe_aload 0).trans (congrArg (x_aload 0) ((xe_g0 (kk := 111) rfl tl_11_57).trans (congrArg (x_g0 111 57 0 400) ((xe_aload 0).trans (congrArg (x_aload 0) ((xe_g0 (kk := 111) rfl tl_11_1).trans (congrArg (x_g0 111 1 0 400) ((xe_if_icmp .ge 52).trans (congrArg (x_if_icmp .ge 52 K) ((xe_aload 0).trans (congrArg (x_aload 0) ((xe_g1 (kk := 111) rfl tl_11_0).trans (congrArg (x_g1 111 200) ((xe_aload 0).trans (congrArg (x_aload 0) ((xe_g0 (kk := 111) rfl tl_11_57).trans (congrArg (x_g0 111 57 0 400) ((xe_iaload).trans (congrArg (x_iaload) ((xe_iconst 10).trans (congrArg (x_iconst 10) ((xe_if_icmp .eq 39).trans (congrArg (x_if_icmp .eq 39 K) ((xe_aload 0).trans (congrArg (x_aload 0) ((xe_g1 (kk := 111) rfl tl_11_0).trans (congrArg (x_g1 111 200) ((xe_aload 0).trans (congrArg (x_aload 0) ((xe_g0 (kk := 111) rfl tl_11_57).trans (congrArg (x_g0 111 57 0 400) ((xe_iaload).trans (congrArg (x_iaload) ((xe_iconst 32).trans (congrArg (x_iconst 32) ((xe_if_icmp .ne 52).trans (congrArg (x_if_icmp .ne 52 K) ((xe_aload 0).trans (congrArg (x_aload 0) ((xe_dup).trans (congrArg (x_dup) ((xe_g0 (kk := 111) rfl tl_11_57).trans (congrArg (x_g0 111 57 0 400) ((xe_iconst 1).trans (congrArg (x_iconst 1) ((xe_iadd).trans (congrArg (x_iadd) ((xe_p (kk := 111) rfl tl_11_57).trans (congrArg (x_p 111 57 0 400) (xe_goto 0)))))))))))))))))))))))))))))))))))))))))))))))))))
theorem bk_X11_take_39 : ck_ fX11 none cX11_take 39 [.aload 0, .dup, .tableswitch 0 11 57 #[], .iconst 1, .iadd, .tableswitch 1 11 57 #[], .goto 0] 52 = true := qck_r (nn_ _) (by decide +kernel)
theorem bs_X11_take_39 {P : Zt → Option Zv → Prop} (K : Int → Zl → List Zv → Zt → Prop) : sx_ K P [.aload 0, .dup, .tableswitch 0 11 57 #[], .iconst 1, .iadd, .tableswitch 1 11 57 #[], .goto 0] 52 = x_aload 0 (x_dup (x_g0 111 57 0 400 (x_iconst 1 (x_iadd (x_p 111 57 0 400 (x_goto 0 K)))))) := ((xe_aload 0).trans (congrArg (x_aload 0) ((xe_dup).trans (congrArg (x_dup) ((xe_g0 (kk := 111) rfl tl_11_57).trans (congrArg (x_g0 111 57 0 400) ((xe_iconst 1).trans (congrArg (x_iconst 1) ((xe_iadd).trans (congrArg (x_iadd) ((xe_p (kk := 111) rfl tl_11_57).trans (congrArg (x_p 111 57 0 400) (xe_goto 0)))))))))))))
abbrev po_X11_take (T : Zt) : Zt → Option Zv → Prop := fun T' r => r = none ∧ fr_ [(111, [57, 58, 59, 60, 61, 62, 63])] T T' ∧ (T' 111 0 57 ≤ T 111 0 1 ∧ T 111 0 57 ≤ T' 111 0 59 ∧ T' 111 0 59 ≤ T' 111 0 60 ∧ T' 111 0 60 ≤ T 111 0 1 ∧ T 111 0 57 ≤ T' 111 0 57 ∧ (T' 111 0 58 ≠ 0 → T 111 0 57 < T' 111 0 57) ∧ (T' 111 0 62 = 0 → T 111 0 62 = 0))
set_option maxHeartbeats 4000000 in
theorem ct_X11_take {T : Zt} (h1 : T 111 0 57 ≤ T 111 0 1) : Ct_ yX11_take zX11_take T [vR 111 0] (po_X11_take T) := by
  refine ct_of pn_11 rfl rfl (Nat.le_of_ble_eq_true rfl) (fun hT hav => ?_)
  have hz : zX11_take.2.2.2.1 = some .boolean → ∀ (T' : Zt) (x : Int), po_X11_take T T' (some (vI x)) → 0 ≤ x ∧ x ≤ 1 := fun h => by cases h
  show J_ zX11_take T (po_X11_take T) 0 0 0 [some (vR 111 0), none] [] T
  have c_0 : ∀ (nn : Nat) (T1 : Zt), ((T 111 0 1 - T1 111 0 57).toNat) ≤ nn → (fr_ [(111, [57])] T T1) → (T 111 0 57 ≤ T1 111 0 57 ∧ T1 111 0 57 ≤ T 111 0 1) → J_ zX11_take T (po_X11_take T) 0 0 0 [some (vR 111 0), none] [] T1 := by
    intro nn
    induction nn using Nat.strongRecOn with
    | _ nn ih_0 =>
      intro T1 hm_0 hf_0 i1
      have c_52 : J_ zX11_take T (po_X11_take T) 0 0 52 [some (vR 111 0), none] [] T1 := by
        have c_346 : ∀ (T3 : Zt), (fr_ [(111, [57, 58, 59, 60, 61, 62, 63])] T T3) → (T3 111 0 59 = T1 111 0 57 ∧ T1 111 0 57 ≤ T3 111 0 60 ∧ T3 111 0 60 ≤ T 111 0 1 ∧ (T3 111 0 58 ≠ 0 → T1 111 0 57 < T3 111 0 60) ∧ 0 ≤ T3 111 0 58 ∧ T3 111 0 58 ≤ 4 ∧ (T3 111 0 62 = 0 → T 111 0 62 = 0)) → J_ zX11_take T (po_X11_take T) 0 0 346 [some (vR 111 0), none] [] T3 := by
          intro T3 hf_346 j1
          refine j_blx (F := fX11) tb_X11 (nn_ _) bk_X11_take_346 bs_X11_take_346 hz (fun K hK => ?_)
          intro b1 b1b
          refine bd_i (by omega) ?_
          refine x_nm (fun U2 hU2 => ?_)
          have e3 := up_f hU2
          refine (show po_X11_take T U2 (none) from ?_)
          have e4 : U2 111 0 57 = T3 111 0 60 := up_f hU2
          have e5 : U2 111 0 59 = T3 111 0 59 := up_j hU2 (by exact ni_ rfl) 111 0
          have e6 : U2 111 0 60 = T3 111 0 60 := up_j hU2 (by exact ni_ rfl) 111 0
          have e7 : U2 111 0 58 = T3 111 0 58 := up_j hU2 (by exact ni_ rfl) 111 0
          have e8 : U2 111 0 62 = T3 111 0 62 := up_j hU2 (by exact ni_ rfl) 111 0
          exact ⟨rfl, fr_u (fr_t (fr_0 _ _) (fr_s hf_346 rfl)) hU2 rfl, by omega⟩
        have c_102 : ∀ (nn : Nat) (T2 : Zt), ((T 111 0 1 - T2 111 0 60).toNat) ≤ nn → (fr_ [(111, [57, 58, 59, 60, 61, 62, 63])] T T2) → (T2 111 0 59 = T1 111 0 57 ∧ T1 111 0 57 ≤ T2 111 0 60 ∧ T2 111 0 60 ≤ T 111 0 1 ∧ T1 111 0 57 < T 111 0 1 ∧ T2 111 0 62 = T 111 0 62) → (97 ≤ T 200 0 (T1 111 0 57) ∧ T 200 0 (T1 111 0 57) ≤ 122) → J_ zX11_take T (po_X11_take T) 0 0 102 [some (vR 111 0), none] [] T2 := by
          intro nn
          induction nn using Nat.strongRecOn with
          | _ nn ih_102 =>
            intro T2 hm_102 hf_102 k1 k2
            have cg : T2 111 0 60 = T1 111 0 57 → T 200 0 (T2 111 0 60) = T 200 0 (T1 111 0 57) := fun z => by rw [z]
            refine j_blx (F := fX11) tb_X11 (nn_ _) bk_X11_take_102 bs_X11_take_102 hz (fun K hK => ?_)
            intro b9 b9b
            intro b10 b10b
            have e11 : T2 111 0 1 = T 111 0 1 := hf_102 111 0 1 rfl
            rw [e11] at b10 b10b ⊢
            refine And.intro (fun c12 => ?_) (fun c12 => ?_)
            · refine hK 141 _ [] T2 ?_
              refine j_blx (F := fX11) tb_X11 (nn_ _) bk_X11_take_141 bs_X11_take_141 hz (fun K hK => ?_)
              refine bd_i (by omega) ?_
              refine x_nm (fun U13 hU13 => ?_)
              have e14 := up_f hU13
              intro b15 b15b
              have e16 : U13 111 0 60 = T2 111 0 60 := up_j hU13 (by exact ni_ rfl) 111 0
              rw [e16] at b15 b15b ⊢
              intro b17 b17b
              have e18 : U13 111 0 59 = T2 111 0 59 := up_j hU13 (by exact ni_ rfl) 111 0
              rw [e18] at b17 b17b ⊢
              refine rg_i (by omega) ?_
              refine And.intro (fun c19 => ?_) (fun c19 => ?_)
              · refine hK 346 _ [] U13 ?_
                have e20 : U13 111 0 59 = T2 111 0 59 := up_j hU13 (by exact ni_ rfl) 111 0
                have e21 : U13 111 0 60 = T2 111 0 60 := up_j hU13 (by exact ni_ rfl) 111 0
                have e22 : U13 111 0 58 = 1 := up_f hU13
                have e23 : U13 111 0 62 = T2 111 0 62 := up_j hU13 (by exact ni_ rfl) 111 0
                refine c_346 U13 ?_ ?_
                · exact fr_u (fr_t (fr_0 _ _) (fr_s hf_102 rfl)) hU13 rfl
                · omega
              · intro b24 b24b
                have e25 : U13 111 0 59 = T2 111 0 59 := up_j hU13 (by exact ni_ rfl) 111 0
                rw [e25] at b24 b24b ⊢
                refine hK 166 _ [vI (T2 111 0 59), vI 1, vR 111 0] U13 ?_
                refine j_callV (y := yX11_bad) (Yc := zX11_bad) (rest := []) [vI 1, vI (T2 111 0 59)] (ct_X11_bad (T := U13) (by omega) (by omega)) cl_X11_281 (qd_c (by decide +kernel)) (nn_ _) rfl (rf_of rfl) (Nat.le_of_ble_eq_true rfl) (Nat.le_of_ble_eq_true rfl) (Nat.le_of_ble_eq_true rfl) rfl ?_
                rintro U26 _ ⟨rfl, fU26, qU26⟩
                show J_ zX11_take T (po_X11_take T) 0 0 169 _ [] U26
                refine j_blx (F := fX11) tb_X11 (nn_ _) bk_X11_take_169 bs_X11_take_169 hz (fun K hK => ?_)
                refine hK 346 _ [] U26 ?_
                have e27 : U26 111 0 59 = T2 111 0 59 := (fU26 111 0 59 rfl).trans (up_j hU13 (by exact ni_ rfl) 111 0)
                have e28 : U26 111 0 60 = T2 111 0 60 := (fU26 111 0 60 rfl).trans (up_j hU13 (by exact ni_ rfl) 111 0)
                have e29 : U26 111 0 58 = 1 := (fU26 111 0 58 rfl).trans (up_f hU13)
                refine c_346 U26 ?_ ?_
                · exact fr_t (fr_u (fr_t (fr_0 _ _) (fr_s hf_102 rfl)) hU13 rfl) (fr_s fU26 rfl)
                · omega
            · intro b30 b30b
              refine ix_i (by omega) ?_
              intro b31 b31b
              have e32 : T2 200 0 (T2 111 0 60) = T 200 0 (T2 111 0 60) := hf_102 200 0 (T2 111 0 60) rfl
              rw [e32] at b31 b31b ⊢
              refine hK 122 _ [vI (T 200 0 (T2 111 0 60))] T2 ?_
              refine j_callS (y := yX11_isLetter) (Yc := zX11_isLetter) (rest := []) [vI (T 200 0 (T2 111 0 60))] (ct_X11_isLetter (T := T2)) cl_X11_277 (qd_c (by decide +kernel)) (nn_ _) rfl (rf_of rfl) (Nat.le_of_ble_eq_true rfl) (Nat.le_of_ble_eq_true rfl) (Nat.le_of_ble_eq_true rfl) rfl ?_
              rintro _ _ ⟨rfl, x33, rfl, hx33⟩
              show J_ zX11_take T (po_X11_take T) 0 0 125 _ [vI x33] T2
              refine j_blx (F := fX11) tb_X11 (nn_ _) bk_X11_take_125 bs_X11_take_125 hz (fun K hK => ?_)
              refine And.intro (fun c34 => ?_) (fun c34 => ?_)
              · refine hK 141 _ [] T2 ?_
                refine j_blx (F := fX11) tb_X11 (nn_ _) bk_X11_take_141 bs_X11_take_141 hz (fun K hK => ?_)
                refine bd_i (by omega) ?_
                refine x_nm (fun U35 hU35 => ?_)
                have e36 := up_f hU35
                intro b37 b37b
                have e38 : U35 111 0 60 = T2 111 0 60 := up_j hU35 (by exact ni_ rfl) 111 0
                rw [e38] at b37 b37b ⊢
                intro b39 b39b
                have e40 : U35 111 0 59 = T2 111 0 59 := up_j hU35 (by exact ni_ rfl) 111 0
                rw [e40] at b39 b39b ⊢
                refine rg_i (by omega) ?_
                refine And.intro (fun c41 => ?_) (fun c41 => ?_)
                · refine hK 346 _ [] U35 ?_
                  have e42 : U35 111 0 59 = T2 111 0 59 := up_j hU35 (by exact ni_ rfl) 111 0
                  have e43 : U35 111 0 60 = T2 111 0 60 := up_j hU35 (by exact ni_ rfl) 111 0
                  have e44 : U35 111 0 58 = 1 := up_f hU35
                  have e45 : U35 111 0 62 = T2 111 0 62 := up_j hU35 (by exact ni_ rfl) 111 0
                  refine c_346 U35 ?_ ?_
                  · exact fr_u (fr_t (fr_0 _ _) (fr_s hf_102 rfl)) hU35 rfl
                  · omega
                · intro b46 b46b
                  have e47 : U35 111 0 59 = T2 111 0 59 := up_j hU35 (by exact ni_ rfl) 111 0
                  rw [e47] at b46 b46b ⊢
                  refine hK 166 _ [vI (T2 111 0 59), vI 1, vR 111 0] U35 ?_
                  refine j_callV (y := yX11_bad) (Yc := zX11_bad) (rest := []) [vI 1, vI (T2 111 0 59)] (ct_X11_bad (T := U35) (by omega) (by omega)) cl_X11_281 (qd_c (by decide +kernel)) (nn_ _) rfl (rf_of rfl) (Nat.le_of_ble_eq_true rfl) (Nat.le_of_ble_eq_true rfl) (Nat.le_of_ble_eq_true rfl) rfl ?_
                  rintro U48 _ ⟨rfl, fU48, qU48⟩
                  show J_ zX11_take T (po_X11_take T) 0 0 169 _ [] U48
                  refine j_blx (F := fX11) tb_X11 (nn_ _) bk_X11_take_169 bs_X11_take_169 hz (fun K hK => ?_)
                  refine hK 346 _ [] U48 ?_
                  have e49 : U48 111 0 59 = T2 111 0 59 := (fU48 111 0 59 rfl).trans (up_j hU35 (by exact ni_ rfl) 111 0)
                  have e50 : U48 111 0 60 = T2 111 0 60 := (fU48 111 0 60 rfl).trans (up_j hU35 (by exact ni_ rfl) 111 0)
                  have e51 : U48 111 0 58 = 1 := (fU48 111 0 58 rfl).trans (up_f hU35)
                  refine c_346 U48 ?_ ?_
                  · exact fr_t (fr_u (fr_t (fr_0 _ _) (fr_s hf_102 rfl)) hU35 rfl) (fr_s fU48 rfl)
                  · omega
              · intro b52 b52b
                refine rg_i (by omega) ?_
                refine bd_i (by omega) ?_
                refine x_nm (fun U53 hU53 => ?_)
                have e54 := up_f hU53
                refine hK 102 _ [] U53 ?_
                have e55 : U53 111 0 59 = T2 111 0 59 := up_j hU53 (by exact ni_ rfl) 111 0
                have e56 : U53 111 0 60 = (T2 111 0 60) + 1 := up_f hU53
                have e57 : U53 111 0 62 = T2 111 0 62 := up_j hU53 (by exact ni_ rfl) 111 0
                refine ih_102 _ ?_ U53 (Nat.le_refl _) ?_ ?_ ?_
                · omega
                · exact fr_u (fr_t (fr_0 _ _) (fr_s hf_102 rfl)) hU53 rfl
                · omega
                · omega
        have c_184 : ∀ (nn : Nat) (T2 : Zt), ((T 111 0 1 - T2 111 0 60).toNat) ≤ nn → (fr_ [(111, [57, 58, 59, 60, 61, 62, 63])] T T2) → (T2 111 0 59 = T1 111 0 57 ∧ T1 111 0 57 ≤ T2 111 0 60 ∧ T2 111 0 60 ≤ T 111 0 1 ∧ T1 111 0 57 < T 111 0 1 ∧ T2 111 0 62 = T 111 0 62) → (48 ≤ T 200 0 (T1 111 0 57) ∧ T 200 0 (T1 111 0 57) ≤ 57) → J_ zX11_take T (po_X11_take T) 0 0 184 [some (vR 111 0), none] [] T2 := by
          intro nn
          induction nn using Nat.strongRecOn with
          | _ nn ih_184 =>
            intro T2 hm_184 hf_184 k1 k2
            have cg : T2 111 0 60 = T1 111 0 57 → T 200 0 (T2 111 0 60) = T 200 0 (T1 111 0 57) := fun z => by rw [z]
            have c_251 : ∀ (v : Int), (-2147483648 ≤ v ∧ v ≤ 2147483647) → (T2 111 0 60 < T 111 0 1 ∧ T 111 0 1 ≤ 400) → J_ zX11_take T (po_X11_take T) 0 0 251 [some (vR 111 0), none] [vI v, vR 111 0] T2 := by
              intro v v1 v2
              refine j_blx (F := fX11) tb_X11 (nn_ _) bk_X11_take_251 bs_X11_take_251 hz (fun K hK => ?_)
              refine bd_i (by omega) ?_
              refine x_nm (fun U58 hU58 => ?_)
              have e59 := up_f hU58
              intro b60 b60b
              have e61 : U58 111 0 60 = T2 111 0 60 := up_j hU58 (by exact ni_ rfl) 111 0
              rw [e61] at b60 b60b ⊢
              refine rg_i (by omega) ?_
              refine bd_i (by omega) ?_
              refine x_nm (fun U62 hU62 => ?_)
              have e63 := up_f hU62
              refine hK 184 _ [] U62 ?_
              have e64 : U62 111 0 59 = T2 111 0 59 := (up_j hU62 (by exact ni_ rfl) 111 0).trans (up_j hU58 (by exact ni_ rfl) 111 0)
              have e65 : U62 111 0 60 = (T2 111 0 60) + 1 := up_f hU62
              have e66 : U62 111 0 62 = T2 111 0 62 := (up_j hU62 (by exact ni_ rfl) 111 0).trans (up_j hU58 (by exact ni_ rfl) 111 0)
              refine ih_184 _ ?_ U62 (Nat.le_refl _) ?_ ?_ ?_
              · omega
              · exact fr_u (fr_u (fr_t (fr_0 _ _) (fr_s hf_184 rfl)) hU58 rfl) hU62 rfl
              · omega
              · omega
            refine j_blx (F := fX11) tb_X11 (nn_ _) bk_X11_take_184 bs_X11_take_184 hz (fun K hK => ?_)
            intro b67 b67b
            intro b68 b68b
            have e69 : T2 111 0 1 = T 111 0 1 := hf_184 111 0 1 rfl
            rw [e69] at b68 b68b ⊢
            refine And.intro (fun c70 => ?_) (fun c70 => ?_)
            · refine hK 267 _ [] T2 ?_
              refine j_blx (F := fX11) tb_X11 (nn_ _) bk_X11_take_267 bs_X11_take_267 hz (fun K hK => ?_)
              refine bd_i (by omega) ?_
              refine x_nm (fun U71 hU71 => ?_)
              have e72 := up_f hU71
              intro b73 b73b
              have e74 : U71 111 0 60 = T2 111 0 60 := up_j hU71 (by exact ni_ rfl) 111 0
              rw [e74] at b73 b73b ⊢
              intro b75 b75b
              have e76 : U71 111 0 59 = T2 111 0 59 := up_j hU71 (by exact ni_ rfl) 111 0
              rw [e76] at b75 b75b ⊢
              refine rg_i (by omega) ?_
              refine And.intro (fun c77 => ?_) (fun c77 => ?_)
              · refine hK 346 _ [] U71 ?_
                have e78 : U71 111 0 59 = T2 111 0 59 := up_j hU71 (by exact ni_ rfl) 111 0
                have e79 : U71 111 0 60 = T2 111 0 60 := up_j hU71 (by exact ni_ rfl) 111 0
                have e80 : U71 111 0 58 = 2 := up_f hU71
                have e81 : U71 111 0 62 = T2 111 0 62 := up_j hU71 (by exact ni_ rfl) 111 0
                refine c_346 U71 ?_ ?_
                · exact fr_u (fr_t (fr_0 _ _) (fr_s hf_184 rfl)) hU71 rfl
                · omega
              · intro b82 b82b
                have e83 : U71 111 0 59 = T2 111 0 59 := up_j hU71 (by exact ni_ rfl) 111 0
                rw [e83] at b82 b82b ⊢
                refine hK 291 _ [vI (T2 111 0 59), vI 1, vR 111 0] U71 ?_
                refine j_callV (y := yX11_bad) (Yc := zX11_bad) (rest := []) [vI 1, vI (T2 111 0 59)] (ct_X11_bad (T := U71) (by omega) (by omega)) cl_X11_281 (qd_c (by decide +kernel)) (nn_ _) rfl (rf_of rfl) (Nat.le_of_ble_eq_true rfl) (Nat.le_of_ble_eq_true rfl) (Nat.le_of_ble_eq_true rfl) rfl ?_
                rintro U84 _ ⟨rfl, fU84, qU84⟩
                show J_ zX11_take T (po_X11_take T) 0 0 294 _ [] U84
                refine j_blx (F := fX11) tb_X11 (nn_ _) bk_X11_take_294 bs_X11_take_294 hz (fun K hK => ?_)
                refine hK 346 _ [] U84 ?_
                have e85 : U84 111 0 59 = T2 111 0 59 := (fU84 111 0 59 rfl).trans (up_j hU71 (by exact ni_ rfl) 111 0)
                have e86 : U84 111 0 60 = T2 111 0 60 := (fU84 111 0 60 rfl).trans (up_j hU71 (by exact ni_ rfl) 111 0)
                have e87 : U84 111 0 58 = 2 := (fU84 111 0 58 rfl).trans (up_f hU71)
                refine c_346 U84 ?_ ?_
                · exact fr_t (fr_u (fr_t (fr_0 _ _) (fr_s hf_184 rfl)) hU71 rfl) (fr_s fU84 rfl)
                · omega
            · intro b88 b88b
              refine ix_i (by omega) ?_
              intro b89 b89b
              have e90 : T2 200 0 (T2 111 0 60) = T 200 0 (T2 111 0 60) := hf_184 200 0 (T2 111 0 60) rfl
              rw [e90] at b89 b89b ⊢
              refine hK 204 _ [vI (T 200 0 (T2 111 0 60))] T2 ?_
              refine j_callS (y := yX11_isDigit) (Yc := zX11_isDigit) (rest := []) [vI (T 200 0 (T2 111 0 60))] (ct_X11_isDigit (T := T2)) cl_X11_285 (qd_c (by decide +kernel)) (nn_ _) rfl (rf_of rfl) (Nat.le_of_ble_eq_true rfl) (Nat.le_of_ble_eq_true rfl) (Nat.le_of_ble_eq_true rfl) rfl ?_
              rintro _ _ ⟨rfl, x91, rfl, hx91⟩
              show J_ zX11_take T (po_X11_take T) 0 0 207 _ [vI x91] T2
              refine j_blx (F := fX11) tb_X11 (nn_ _) bk_X11_take_207 bs_X11_take_207 hz (fun K hK => ?_)
              refine And.intro (fun c92 => ?_) (fun c92 => ?_)
              · refine hK 267 _ [] T2 ?_
                refine j_blx (F := fX11) tb_X11 (nn_ _) bk_X11_take_267 bs_X11_take_267 hz (fun K hK => ?_)
                refine bd_i (by omega) ?_
                refine x_nm (fun U93 hU93 => ?_)
                have e94 := up_f hU93
                intro b95 b95b
                have e96 : U93 111 0 60 = T2 111 0 60 := up_j hU93 (by exact ni_ rfl) 111 0
                rw [e96] at b95 b95b ⊢
                intro b97 b97b
                have e98 : U93 111 0 59 = T2 111 0 59 := up_j hU93 (by exact ni_ rfl) 111 0
                rw [e98] at b97 b97b ⊢
                refine rg_i (by omega) ?_
                refine And.intro (fun c99 => ?_) (fun c99 => ?_)
                · refine hK 346 _ [] U93 ?_
                  have e100 : U93 111 0 59 = T2 111 0 59 := up_j hU93 (by exact ni_ rfl) 111 0
                  have e101 : U93 111 0 60 = T2 111 0 60 := up_j hU93 (by exact ni_ rfl) 111 0
                  have e102 : U93 111 0 58 = 2 := up_f hU93
                  have e103 : U93 111 0 62 = T2 111 0 62 := up_j hU93 (by exact ni_ rfl) 111 0
                  refine c_346 U93 ?_ ?_
                  · exact fr_u (fr_t (fr_0 _ _) (fr_s hf_184 rfl)) hU93 rfl
                  · omega
                · intro b104 b104b
                  have e105 : U93 111 0 59 = T2 111 0 59 := up_j hU93 (by exact ni_ rfl) 111 0
                  rw [e105] at b104 b104b ⊢
                  refine hK 291 _ [vI (T2 111 0 59), vI 1, vR 111 0] U93 ?_
                  refine j_callV (y := yX11_bad) (Yc := zX11_bad) (rest := []) [vI 1, vI (T2 111 0 59)] (ct_X11_bad (T := U93) (by omega) (by omega)) cl_X11_281 (qd_c (by decide +kernel)) (nn_ _) rfl (rf_of rfl) (Nat.le_of_ble_eq_true rfl) (Nat.le_of_ble_eq_true rfl) (Nat.le_of_ble_eq_true rfl) rfl ?_
                  rintro U106 _ ⟨rfl, fU106, qU106⟩
                  show J_ zX11_take T (po_X11_take T) 0 0 294 _ [] U106
                  refine j_blx (F := fX11) tb_X11 (nn_ _) bk_X11_take_294 bs_X11_take_294 hz (fun K hK => ?_)
                  refine hK 346 _ [] U106 ?_
                  have e107 : U106 111 0 59 = T2 111 0 59 := (fU106 111 0 59 rfl).trans (up_j hU93 (by exact ni_ rfl) 111 0)
                  have e108 : U106 111 0 60 = T2 111 0 60 := (fU106 111 0 60 rfl).trans (up_j hU93 (by exact ni_ rfl) 111 0)
                  have e109 : U106 111 0 58 = 2 := (fU106 111 0 58 rfl).trans (up_f hU93)
                  refine c_346 U106 ?_ ?_
                  · exact fr_t (fr_u (fr_t (fr_0 _ _) (fr_s hf_184 rfl)) hU93 rfl) (fr_s fU106 rfl)
                  · omega
              · intro b110 b110b
                intro b111 b111b
                refine rg_i (by omega) ?_
                refine And.intro (fun c112 => ?_) (fun c112 => ?_)
                · refine hK 247 _ [vR 111 0] T2 ?_
                  refine j_blx (F := fX11) tb_X11 (nn_ _) bk_X11_take_247 bs_X11_take_247 hz (fun K hK => ?_)
                  intro b113 b113b
                  refine hK 251 _ [vI (T2 111 0 61), vR 111 0] T2 ?_
                  refine c_251 (T2 111 0 61) ?_ ?_
                  · omega
                  · omega
                · intro b114 b114b
                  intro w115 w115b
                  intro b116 b116b
                  refine ix_i (by omega) ?_
                  intro b117 b117b
                  have e118 : T2 200 0 (T2 111 0 60) = T 200 0 (T2 111 0 60) := hf_184 200 0 (T2 111 0 60) rfl
                  rw [e118] at b117 b117b ⊢
                  intro w119 w119b
                  intro w120 w120b
                  refine hK 251 _ [vI (wr_ ((wr_ ((wr_ (10 * (T2 111 0 61))) + (T 200 0 (T2 111 0 60)))) - 48)), vR 111 0] T2 ?_
                  refine c_251 (wr_ ((wr_ ((wr_ (10 * (T2 111 0 61))) + (T 200 0 (T2 111 0 60)))) - 48)) ?_ ?_
                  · omega
                  · omega
        refine j_blx (F := fX11) tb_X11 (nn_ _) bk_X11_take_52 bs_X11_take_52 hz (fun K hK => ?_)
        intro b121 b121b
        refine bd_i (by omega) ?_
        refine x_nm (fun U122 hU122 => ?_)
        have e123 := up_f hU122
        intro b124 b124b
        have e125 : U122 111 0 57 = T1 111 0 57 := up_j hU122 (by exact ni_ rfl) 111 0
        rw [e125] at b124 b124b ⊢
        refine bd_i (by omega) ?_
        refine x_nm (fun U126 hU126 => ?_)
        have e127 := up_f hU126
        refine bd_i (by omega) ?_
        refine x_nm (fun U128 hU128 => ?_)
        have e129 := up_f hU128
        intro b130 b130b
        have e131 : U128 111 0 57 = T1 111 0 57 := (up_j hU128 (by exact ni_ rfl) 111 0).trans ((up_j hU126 (by exact ni_ rfl) 111 0).trans (up_j hU122 (by exact ni_ rfl) 111 0))
        rw [e131] at b130 b130b ⊢
        intro b132 b132b
        have e133 : U128 111 0 1 = T 111 0 1 := (up_j hU128 (by exact ni_ rfl) 111 0).trans ((up_j hU126 (by exact ni_ rfl) 111 0).trans ((up_j hU122 (by exact ni_ rfl) 111 0).trans (hf_0 111 0 1 rfl)))
        rw [e133] at b132 b132b ⊢
        refine And.intro (fun c134 => ?_) (fun c134 => ?_)
        · refine hK 85 _ [] U128 ?_
          refine j_blx (F := fX11) tb_X11 (nn_ _) bk_X11_take_85 bs_X11_take_85 hz (fun K hK => ?_)
          intro b135 b135b
          have e136 : U128 111 0 57 = T1 111 0 57 := (up_j hU128 (by exact ni_ rfl) 111 0).trans ((up_j hU126 (by exact ni_ rfl) 111 0).trans (up_j hU122 (by exact ni_ rfl) 111 0))
          rw [e136] at b135 b135b ⊢
          refine ix_i (by omega) ?_
          intro b137 b137b
          have e138 : U128 200 0 (T1 111 0 57) = T 200 0 (T1 111 0 57) := (up_k hU128 (by exact Nat.ne_of_beq_eq_false rfl) 0 (T1 111 0 57)).trans ((up_k hU126 (by exact Nat.ne_of_beq_eq_false rfl) 0 (T1 111 0 57)).trans ((up_k hU122 (by exact Nat.ne_of_beq_eq_false rfl) 0 (T1 111 0 57)).trans (hf_0 200 0 (T1 111 0 57) rfl)))
          rw [e138] at b137 b137b ⊢
          refine hK 96 [some (vR 111 0), some (vI (T 200 0 (T1 111 0 57)))] [vI (T 200 0 (T1 111 0 57))] U128 ?_
          refine j_callS (y := yX11_isLetter) (Yc := zX11_isLetter) (rest := []) [vI (T 200 0 (T1 111 0 57))] (ct_X11_isLetter (T := U128)) cl_X11_277 (qd_c (by decide +kernel)) (nn_ _) rfl (rf_of rfl) (Nat.le_of_ble_eq_true rfl) (Nat.le_of_ble_eq_true rfl) (Nat.le_of_ble_eq_true rfl) rfl ?_
          rintro _ _ ⟨rfl, x139, rfl, hx139⟩
          show J_ zX11_take T (po_X11_take T) 0 0 99 _ [vI x139] U128
          refine j_blx (F := fX11) tb_X11 (nn_ _) bk_X11_take_99 bs_X11_take_99 hz (fun K hK => ?_)
          refine And.intro (fun c140 => ?_) (fun c140 => ?_)
          · refine hK 172 _ [] U128 ?_
            refine j_blx (F := fX11) tb_X11 (nn_ _) bk_X11_take_172 bs_X11_take_172 hz (fun K hK => ?_)
            refine hK 173 _ [vI (T 200 0 (T1 111 0 57))] U128 ?_
            refine j_callS (y := yX11_isDigit) (Yc := zX11_isDigit) (rest := []) [vI (T 200 0 (T1 111 0 57))] (ct_X11_isDigit (T := U128)) cl_X11_285 (qd_c (by decide +kernel)) (nn_ _) rfl (rf_of rfl) (Nat.le_of_ble_eq_true rfl) (Nat.le_of_ble_eq_true rfl) (Nat.le_of_ble_eq_true rfl) rfl ?_
            rintro _ _ ⟨rfl, x141, rfl, hx141⟩
            show J_ zX11_take T (po_X11_take T) 0 0 176 _ [vI x141] U128
            refine j_blx (F := fX11) tb_X11 (nn_ _) bk_X11_take_176 bs_X11_take_176 hz (fun K hK => ?_)
            refine And.intro (fun c142 => ?_) (fun c142 => ?_)
            · refine hK 297 _ [] U128 ?_
              refine j_blx (F := fX11) tb_X11 (nn_ _) bk_X11_take_297 bs_X11_take_297 hz (fun K hK => ?_)
              refine And.intro (fun c143 => ?_) (fun c143 => ?_)
              · refine hK 309 _ [] U128 ?_
                refine j_blx (F := fX11) tb_X11 (nn_ _) bk_X11_take_309 bs_X11_take_309 hz (fun K hK => ?_)
                refine And.intro (fun c144 => ?_) (fun c144 => ?_)
                · refine hK 320 _ [vR 111 0] U128 ?_
                  refine j_blx (F := fX11) tb_X11 (nn_ _) bk_X11_take_320 bs_X11_take_320 hz (fun K hK => ?_)
                  refine bd_i (by omega) ?_
                  refine x_nm (fun U145 hU145 => ?_)
                  have e146 := up_f hU145
                  intro b147 b147b
                  have e148 : U145 111 0 60 = T1 111 0 57 := (up_j hU145 (by exact ni_ rfl) 111 0).trans ((up_j hU128 (by exact ni_ rfl) 111 0).trans (up_f hU126))
                  rw [e148] at b147 b147b ⊢
                  refine rg_i (by omega) ?_
                  refine bd_i (by omega) ?_
                  refine x_nm (fun U149 hU149 => ?_)
                  have e150 := up_f hU149
                  refine hK 346 _ [] U149 ?_
                  refine j_drop [some (vR 111 0), none] (fun k v hk => ?_) rfl ?_
                  · match k, hk with
                    | 0, hk => exact hk
                    | 1, hk => cases hk
                    | k + 2, hk => cases hk
                  have e151 : U149 111 0 59 = T1 111 0 57 := (up_j hU149 (by exact ni_ rfl) 111 0).trans ((up_j hU145 (by exact ni_ rfl) 111 0).trans ((up_j hU128 (by exact ni_ rfl) 111 0).trans ((up_j hU126 (by exact ni_ rfl) 111 0).trans (up_f hU122))))
                  have e152 : U149 111 0 60 = (T1 111 0 57) + 1 := up_f hU149
                  have e153 : U149 111 0 58 = 4 := (up_j hU149 (by exact ni_ rfl) 111 0).trans (up_f hU145)
                  have e154 : U149 111 0 62 = T 111 0 62 := (up_j hU149 (by exact ni_ rfl) 111 0).trans ((up_j hU145 (by exact ni_ rfl) 111 0).trans ((up_j hU128 (by exact ni_ rfl) 111 0).trans ((up_j hU126 (by exact ni_ rfl) 111 0).trans ((up_j hU122 (by exact ni_ rfl) 111 0).trans (hf_0 111 0 62 rfl)))))
                  refine c_346 U149 ?_ ?_
                  · exact fr_u (fr_u (fr_u (fr_u (fr_u (fr_t (fr_0 _ _) (fr_s hf_0 rfl)) hU122 rfl) hU126 rfl) hU128 rfl) hU145 rfl) hU149 rfl
                  · omega
                · refine hK 321 [some (vR 111 0), some (vI (T 200 0 (T1 111 0 57)))] [vI 3, vR 111 0] U128 ?_
                  refine j_blx (F := fX11) tb_X11 (nn_ _) bk_X11_take_321 bs_X11_take_321 hz (fun K hK => ?_)
                  refine bd_i (by omega) ?_
                  refine x_nm (fun U155 hU155 => ?_)
                  have e156 := up_f hU155
                  intro b157 b157b
                  have e158 : U155 111 0 60 = T1 111 0 57 := (up_j hU155 (by exact ni_ rfl) 111 0).trans ((up_j hU128 (by exact ni_ rfl) 111 0).trans (up_f hU126))
                  rw [e158] at b157 b157b ⊢
                  refine rg_i (by omega) ?_
                  refine bd_i (by omega) ?_
                  refine x_nm (fun U159 hU159 => ?_)
                  have e160 := up_f hU159
                  refine hK 346 _ [] U159 ?_
                  refine j_drop [some (vR 111 0), none] (fun k v hk => ?_) rfl ?_
                  · match k, hk with
                    | 0, hk => exact hk
                    | 1, hk => cases hk
                    | k + 2, hk => cases hk
                  have e161 : U159 111 0 59 = T1 111 0 57 := (up_j hU159 (by exact ni_ rfl) 111 0).trans ((up_j hU155 (by exact ni_ rfl) 111 0).trans ((up_j hU128 (by exact ni_ rfl) 111 0).trans ((up_j hU126 (by exact ni_ rfl) 111 0).trans (up_f hU122))))
                  have e162 : U159 111 0 60 = (T1 111 0 57) + 1 := up_f hU159
                  have e163 : U159 111 0 58 = 3 := (up_j hU159 (by exact ni_ rfl) 111 0).trans (up_f hU155)
                  have e164 : U159 111 0 62 = T 111 0 62 := (up_j hU159 (by exact ni_ rfl) 111 0).trans ((up_j hU155 (by exact ni_ rfl) 111 0).trans ((up_j hU128 (by exact ni_ rfl) 111 0).trans ((up_j hU126 (by exact ni_ rfl) 111 0).trans ((up_j hU122 (by exact ni_ rfl) 111 0).trans (hf_0 111 0 62 rfl)))))
                  refine c_346 U159 ?_ ?_
                  · exact fr_u (fr_u (fr_u (fr_u (fr_u (fr_t (fr_0 _ _) (fr_s hf_0 rfl)) hU122 rfl) hU126 rfl) hU128 rfl) hU155 rfl) hU159 rfl
                  · omega
              · refine And.intro (fun c165 => ?_) (fun c165 => ?_)
                · refine hK 337 _ [] U128 ?_
                  refine j_blx (F := fX11) tb_X11 (nn_ _) bk_X11_take_337 bs_X11_take_337 hz (fun K hK => ?_)
                  intro b166 b166b
                  have e167 : U128 111 0 59 = T1 111 0 57 := (up_j hU128 (by exact ni_ rfl) 111 0).trans ((up_j hU126 (by exact ni_ rfl) 111 0).trans (up_f hU122))
                  rw [e167] at b166 b166b ⊢
                  refine hK 343 _ [vI (T1 111 0 57), vI 1, vR 111 0] U128 ?_
                  refine j_callV (y := yX11_bad) (Yc := zX11_bad) (rest := []) [vI 1, vI (T1 111 0 57)] (ct_X11_bad (T := U128) (by omega) (by omega)) cl_X11_281 (qd_c (by decide +kernel)) (nn_ _) rfl (rf_of rfl) (Nat.le_of_ble_eq_true rfl) (Nat.le_of_ble_eq_true rfl) (Nat.le_of_ble_eq_true rfl) rfl ?_
                  rintro U168 _ ⟨rfl, fU168, qU168⟩
                  show J_ zX11_take T (po_X11_take T) 0 0 346 _ [] U168
                  refine j_drop [some (vR 111 0), none] (fun k v hk => ?_) rfl ?_
                  · match k, hk with
                    | 0, hk => exact hk
                    | 1, hk => cases hk
                    | k + 2, hk => cases hk
                  have e169 : U168 111 0 59 = T1 111 0 57 := (fU168 111 0 59 rfl).trans ((up_j hU128 (by exact ni_ rfl) 111 0).trans ((up_j hU126 (by exact ni_ rfl) 111 0).trans (up_f hU122)))
                  have e170 : U168 111 0 60 = T1 111 0 57 := (fU168 111 0 60 rfl).trans ((up_j hU128 (by exact ni_ rfl) 111 0).trans (up_f hU126))
                  have e171 : U168 111 0 58 = 0 := (fU168 111 0 58 rfl).trans (up_f hU128)
                  refine c_346 U168 ?_ ?_
                  · exact fr_t (fr_u (fr_u (fr_u (fr_t (fr_0 _ _) (fr_s hf_0 rfl)) hU122 rfl) hU126 rfl) hU128 rfl) (fr_s fU168 rfl)
                  · omega
                · refine And.intro (fun c172 => ?_) (fun c172 => ?_)
                  · refine hK 320 [some (vR 111 0), some (vI (T 200 0 (T1 111 0 57)))] [vR 111 0] U128 ?_
                    refine j_blx (F := fX11) tb_X11 (nn_ _) bk_X11_take_320 bs_X11_take_320 hz (fun K hK => ?_)
                    refine bd_i (by omega) ?_
                    refine x_nm (fun U173 hU173 => ?_)
                    have e174 := up_f hU173
                    intro b175 b175b
                    have e176 : U173 111 0 60 = T1 111 0 57 := (up_j hU173 (by exact ni_ rfl) 111 0).trans ((up_j hU128 (by exact ni_ rfl) 111 0).trans (up_f hU126))
                    rw [e176] at b175 b175b ⊢
                    refine rg_i (by omega) ?_
                    refine bd_i (by omega) ?_
                    refine x_nm (fun U177 hU177 => ?_)
                    have e178 := up_f hU177
                    refine hK 346 _ [] U177 ?_
                    refine j_drop [some (vR 111 0), none] (fun k v hk => ?_) rfl ?_
                    · match k, hk with
                      | 0, hk => exact hk
                      | 1, hk => cases hk
                      | k + 2, hk => cases hk
                    have e179 : U177 111 0 59 = T1 111 0 57 := (up_j hU177 (by exact ni_ rfl) 111 0).trans ((up_j hU173 (by exact ni_ rfl) 111 0).trans ((up_j hU128 (by exact ni_ rfl) 111 0).trans ((up_j hU126 (by exact ni_ rfl) 111 0).trans (up_f hU122))))
                    have e180 : U177 111 0 60 = (T1 111 0 57) + 1 := up_f hU177
                    have e181 : U177 111 0 58 = 4 := (up_j hU177 (by exact ni_ rfl) 111 0).trans (up_f hU173)
                    have e182 : U177 111 0 62 = T 111 0 62 := (up_j hU177 (by exact ni_ rfl) 111 0).trans ((up_j hU173 (by exact ni_ rfl) 111 0).trans ((up_j hU128 (by exact ni_ rfl) 111 0).trans ((up_j hU126 (by exact ni_ rfl) 111 0).trans ((up_j hU122 (by exact ni_ rfl) 111 0).trans (hf_0 111 0 62 rfl)))))
                    refine c_346 U177 ?_ ?_
                    · exact fr_u (fr_u (fr_u (fr_u (fr_u (fr_t (fr_0 _ _) (fr_s hf_0 rfl)) hU122 rfl) hU126 rfl) hU128 rfl) hU173 rfl) hU177 rfl
                    · omega
                  · refine hK 321 [some (vR 111 0), some (vI (T 200 0 (T1 111 0 57)))] [vI 3, vR 111 0] U128 ?_
                    refine j_blx (F := fX11) tb_X11 (nn_ _) bk_X11_take_321 bs_X11_take_321 hz (fun K hK => ?_)
                    refine bd_i (by omega) ?_
                    refine x_nm (fun U183 hU183 => ?_)
                    have e184 := up_f hU183
                    intro b185 b185b
                    have e186 : U183 111 0 60 = T1 111 0 57 := (up_j hU183 (by exact ni_ rfl) 111 0).trans ((up_j hU128 (by exact ni_ rfl) 111 0).trans (up_f hU126))
                    rw [e186] at b185 b185b ⊢
                    refine rg_i (by omega) ?_
                    refine bd_i (by omega) ?_
                    refine x_nm (fun U187 hU187 => ?_)
                    have e188 := up_f hU187
                    refine hK 346 _ [] U187 ?_
                    refine j_drop [some (vR 111 0), none] (fun k v hk => ?_) rfl ?_
                    · match k, hk with
                      | 0, hk => exact hk
                      | 1, hk => cases hk
                      | k + 2, hk => cases hk
                    have e189 : U187 111 0 59 = T1 111 0 57 := (up_j hU187 (by exact ni_ rfl) 111 0).trans ((up_j hU183 (by exact ni_ rfl) 111 0).trans ((up_j hU128 (by exact ni_ rfl) 111 0).trans ((up_j hU126 (by exact ni_ rfl) 111 0).trans (up_f hU122))))
                    have e190 : U187 111 0 60 = (T1 111 0 57) + 1 := up_f hU187
                    have e191 : U187 111 0 58 = 3 := (up_j hU187 (by exact ni_ rfl) 111 0).trans (up_f hU183)
                    have e192 : U187 111 0 62 = T 111 0 62 := (up_j hU187 (by exact ni_ rfl) 111 0).trans ((up_j hU183 (by exact ni_ rfl) 111 0).trans ((up_j hU128 (by exact ni_ rfl) 111 0).trans ((up_j hU126 (by exact ni_ rfl) 111 0).trans ((up_j hU122 (by exact ni_ rfl) 111 0).trans (hf_0 111 0 62 rfl)))))
                    refine c_346 U187 ?_ ?_
                    · exact fr_u (fr_u (fr_u (fr_u (fr_u (fr_t (fr_0 _ _) (fr_s hf_0 rfl)) hU122 rfl) hU126 rfl) hU128 rfl) hU183 rfl) hU187 rfl
                    · omega
            · refine bd_i (by omega) ?_
              refine x_nm (fun U193 hU193 => ?_)
              have e194 := up_f hU193
              refine hK 184 _ [] U193 ?_
              refine j_drop [some (vR 111 0), none] (fun k v hk => ?_) rfl ?_
              · match k, hk with
                | 0, hk => exact hk
                | 1, hk => cases hk
                | k + 2, hk => cases hk
              have e195 : U193 111 0 59 = T1 111 0 57 := (up_j hU193 (by exact ni_ rfl) 111 0).trans ((up_j hU128 (by exact ni_ rfl) 111 0).trans ((up_j hU126 (by exact ni_ rfl) 111 0).trans (up_f hU122)))
              have e196 : U193 111 0 60 = T1 111 0 57 := (up_j hU193 (by exact ni_ rfl) 111 0).trans ((up_j hU128 (by exact ni_ rfl) 111 0).trans (up_f hU126))
              have e197 : U193 111 0 62 = T 111 0 62 := (up_j hU193 (by exact ni_ rfl) 111 0).trans ((up_j hU128 (by exact ni_ rfl) 111 0).trans ((up_j hU126 (by exact ni_ rfl) 111 0).trans ((up_j hU122 (by exact ni_ rfl) 111 0).trans (hf_0 111 0 62 rfl))))
              refine c_184 _ U193 (Nat.le_refl _) ?_ ?_ ?_
              · exact fr_u (fr_u (fr_u (fr_u (fr_t (fr_0 _ _) (fr_s hf_0 rfl)) hU122 rfl) hU126 rfl) hU128 rfl) hU193 rfl
              · omega
              · omega
          · refine hK 102 _ [] U128 ?_
            refine j_drop [some (vR 111 0), none] (fun k v hk => ?_) rfl ?_
            · match k, hk with
              | 0, hk => exact hk
              | 1, hk => cases hk
              | k + 2, hk => cases hk
            have e198 : U128 111 0 59 = T1 111 0 57 := (up_j hU128 (by exact ni_ rfl) 111 0).trans ((up_j hU126 (by exact ni_ rfl) 111 0).trans (up_f hU122))
            have e199 : U128 111 0 60 = T1 111 0 57 := (up_j hU128 (by exact ni_ rfl) 111 0).trans (up_f hU126)
            have e200 : U128 111 0 62 = T 111 0 62 := (up_j hU128 (by exact ni_ rfl) 111 0).trans ((up_j hU126 (by exact ni_ rfl) 111 0).trans ((up_j hU122 (by exact ni_ rfl) 111 0).trans (hf_0 111 0 62 rfl)))
            refine c_102 _ U128 (Nat.le_refl _) ?_ ?_ ?_
            · exact fr_u (fr_u (fr_u (fr_t (fr_0 _ _) (fr_s hf_0 rfl)) hU122 rfl) hU126 rfl) hU128 rfl
            · omega
            · omega
        · refine (show po_X11_take T U128 (none) from ?_)
          have e201 : U128 111 0 57 = T1 111 0 57 := (up_j hU128 (by exact ni_ rfl) 111 0).trans ((up_j hU126 (by exact ni_ rfl) 111 0).trans (up_j hU122 (by exact ni_ rfl) 111 0))
          have e202 : U128 111 0 59 = T1 111 0 57 := (up_j hU128 (by exact ni_ rfl) 111 0).trans ((up_j hU126 (by exact ni_ rfl) 111 0).trans (up_f hU122))
          have e203 : U128 111 0 60 = T1 111 0 57 := (up_j hU128 (by exact ni_ rfl) 111 0).trans (up_f hU126)
          have e204 : U128 111 0 58 = 0 := up_f hU128
          have e205 : U128 111 0 62 = T 111 0 62 := (up_j hU128 (by exact ni_ rfl) 111 0).trans ((up_j hU126 (by exact ni_ rfl) 111 0).trans ((up_j hU122 (by exact ni_ rfl) 111 0).trans (hf_0 111 0 62 rfl)))
          exact ⟨rfl, fr_u (fr_u (fr_u (fr_t (fr_0 _ _) (fr_s hf_0 rfl)) hU122 rfl) hU126 rfl) hU128 rfl, by omega⟩
      refine j_blx (F := fX11) tb_X11 (nn_ _) bk_X11_take_0 bs_X11_take_0 hz (fun K hK => ?_)
      intro b206 b206b
      intro b207 b207b
      have e208 : T1 111 0 1 = T 111 0 1 := hf_0 111 0 1 rfl
      rw [e208] at b207 b207b ⊢
      refine And.intro (fun c209 => ?_) (fun c209 => ?_)
      · refine hK 52 _ [] T1 ?_
        exact c_52 
      · intro b210 b210b
        refine ix_i (by omega) ?_
        intro b211 b211b
        have e212 : T1 200 0 (T1 111 0 57) = T 200 0 (T1 111 0 57) := hf_0 200 0 (T1 111 0 57) rfl
        rw [e212] at b211 b211b ⊢
        refine And.intro (fun c213 => ?_) (fun c213 => ?_)
        · refine hK 39 _ [] T1 ?_
          refine j_blx (F := fX11) tb_X11 (nn_ _) bk_X11_take_39 bs_X11_take_39 hz (fun K hK => ?_)
          intro b214 b214b
          refine rg_i (by omega) ?_
          refine bd_i (by omega) ?_
          refine x_nm (fun U215 hU215 => ?_)
          have e216 := up_f hU215
          refine hK 0 _ [] U215 ?_
          have e217 : U215 111 0 57 = (T1 111 0 57) + 1 := up_f hU215
          refine ih_0 _ ?_ U215 (Nat.le_refl _) ?_ ?_
          · omega
          · exact fr_u (fr_t (fr_0 _ _) (fr_s hf_0 rfl)) hU215 rfl
          · omega
        · intro b218 b218b
          refine ix_i (by omega) ?_
          intro b219 b219b
          have e220 : T1 200 0 (T1 111 0 57) = T 200 0 (T1 111 0 57) := hf_0 200 0 (T1 111 0 57) rfl
          rw [e220] at b219 b219b ⊢
          refine And.intro (fun c221 => ?_) (fun c221 => ?_)
          · refine hK 52 _ [] T1 ?_
            exact c_52 
          · intro b222 b222b
            refine rg_i (by omega) ?_
            refine bd_i (by omega) ?_
            refine x_nm (fun U223 hU223 => ?_)
            have e224 := up_f hU223
            refine hK 0 _ [] U223 ?_
            have e225 : U223 111 0 57 = (T1 111 0 57) + 1 := up_f hU223
            refine ih_0 _ ?_ U223 (Nat.le_refl _) ?_ ?_
            · omega
            · exact fr_u (fr_t (fr_0 _ _) (fr_s hf_0 rfl)) hU223 rfl
            · omega
  refine c_0 _ T (Nat.le_refl _) ?_ ?_
  · exact fr_0 _ _
  · omega
-- whichOf over the row 264
abbrev cX11_whichOf : ByteArray := prog_13_method_12_code
def yX11_whichOf : MethodName := ⟨RX11, "whichOf", "([I)I"⟩
def zX11_whichOf : Zm := (RX11, cX11_whichOf, 7, (some .int), { frames := 0, cells := 0, slots := 0, locals := 0 })
theorem bk_X11_whichOf_7 : ck_ fX11 (some .int) cX11_whichOf 7 [.iload 4, .aload 1, .arraylength, .if_icmp .ge 126, .iconst 0, .istore 5, .iconst 1, .istore 6] 20 = true := qck_r (nn_ _) (by decide +kernel)
theorem bs_X11_whichOf_7 {P : Zt → Option Zv → Prop} (K : Int → Zl → List Zv → Zt → Prop) : sx_ K P [.iload 4, .aload 1, .arraylength, .if_icmp .ge 126, .iconst 0, .istore 5, .iconst 1, .istore 6] 20 = x_iload 4 (x_aload 1 (x_arraylength (x_if_icmp .ge 126 K (x_iconst 0 (x_istore 5 (x_iconst 1 (x_istore 6 (K 20)))))))) := ((xe_iload 4).trans (congrArg (x_iload 4) ((xe_aload 1).trans (congrArg (x_aload 1) ((xe_arraylength).trans (congrArg (x_arraylength) ((xe_if_icmp .ge 126).trans (congrArg (x_if_icmp .ge 126 K) ((xe_iconst 0).trans (congrArg (x_iconst 0) ((xe_istore 5).trans (congrArg (x_istore 5) ((xe_iconst 1).trans (congrArg (x_iconst 1) ((xe_istore 6).trans (congrArg (x_istore 6) xe_nil))))))))))))))))
theorem bk_X11_whichOf_126 : ck_ fX11 (some .int) cX11_whichOf 126 [.iload 2, .ireturn] 128 = true := qck_r (nn_ _) (by decide +kernel)
theorem bs_X11_whichOf_126 {P : Zt → Option Zv → Prop} (K : Int → Zl → List Zv → Zt → Prop) : sx_ K P [.iload 2, .ireturn] 128 = x_iload 2 (x_ireturn P) := ((xe_iload 2).trans (congrArg (x_iload 2) (xe_ireturn)))
theorem bk_X11_whichOf_78 : ck_ fX11 (some .int) cX11_whichOf 78 [.istore 6, .iinc 5 1, .goto 20] 86 = true := qck_r (nn_ _) (by decide +kernel)
theorem bs_X11_whichOf_78 {P : Zt → Option Zv → Prop} (K : Int → Zl → List Zv → Zt → Prop) : sx_ K P [.istore 6, .iinc 5 1, .goto 20] 86 = x_istore 6 (x_iinc 5 1 (x_goto 20 K)) := ((xe_istore 6).trans (congrArg (x_istore 6) ((xe_iinc 5 1).trans (congrArg (x_iinc 5 1) (xe_goto 20)))))
theorem bk_X11_whichOf_110 : ck_ fX11 (some .int) cX11_whichOf 110 [.istore 2, .iinc 3 1, .iload 4, .iload 5, .iconst 1, .iadd, .iadd, .istore 4, .goto 7] 126 = true := qck_r (nn_ _) (by decide +kernel)
theorem bs_X11_whichOf_110 {P : Zt → Option Zv → Prop} (K : Int → Zl → List Zv → Zt → Prop) : sx_ K P [.istore 2, .iinc 3 1, .iload 4, .iload 5, .iconst 1, .iadd, .iadd, .istore 4, .goto 7] 126 = x_istore 2 (x_iinc 3 1 (x_iload 4 (x_iload 5 (x_iconst 1 (x_iadd (x_iadd (x_istore 4 (x_goto 7 K)))))))) := ((xe_istore 2).trans (congrArg (x_istore 2) ((xe_iinc 3 1).trans (congrArg (x_iinc 3 1) ((xe_iload 4).trans (congrArg (x_iload 4) ((xe_iload 5).trans (congrArg (x_iload 5) ((xe_iconst 1).trans (congrArg (x_iconst 1) ((xe_iadd).trans (congrArg (x_iadd) ((xe_iadd).trans (congrArg (x_iadd) ((xe_istore 4).trans (congrArg (x_istore 4) (xe_goto 7)))))))))))))))))
theorem bk_X11_whichOf_20 : ck_ fX11 (some .int) cX11_whichOf 20 [.aload 1, .iload 4, .iload 5, .iadd, .iaload, .iconst 32, .if_icmp .eq 86, .iload 6, .ifCond .eq 77, .aload 0, .tableswitch 0 11 59 #[], .iload 5, .iadd, .aload 0, .tableswitch 0 11 60 #[], .if_icmp .ge 77, .aload 0, .tableswitch 0 11 0 #[], .aload 0, .tableswitch 0 11 59 #[], .iload 5, .iadd, .iaload, .aload 1, .iload 4, .iload 5, .iadd, .iaload, .if_icmp .ne 77, .iconst 1, .goto 78] 77 = true := qck_r (nn_ _) (by decide +kernel)
theorem bs_X11_whichOf_20 {P : Zt → Option Zv → Prop} (K : Int → Zl → List Zv → Zt → Prop) : sx_ K P [.aload 1, .iload 4, .iload 5, .iadd, .iaload, .iconst 32, .if_icmp .eq 86, .iload 6, .ifCond .eq 77, .aload 0, .tableswitch 0 11 59 #[], .iload 5, .iadd, .aload 0, .tableswitch 0 11 60 #[], .if_icmp .ge 77, .aload 0, .tableswitch 0 11 0 #[], .aload 0, .tableswitch 0 11 59 #[], .iload 5, .iadd, .iaload, .aload 1, .iload 4, .iload 5, .iadd, .iaload, .if_icmp .ne 77, .iconst 1, .goto 78] 77 = x_aload 1 (x_iload 4 (x_iload 5 (x_iadd (x_iaload (x_iconst 32 (x_if_icmp .eq 86 K (x_iload 6 (x_ifCond .eq 77 K (x_aload 0 (x_g0 111 59 0 400 (x_iload 5 (x_iadd (x_aload 0 (x_g0 111 60 0 400 (x_if_icmp .ge 77 K (x_aload 0 (x_g1 111 200 (x_aload 0 (x_g0 111 59 0 400 (x_iload 5 (x_iadd (x_iaload (x_aload 1 (x_iload 4 (x_iload 5 (x_iadd (x_iaload (x_if_icmp .ne 77 K (x_iconst 1 (x_goto 78 K)))))))))))))))))))))))))))))) := ((xe_aload 1).trans (congrArg (x_aload 1) ((xe_iload 4).trans (congrArg (x_iload 4) ((xe_iload 5).trans (congrArg (x_iload 5) ((xe_iadd).trans (congrArg (x_iadd) ((xe_iaload).trans (congrArg (x_iaload) ((xe_iconst 32).trans (congrArg (x_iconst 32) ((xe_if_icmp .eq 86).trans (congrArg (x_if_icmp .eq 86 K) ((xe_iload 6).trans (congrArg (x_iload 6) ((xe_ifCond .eq 77).trans (congrArg (x_ifCond .eq 77 K) ((xe_aload 0).trans (congrArg (x_aload 0) ((xe_g0 (kk := 111) rfl tl_11_59).trans (congrArg (x_g0 111 59 0 400) ((xe_iload 5).trans (congrArg (x_iload 5) ((xe_iadd).trans (congrArg (x_iadd) ((xe_aload 0).trans (congrArg (x_aload 0) ((xe_g0 (kk := 111) rfl tl_11_60).trans (congrArg (x_g0 111 60 0 400) ((xe_if_icmp .ge 77).trans (congrArg (x_if_icmp .ge 77 K) ((xe_aload 0).trans (congrArg (x_aload 0) ((xe_g1 (kk := 111) rfl tl_11_0).trans (congrArg (x_g1 111 200) ((xe_aload 0).trans (congrArg (x_aload 0) ((xe_g0 (kk := 111) rfl tl_11_59).trans (congrArg (x_g0 111 59 0 400) ((xe_iload 5).trans (congrArg (x_iload 5) ((xe_iadd).trans (congrArg (x_iadd) ((xe_iaload).trans (congrArg (x_iaload) ((xe_aload 1).trans (congrArg (x_aload 1) ((xe_iload 4).trans (congrArg (x_iload 4) ((xe_iload 5).trans (congrArg (x_iload 5) ((xe_iadd).trans (congrArg (x_iadd) ((xe_iaload).trans (congrArg (x_iaload) ((xe_if_icmp .ne 77).trans (congrArg (x_if_icmp .ne 77 K) ((xe_iconst 1).trans (congrArg (x_iconst 1) (xe_goto 78)))))))))))))))))))))))))))))))))))))))))))))))))))))))))))))
theorem bk_X11_whichOf_86 : ck_ fX11 (some .int) cX11_whichOf 86 [.iload 6, .ifCond .eq 109, .iload 5, .aload 0, .tableswitch 0 11 60 #[], .aload 0, .tableswitch 0 11 59 #[], .isub, .if_icmp .ne 109, .iload 3, .goto 110] 109 = true := qck_r (nn_ _) (by decide +kernel)
theorem bs_X11_whichOf_86 {P : Zt → Option Zv → Prop} (K : Int → Zl → List Zv → Zt → Prop) : sx_ K P [.iload 6, .ifCond .eq 109, .iload 5, .aload 0, .tableswitch 0 11 60 #[], .aload 0, .tableswitch 0 11 59 #[], .isub, .if_icmp .ne 109, .iload 3, .goto 110] 109 = x_iload 6 (x_ifCond .eq 109 K (x_iload 5 (x_aload 0 (x_g0 111 60 0 400 (x_aload 0 (x_g0 111 59 0 400 (x_isub (x_if_icmp .ne 109 K (x_iload 3 (x_goto 110 K)))))))))) := ((xe_iload 6).trans (congrArg (x_iload 6) ((xe_ifCond .eq 109).trans (congrArg (x_ifCond .eq 109 K) ((xe_iload 5).trans (congrArg (x_iload 5) ((xe_aload 0).trans (congrArg (x_aload 0) ((xe_g0 (kk := 111) rfl tl_11_60).trans (congrArg (x_g0 111 60 0 400) ((xe_aload 0).trans (congrArg (x_aload 0) ((xe_g0 (kk := 111) rfl tl_11_59).trans (congrArg (x_g0 111 59 0 400) ((xe_isub).trans (congrArg (x_isub) ((xe_if_icmp .ne 109).trans (congrArg (x_if_icmp .ne 109 K) ((xe_iload 3).trans (congrArg (x_iload 3) (xe_goto 110)))))))))))))))))))))
theorem bk_X11_whichOf_109 : ck_ fX11 (some .int) cX11_whichOf 109 [.iload 2] 110 = true := qck_r (nn_ _) (by decide +kernel)
theorem bs_X11_whichOf_109 {P : Zt → Option Zv → Prop} (K : Int → Zl → List Zv → Zt → Prop) : sx_ K P [.iload 2] 110 = x_iload 2 (K 110) := ((xe_iload 2).trans (congrArg (x_iload 2) xe_nil))
theorem bk_X11_whichOf_77 : ck_ fX11 (some .int) cX11_whichOf 77 [.iconst 0] 78 = true := qck_r (nn_ _) (by decide +kernel)
theorem bs_X11_whichOf_77 {P : Zt → Option Zv → Prop} (K : Int → Zl → List Zv → Zt → Prop) : sx_ K P [.iconst 0] 78 = x_iconst 0 (K 78) := ((xe_iconst 0).trans (congrArg (x_iconst 0) xe_nil))
theorem bk_X11_whichOf_0 : ck_ fX11 (some .int) cX11_whichOf 0 [.iconst (-1), .istore 2, .iconst 0, .istore 3, .iconst 0, .istore 4] 7 = true := qck_r (nn_ _) (by decide +kernel)
theorem bs_X11_whichOf_0 {P : Zt → Option Zv → Prop} (K : Int → Zl → List Zv → Zt → Prop) : sx_ K P [.iconst (-1), .istore 2, .iconst 0, .istore 3, .iconst 0, .istore 4] 7 = x_iconst (-1) (x_istore 2 (x_iconst 0 (x_istore 3 (x_iconst 0 (x_istore 4 (K 7)))))) := ((xe_iconst (-1)).trans (congrArg (x_iconst (-1)) ((xe_istore 2).trans (congrArg (x_istore 2) ((xe_iconst 0).trans (congrArg (x_iconst 0) ((xe_istore 3).trans (congrArg (x_istore 3) ((xe_iconst 0).trans (congrArg (x_iconst 0) ((xe_istore 4).trans (congrArg (x_istore 4) xe_nil))))))))))))
abbrev po_X11_whichOf_264 (T : Zt) : Zt → Option Zv → Prop := fun T' r => T = T' ∧ ∃ x : Int, r = some (vI x) ∧ (-1 ≤ x ∧ x < 14)
set_option maxHeartbeats 4000000 in
theorem ct_X11_whichOf_264 {T : Zt} (h1 : T 111 0 59 ≤ T 111 0 60 ∧ T 111 0 60 ≤ 400) (hC : CW_ T) : Ct_ yX11_whichOf zX11_whichOf T [vR 111 0, vR 264 0] (po_X11_whichOf_264 T) := by
  refine ct_of pn_11 rfl rfl (Nat.le_of_ble_eq_true rfl) (fun hT hav => ?_)
  have hz : zX11_whichOf.2.2.2.1 = some .boolean → ∀ (T' : Zt) (x : Int), po_X11_whichOf_264 T T' (some (vI x)) → 0 ≤ x ∧ x ≤ 1 := fun h => by cases h
  show J_ zX11_whichOf T (po_X11_whichOf_264 T) 0 0 0 [some (vR 111 0), some (vR 264 0), none, none, none, none, none] [] T
  have c_7 : ∀ (nn : Nat) (wh : Int) (nr : Int) (k : Int), ((82 - k).toNat) ≤ nn → (wp_264 k nr) → (-1 ≤ wh ∧ wh < 14) → (0 ≤ k ∧ k ≤ 82) → J_ zX11_whichOf T (po_X11_whichOf_264 T) 0 0 7 [some (vR 111 0), some (vR 264 0), some (vI wh), some (vI nr), some (vI k), none, none] [] T := by
    intro nn
    induction nn using Nat.strongRecOn with
    | _ nn ih_7 =>
      intro wh nr k hm_7 w1 w2 w3
      have hk9 : k = 82 ∨ k < 82 := by omega
      rcases hk9 with hk9 | hk9
      · refine j_blx (F := fX11) tb_X11 (nn_ _) bk_X11_whichOf_7 bs_X11_whichOf_7 hz (fun K hK => ?_)
        refine And.intro (fun c9 => ?_) (fun c9 => absurd c9 (by omega))
        refine hK 126 _ [] T ?_
        refine j_blx (F := fX11) tb_X11 (nn_ _) bk_X11_whichOf_126 bs_X11_whichOf_126 hz (fun K hK => ?_)
        refine (show po_X11_whichOf_264 T T (some (vI wh)) from ?_)
        exact ⟨rfl, _, rfl, by omega⟩
      obtain ⟨e, hk0, he0, he1, he2, he3, hnx, hn0, hn1⟩ := ww_264 hC w1 hk9
      have c_20 : ∀ (nn : Nat) (n : Int) (b : Int), ((e - k - n).toNat) ≤ nn → (0 ≤ n ∧ k + n ≤ e ∧ 0 ≤ b ∧ b ≤ 1) → J_ zX11_whichOf T (po_X11_whichOf_264 T) 0 0 20 [some (vR 111 0), some (vR 264 0), some (vI wh), some (vI nr), some (vI k), some (vI n), some (vI b)] [] T := by
        intro nn
        induction nn using Nat.strongRecOn with
        | _ nn ih_20 =>
          intro n b hm_20 n1
          have c_78 : ∀ (v : Int), (0 ≤ v ∧ v ≤ 1) → (k + n < e) → J_ zX11_whichOf T (po_X11_whichOf_264 T) 0 0 78 [some (vR 111 0), some (vR 264 0), some (vI wh), some (vI nr), some (vI k), some (vI n), some (vI b)] [vI v] T := by
            intro v v1 v2
            refine j_blx (F := fX11) tb_X11 (nn_ _) bk_X11_whichOf_78 bs_X11_whichOf_78 hz (fun K hK => ?_)
            refine rg_i (by omega) ?_
            refine hK 20 [some (vR 111 0), some (vR 264 0), some (vI wh), some (vI nr), some (vI k), some (vI (n + 1)), some (vI v)] [] T ?_
            refine ih_20 _ ?_ (n + 1) v (Nat.le_refl _) ?_
            · omega
            · omega
          have c_110 : ∀ (v : Int), (-1 ≤ v ∧ v < 14) → (k + n = e) → J_ zX11_whichOf T (po_X11_whichOf_264 T) 0 0 110 [some (vR 111 0), some (vR 264 0), some (vI wh), some (vI nr), some (vI k), some (vI n), some (vI b)] [vI v] T := by
            intro v v1 v2
            refine j_blx (F := fX11) tb_X11 (nn_ _) bk_X11_whichOf_110 bs_X11_whichOf_110 hz (fun K hK => ?_)
            refine rg_i (by omega) ?_
            refine rg_i (by omega) ?_
            refine rg_i (by omega) ?_
            refine hK 7 [some (vR 111 0), some (vR 264 0), some (vI v), some (vI (nr + 1)), some (vI (k + (n + 1))), some (vI n), some (vI b)] [] T ?_
            refine j_drop [some (vR 111 0), some (vR 264 0), some (vI v), some (vI (nr + 1)), some (vI (k + (n + 1))), none, none] (fun k v hk => ?_) rfl ?_
            · match k, hk with
              | 0, hk => exact hk
              | 1, hk => exact hk
              | 2, hk => exact hk
              | 3, hk => exact hk
              | 4, hk => exact hk
              | 5, hk => cases hk
              | 6, hk => cases hk
              | k + 7, hk => cases hk
            refine ih_7 _ ?_ v (nr + 1) (k + (n + 1)) (Nat.le_refl _) ?_ ?_ ?_
            · omega
            · (have hz9 : k + (n + 1) = e + 1 := by omega); rw [hz9]; exact hnx
            · omega
            · omega
          refine j_blx (F := fX11) tb_X11 (nn_ _) bk_X11_whichOf_20 bs_X11_whichOf_20 hz (fun K hK => ?_)
          refine rg_i (by omega) ?_
          refine ix_i (by omega) ?_
          intro b1 b1b
          refine And.intro (fun c2 => ?_) (fun c2 => ?_)
          · have hke : k + n = e := Classical.byContradiction (fun z => he2 (k + n) (by omega) (by omega) c2)
            refine hK 86 _ [] T ?_
            refine j_blx (F := fX11) tb_X11 (nn_ _) bk_X11_whichOf_86 bs_X11_whichOf_86 hz (fun K hK => ?_)
            refine And.intro (fun c3 => ?_) (fun c3 => ?_)
            · refine hK 109 _ [] T ?_
              refine j_blx (F := fX11) tb_X11 (nn_ _) bk_X11_whichOf_109 bs_X11_whichOf_109 hz (fun K hK => ?_)
              refine hK 110 _ [vI wh] T ?_
              refine c_110 wh ?_ ?_
              · omega
              · omega
            · intro b4 b4b
              intro b5 b5b
              refine rg_i (by omega) ?_
              refine And.intro (fun c6 => ?_) (fun c6 => ?_)
              · refine hK 109 _ [] T ?_
                refine j_blx (F := fX11) tb_X11 (nn_ _) bk_X11_whichOf_109 bs_X11_whichOf_109 hz (fun K hK => ?_)
                refine hK 110 _ [vI wh] T ?_
                refine c_110 wh ?_ ?_
                · omega
                · omega
              · refine hK 110 _ [vI nr] T ?_
                refine c_110 nr ?_ ?_
                · omega
                · omega
          · have hke : k + n ≠ e := fun z => c2 (by rw [z]; exact he3)
            refine And.intro (fun c7 => ?_) (fun c7 => ?_)
            · refine hK 77 _ [] T ?_
              refine j_blx (F := fX11) tb_X11 (nn_ _) bk_X11_whichOf_77 bs_X11_whichOf_77 hz (fun K hK => ?_)
              refine hK 78 _ [vI 0] T ?_
              refine c_78 0 ?_ ?_
              · omega
              · omega
            · intro b8 b8b
              refine rg_i (by omega) ?_
              intro b9 b9b
              refine And.intro (fun c10 => ?_) (fun c10 => ?_)
              · refine hK 77 _ [] T ?_
                refine j_blx (F := fX11) tb_X11 (nn_ _) bk_X11_whichOf_77 bs_X11_whichOf_77 hz (fun K hK => ?_)
                refine hK 78 _ [vI 0] T ?_
                refine c_78 0 ?_ ?_
                · omega
                · omega
              · intro b11 b11b
                refine rg_i (by omega) ?_
                refine ix_i (by omega) ?_
                intro b12 b12b
                refine rg_i (by omega) ?_
                refine ix_i (by omega) ?_
                intro b13 b13b
                refine And.intro (fun c14 => ?_) (fun c14 => ?_)
                · refine hK 77 _ [] T ?_
                  refine j_blx (F := fX11) tb_X11 (nn_ _) bk_X11_whichOf_77 bs_X11_whichOf_77 hz (fun K hK => ?_)
                  refine hK 78 _ [vI 0] T ?_
                  refine c_78 0 ?_ ?_
                  · omega
                  · omega
                · refine hK 78 _ [vI 1] T ?_
                  refine c_78 1 ?_ ?_
                  · omega
                  · omega
      refine j_blx (F := fX11) tb_X11 (nn_ _) bk_X11_whichOf_7 bs_X11_whichOf_7 hz (fun K hK => ?_)
      refine And.intro (fun c15 => ?_) (fun c15 => ?_)
      · refine hK 126 _ [] T ?_
        refine j_blx (F := fX11) tb_X11 (nn_ _) bk_X11_whichOf_126 bs_X11_whichOf_126 hz (fun K hK => ?_)
        refine (show po_X11_whichOf_264 T T (some (vI wh)) from ?_)
        exact ⟨rfl, _, rfl, by omega⟩
      · refine hK 20 [some (vR 111 0), some (vR 264 0), some (vI wh), some (vI nr), some (vI k), some (vI 0), some (vI 1)] [] T ?_
        refine c_20 _ 0 1 (Nat.le_refl _) ?_
        · omega
  refine j_blx (F := fX11) tb_X11 (nn_ _) bk_X11_whichOf_0 bs_X11_whichOf_0 hz (fun K hK => ?_)
  refine hK 7 [some (vR 111 0), some (vR 264 0), some (vI (-1)), some (vI 0), some (vI 0), none, none] [] T ?_
  refine c_7 _ (-1) 0 0 (Nat.le_refl _) ?_ ?_ ?_
  · exact Or.inl ⟨_, List.mem_cons_self⟩
  · omega
  · omega
-- whichOf over the row 265
abbrev po_X11_whichOf_265 (T : Zt) : Zt → Option Zv → Prop := fun T' r => T = T' ∧ ∃ x : Int, r = some (vI x) ∧ (-1 ≤ x ∧ x < 4)
set_option maxHeartbeats 4000000 in
theorem ct_X11_whichOf_265 {T : Zt} (h1 : T 111 0 59 ≤ T 111 0 60 ∧ T 111 0 60 ≤ 400) (hC : CW_ T) : Ct_ yX11_whichOf zX11_whichOf T [vR 111 0, vR 265 0] (po_X11_whichOf_265 T) := by
  refine ct_of pn_11 rfl rfl (Nat.le_of_ble_eq_true rfl) (fun hT hav => ?_)
  have hz : zX11_whichOf.2.2.2.1 = some .boolean → ∀ (T' : Zt) (x : Int), po_X11_whichOf_265 T T' (some (vI x)) → 0 ≤ x ∧ x ≤ 1 := fun h => by cases h
  show J_ zX11_whichOf T (po_X11_whichOf_265 T) 0 0 0 [some (vR 111 0), some (vR 265 0), none, none, none, none, none] [] T
  have c_7 : ∀ (nn : Nat) (wh : Int) (nr : Int) (k : Int), ((36 - k).toNat) ≤ nn → (wp_265 k nr) → (-1 ≤ wh ∧ wh < 4) → (0 ≤ k ∧ k ≤ 36) → J_ zX11_whichOf T (po_X11_whichOf_265 T) 0 0 7 [some (vR 111 0), some (vR 265 0), some (vI wh), some (vI nr), some (vI k), none, none] [] T := by
    intro nn
    induction nn using Nat.strongRecOn with
    | _ nn ih_7 =>
      intro wh nr k hm_7 w1 w2 w3
      have hk9 : k = 36 ∨ k < 36 := by omega
      rcases hk9 with hk9 | hk9
      · refine j_blx (F := fX11) tb_X11 (nn_ _) bk_X11_whichOf_7 bs_X11_whichOf_7 hz (fun K hK => ?_)
        refine And.intro (fun c9 => ?_) (fun c9 => absurd c9 (by omega))
        refine hK 126 _ [] T ?_
        refine j_blx (F := fX11) tb_X11 (nn_ _) bk_X11_whichOf_126 bs_X11_whichOf_126 hz (fun K hK => ?_)
        refine (show po_X11_whichOf_265 T T (some (vI wh)) from ?_)
        exact ⟨rfl, _, rfl, by omega⟩
      obtain ⟨e, hk0, he0, he1, he2, he3, hnx, hn0, hn1⟩ := ww_265 hC w1 hk9
      have c_20 : ∀ (nn : Nat) (n : Int) (b : Int), ((e - k - n).toNat) ≤ nn → (0 ≤ n ∧ k + n ≤ e ∧ 0 ≤ b ∧ b ≤ 1) → J_ zX11_whichOf T (po_X11_whichOf_265 T) 0 0 20 [some (vR 111 0), some (vR 265 0), some (vI wh), some (vI nr), some (vI k), some (vI n), some (vI b)] [] T := by
        intro nn
        induction nn using Nat.strongRecOn with
        | _ nn ih_20 =>
          intro n b hm_20 n1
          have c_78 : ∀ (v : Int), (0 ≤ v ∧ v ≤ 1) → (k + n < e) → J_ zX11_whichOf T (po_X11_whichOf_265 T) 0 0 78 [some (vR 111 0), some (vR 265 0), some (vI wh), some (vI nr), some (vI k), some (vI n), some (vI b)] [vI v] T := by
            intro v v1 v2
            refine j_blx (F := fX11) tb_X11 (nn_ _) bk_X11_whichOf_78 bs_X11_whichOf_78 hz (fun K hK => ?_)
            refine rg_i (by omega) ?_
            refine hK 20 [some (vR 111 0), some (vR 265 0), some (vI wh), some (vI nr), some (vI k), some (vI (n + 1)), some (vI v)] [] T ?_
            refine ih_20 _ ?_ (n + 1) v (Nat.le_refl _) ?_
            · omega
            · omega
          have c_110 : ∀ (v : Int), (-1 ≤ v ∧ v < 4) → (k + n = e) → J_ zX11_whichOf T (po_X11_whichOf_265 T) 0 0 110 [some (vR 111 0), some (vR 265 0), some (vI wh), some (vI nr), some (vI k), some (vI n), some (vI b)] [vI v] T := by
            intro v v1 v2
            refine j_blx (F := fX11) tb_X11 (nn_ _) bk_X11_whichOf_110 bs_X11_whichOf_110 hz (fun K hK => ?_)
            refine rg_i (by omega) ?_
            refine rg_i (by omega) ?_
            refine rg_i (by omega) ?_
            refine hK 7 [some (vR 111 0), some (vR 265 0), some (vI v), some (vI (nr + 1)), some (vI (k + (n + 1))), some (vI n), some (vI b)] [] T ?_
            refine j_drop [some (vR 111 0), some (vR 265 0), some (vI v), some (vI (nr + 1)), some (vI (k + (n + 1))), none, none] (fun k v hk => ?_) rfl ?_
            · match k, hk with
              | 0, hk => exact hk
              | 1, hk => exact hk
              | 2, hk => exact hk
              | 3, hk => exact hk
              | 4, hk => exact hk
              | 5, hk => cases hk
              | 6, hk => cases hk
              | k + 7, hk => cases hk
            refine ih_7 _ ?_ v (nr + 1) (k + (n + 1)) (Nat.le_refl _) ?_ ?_ ?_
            · omega
            · (have hz9 : k + (n + 1) = e + 1 := by omega); rw [hz9]; exact hnx
            · omega
            · omega
          refine j_blx (F := fX11) tb_X11 (nn_ _) bk_X11_whichOf_20 bs_X11_whichOf_20 hz (fun K hK => ?_)
          refine rg_i (by omega) ?_
          refine ix_i (by omega) ?_
          intro b1 b1b
          refine And.intro (fun c2 => ?_) (fun c2 => ?_)
          · have hke : k + n = e := Classical.byContradiction (fun z => he2 (k + n) (by omega) (by omega) c2)
            refine hK 86 _ [] T ?_
            refine j_blx (F := fX11) tb_X11 (nn_ _) bk_X11_whichOf_86 bs_X11_whichOf_86 hz (fun K hK => ?_)
            refine And.intro (fun c3 => ?_) (fun c3 => ?_)
            · refine hK 109 _ [] T ?_
              refine j_blx (F := fX11) tb_X11 (nn_ _) bk_X11_whichOf_109 bs_X11_whichOf_109 hz (fun K hK => ?_)
              refine hK 110 _ [vI wh] T ?_
              refine c_110 wh ?_ ?_
              · omega
              · omega
            · intro b4 b4b
              intro b5 b5b
              refine rg_i (by omega) ?_
              refine And.intro (fun c6 => ?_) (fun c6 => ?_)
              · refine hK 109 _ [] T ?_
                refine j_blx (F := fX11) tb_X11 (nn_ _) bk_X11_whichOf_109 bs_X11_whichOf_109 hz (fun K hK => ?_)
                refine hK 110 _ [vI wh] T ?_
                refine c_110 wh ?_ ?_
                · omega
                · omega
              · refine hK 110 _ [vI nr] T ?_
                refine c_110 nr ?_ ?_
                · omega
                · omega
          · have hke : k + n ≠ e := fun z => c2 (by rw [z]; exact he3)
            refine And.intro (fun c7 => ?_) (fun c7 => ?_)
            · refine hK 77 _ [] T ?_
              refine j_blx (F := fX11) tb_X11 (nn_ _) bk_X11_whichOf_77 bs_X11_whichOf_77 hz (fun K hK => ?_)
              refine hK 78 _ [vI 0] T ?_
              refine c_78 0 ?_ ?_
              · omega
              · omega
            · intro b8 b8b
              refine rg_i (by omega) ?_
              intro b9 b9b
              refine And.intro (fun c10 => ?_) (fun c10 => ?_)
              · refine hK 77 _ [] T ?_
                refine j_blx (F := fX11) tb_X11 (nn_ _) bk_X11_whichOf_77 bs_X11_whichOf_77 hz (fun K hK => ?_)
                refine hK 78 _ [vI 0] T ?_
                refine c_78 0 ?_ ?_
                · omega
                · omega
              · intro b11 b11b
                refine rg_i (by omega) ?_
                refine ix_i (by omega) ?_
                intro b12 b12b
                refine rg_i (by omega) ?_
                refine ix_i (by omega) ?_
                intro b13 b13b
                refine And.intro (fun c14 => ?_) (fun c14 => ?_)
                · refine hK 77 _ [] T ?_
                  refine j_blx (F := fX11) tb_X11 (nn_ _) bk_X11_whichOf_77 bs_X11_whichOf_77 hz (fun K hK => ?_)
                  refine hK 78 _ [vI 0] T ?_
                  refine c_78 0 ?_ ?_
                  · omega
                  · omega
                · refine hK 78 _ [vI 1] T ?_
                  refine c_78 1 ?_ ?_
                  · omega
                  · omega
      refine j_blx (F := fX11) tb_X11 (nn_ _) bk_X11_whichOf_7 bs_X11_whichOf_7 hz (fun K hK => ?_)
      refine And.intro (fun c15 => ?_) (fun c15 => ?_)
      · refine hK 126 _ [] T ?_
        refine j_blx (F := fX11) tb_X11 (nn_ _) bk_X11_whichOf_126 bs_X11_whichOf_126 hz (fun K hK => ?_)
        refine (show po_X11_whichOf_265 T T (some (vI wh)) from ?_)
        exact ⟨rfl, _, rfl, by omega⟩
      · refine hK 20 [some (vR 111 0), some (vR 265 0), some (vI wh), some (vI nr), some (vI k), some (vI 0), some (vI 1)] [] T ?_
        refine c_20 _ 0 1 (Nat.le_refl _) ?_
        · omega
  refine j_blx (F := fX11) tb_X11 (nn_ _) bk_X11_whichOf_0 bs_X11_whichOf_0 hz (fun K hK => ?_)
  refine hK 7 [some (vR 111 0), some (vR 265 0), some (vI (-1)), some (vI 0), some (vI 0), none, none] [] T ?_
  refine c_7 _ (-1) 0 0 (Nat.le_refl _) ?_ ?_ ?_
  · exact Or.inl ⟨_, List.mem_cons_self⟩
  · omega
  · omega
-- whichOf over the row 266
abbrev po_X11_whichOf_266 (T : Zt) : Zt → Option Zv → Prop := fun T' r => T = T' ∧ ∃ x : Int, r = some (vI x) ∧ (-1 ≤ x ∧ x < 7)
set_option maxHeartbeats 4000000 in
theorem ct_X11_whichOf_266 {T : Zt} (h1 : T 111 0 59 ≤ T 111 0 60 ∧ T 111 0 60 ≤ 400) (hC : CW_ T) : Ct_ yX11_whichOf zX11_whichOf T [vR 111 0, vR 266 0] (po_X11_whichOf_266 T) := by
  refine ct_of pn_11 rfl rfl (Nat.le_of_ble_eq_true rfl) (fun hT hav => ?_)
  have hz : zX11_whichOf.2.2.2.1 = some .boolean → ∀ (T' : Zt) (x : Int), po_X11_whichOf_266 T T' (some (vI x)) → 0 ≤ x ∧ x ≤ 1 := fun h => by cases h
  show J_ zX11_whichOf T (po_X11_whichOf_266 T) 0 0 0 [some (vR 111 0), some (vR 266 0), none, none, none, none, none] [] T
  have c_7 : ∀ (nn : Nat) (wh : Int) (nr : Int) (k : Int), ((37 - k).toNat) ≤ nn → (wp_266 k nr) → (-1 ≤ wh ∧ wh < 7) → (0 ≤ k ∧ k ≤ 37) → J_ zX11_whichOf T (po_X11_whichOf_266 T) 0 0 7 [some (vR 111 0), some (vR 266 0), some (vI wh), some (vI nr), some (vI k), none, none] [] T := by
    intro nn
    induction nn using Nat.strongRecOn with
    | _ nn ih_7 =>
      intro wh nr k hm_7 w1 w2 w3
      have hk9 : k = 37 ∨ k < 37 := by omega
      rcases hk9 with hk9 | hk9
      · refine j_blx (F := fX11) tb_X11 (nn_ _) bk_X11_whichOf_7 bs_X11_whichOf_7 hz (fun K hK => ?_)
        refine And.intro (fun c9 => ?_) (fun c9 => absurd c9 (by omega))
        refine hK 126 _ [] T ?_
        refine j_blx (F := fX11) tb_X11 (nn_ _) bk_X11_whichOf_126 bs_X11_whichOf_126 hz (fun K hK => ?_)
        refine (show po_X11_whichOf_266 T T (some (vI wh)) from ?_)
        exact ⟨rfl, _, rfl, by omega⟩
      obtain ⟨e, hk0, he0, he1, he2, he3, hnx, hn0, hn1⟩ := ww_266 hC w1 hk9
      have c_20 : ∀ (nn : Nat) (n : Int) (b : Int), ((e - k - n).toNat) ≤ nn → (0 ≤ n ∧ k + n ≤ e ∧ 0 ≤ b ∧ b ≤ 1) → J_ zX11_whichOf T (po_X11_whichOf_266 T) 0 0 20 [some (vR 111 0), some (vR 266 0), some (vI wh), some (vI nr), some (vI k), some (vI n), some (vI b)] [] T := by
        intro nn
        induction nn using Nat.strongRecOn with
        | _ nn ih_20 =>
          intro n b hm_20 n1
          have c_78 : ∀ (v : Int), (0 ≤ v ∧ v ≤ 1) → (k + n < e) → J_ zX11_whichOf T (po_X11_whichOf_266 T) 0 0 78 [some (vR 111 0), some (vR 266 0), some (vI wh), some (vI nr), some (vI k), some (vI n), some (vI b)] [vI v] T := by
            intro v v1 v2
            refine j_blx (F := fX11) tb_X11 (nn_ _) bk_X11_whichOf_78 bs_X11_whichOf_78 hz (fun K hK => ?_)
            refine rg_i (by omega) ?_
            refine hK 20 [some (vR 111 0), some (vR 266 0), some (vI wh), some (vI nr), some (vI k), some (vI (n + 1)), some (vI v)] [] T ?_
            refine ih_20 _ ?_ (n + 1) v (Nat.le_refl _) ?_
            · omega
            · omega
          have c_110 : ∀ (v : Int), (-1 ≤ v ∧ v < 7) → (k + n = e) → J_ zX11_whichOf T (po_X11_whichOf_266 T) 0 0 110 [some (vR 111 0), some (vR 266 0), some (vI wh), some (vI nr), some (vI k), some (vI n), some (vI b)] [vI v] T := by
            intro v v1 v2
            refine j_blx (F := fX11) tb_X11 (nn_ _) bk_X11_whichOf_110 bs_X11_whichOf_110 hz (fun K hK => ?_)
            refine rg_i (by omega) ?_
            refine rg_i (by omega) ?_
            refine rg_i (by omega) ?_
            refine hK 7 [some (vR 111 0), some (vR 266 0), some (vI v), some (vI (nr + 1)), some (vI (k + (n + 1))), some (vI n), some (vI b)] [] T ?_
            refine j_drop [some (vR 111 0), some (vR 266 0), some (vI v), some (vI (nr + 1)), some (vI (k + (n + 1))), none, none] (fun k v hk => ?_) rfl ?_
            · match k, hk with
              | 0, hk => exact hk
              | 1, hk => exact hk
              | 2, hk => exact hk
              | 3, hk => exact hk
              | 4, hk => exact hk
              | 5, hk => cases hk
              | 6, hk => cases hk
              | k + 7, hk => cases hk
            refine ih_7 _ ?_ v (nr + 1) (k + (n + 1)) (Nat.le_refl _) ?_ ?_ ?_
            · omega
            · (have hz9 : k + (n + 1) = e + 1 := by omega); rw [hz9]; exact hnx
            · omega
            · omega
          refine j_blx (F := fX11) tb_X11 (nn_ _) bk_X11_whichOf_20 bs_X11_whichOf_20 hz (fun K hK => ?_)
          refine rg_i (by omega) ?_
          refine ix_i (by omega) ?_
          intro b1 b1b
          refine And.intro (fun c2 => ?_) (fun c2 => ?_)
          · have hke : k + n = e := Classical.byContradiction (fun z => he2 (k + n) (by omega) (by omega) c2)
            refine hK 86 _ [] T ?_
            refine j_blx (F := fX11) tb_X11 (nn_ _) bk_X11_whichOf_86 bs_X11_whichOf_86 hz (fun K hK => ?_)
            refine And.intro (fun c3 => ?_) (fun c3 => ?_)
            · refine hK 109 _ [] T ?_
              refine j_blx (F := fX11) tb_X11 (nn_ _) bk_X11_whichOf_109 bs_X11_whichOf_109 hz (fun K hK => ?_)
              refine hK 110 _ [vI wh] T ?_
              refine c_110 wh ?_ ?_
              · omega
              · omega
            · intro b4 b4b
              intro b5 b5b
              refine rg_i (by omega) ?_
              refine And.intro (fun c6 => ?_) (fun c6 => ?_)
              · refine hK 109 _ [] T ?_
                refine j_blx (F := fX11) tb_X11 (nn_ _) bk_X11_whichOf_109 bs_X11_whichOf_109 hz (fun K hK => ?_)
                refine hK 110 _ [vI wh] T ?_
                refine c_110 wh ?_ ?_
                · omega
                · omega
              · refine hK 110 _ [vI nr] T ?_
                refine c_110 nr ?_ ?_
                · omega
                · omega
          · have hke : k + n ≠ e := fun z => c2 (by rw [z]; exact he3)
            refine And.intro (fun c7 => ?_) (fun c7 => ?_)
            · refine hK 77 _ [] T ?_
              refine j_blx (F := fX11) tb_X11 (nn_ _) bk_X11_whichOf_77 bs_X11_whichOf_77 hz (fun K hK => ?_)
              refine hK 78 _ [vI 0] T ?_
              refine c_78 0 ?_ ?_
              · omega
              · omega
            · intro b8 b8b
              refine rg_i (by omega) ?_
              intro b9 b9b
              refine And.intro (fun c10 => ?_) (fun c10 => ?_)
              · refine hK 77 _ [] T ?_
                refine j_blx (F := fX11) tb_X11 (nn_ _) bk_X11_whichOf_77 bs_X11_whichOf_77 hz (fun K hK => ?_)
                refine hK 78 _ [vI 0] T ?_
                refine c_78 0 ?_ ?_
                · omega
                · omega
              · intro b11 b11b
                refine rg_i (by omega) ?_
                refine ix_i (by omega) ?_
                intro b12 b12b
                refine rg_i (by omega) ?_
                refine ix_i (by omega) ?_
                intro b13 b13b
                refine And.intro (fun c14 => ?_) (fun c14 => ?_)
                · refine hK 77 _ [] T ?_
                  refine j_blx (F := fX11) tb_X11 (nn_ _) bk_X11_whichOf_77 bs_X11_whichOf_77 hz (fun K hK => ?_)
                  refine hK 78 _ [vI 0] T ?_
                  refine c_78 0 ?_ ?_
                  · omega
                  · omega
                · refine hK 78 _ [vI 1] T ?_
                  refine c_78 1 ?_ ?_
                  · omega
                  · omega
      refine j_blx (F := fX11) tb_X11 (nn_ _) bk_X11_whichOf_7 bs_X11_whichOf_7 hz (fun K hK => ?_)
      refine And.intro (fun c15 => ?_) (fun c15 => ?_)
      · refine hK 126 _ [] T ?_
        refine j_blx (F := fX11) tb_X11 (nn_ _) bk_X11_whichOf_126 bs_X11_whichOf_126 hz (fun K hK => ?_)
        refine (show po_X11_whichOf_266 T T (some (vI wh)) from ?_)
        exact ⟨rfl, _, rfl, by omega⟩
      · refine hK 20 [some (vR 111 0), some (vR 266 0), some (vI wh), some (vI nr), some (vI k), some (vI 0), some (vI 1)] [] T ?_
        refine c_20 _ 0 1 (Nat.le_refl _) ?_
        · omega
  refine j_blx (F := fX11) tb_X11 (nn_ _) bk_X11_whichOf_0 bs_X11_whichOf_0 hz (fun K hK => ?_)
  refine hK 7 [some (vR 111 0), some (vR 266 0), some (vI (-1)), some (vI 0), some (vI 0), none, none] [] T ?_
  refine c_7 _ (-1) 0 0 (Nat.le_refl _) ?_ ?_ ?_
  · exact Or.inl ⟨_, List.mem_cons_self⟩
  · omega
  · omega
