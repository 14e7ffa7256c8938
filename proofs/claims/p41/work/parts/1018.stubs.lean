abbrev cX11_in : ByteArray := prog_13_method_3_code
def yX11_in : MethodName := ⟨RX11, "in", "(III)Z"⟩
def zX11_in : Zm := (RX11, cX11_in, 3, (some .boolean), { frames := 0, cells := 0, slots := 0, locals := 0 })
abbrev po_X11_in (T : Zt) (v lo hi : Int) : Zt → Option Zv → Prop := fun T' r => T = T' ∧ ∃ x : Int, r = some (vI x) ∧ (x = 1 ∧ lo ≤ v ∧ v ≤ hi ∨ x = 0 ∧ ¬ (lo ≤ v ∧ v ≤ hi))
set_option maxHeartbeats 4000000 in
theorem ct_X11_in {T : Zt} {v lo hi : Int} : Ct_ yX11_in zX11_in T [vI v, vI lo, vI hi] (po_X11_in T v lo hi) := sorry
abbrev cX11_isOf : ByteArray := prog_13_method_4_code
def yX11_isOf : MethodName := ⟨RX11, "isOf", "(II)Z"⟩
def zX11_isOf : Zm := (RX11, cX11_isOf, 2, (some .boolean), { frames := 1, cells := 0, slots := 0, locals := 22 })
set_option maxRecDepth 100000 in
theorem cl_X11_255 : cs_ RX11 255 yX11_in zX11_in 3 := sorry
abbrev po_X11_isOf (T : Zt) (v n : Int) : Zt → Option Zv → Prop := fun T' r => T = T' ∧ ∃ x : Int, r = some (vI x) ∧ (x = 1 ∧ 0 ≤ v ∧ v < n ∨ x = 0 ∧ ¬ (0 ≤ v ∧ v < n))
set_option maxHeartbeats 4000000 in
theorem ct_X11_isOf {T : Zt} {v n : Int} (hn : -1 ≤ n) : Ct_ yX11_isOf zX11_isOf T [vI v, vI n] (po_X11_isOf T v n) := sorry
abbrev cX11_isLetter : ByteArray := prog_13_method_9_code
def yX11_isLetter : MethodName := ⟨RX11, "isLetter", "(I)Z"⟩
def zX11_isLetter : Zm := (RX11, cX11_isLetter, 1, (some .boolean), { frames := 1, cells := 0, slots := 0, locals := 22 })
abbrev po_X11_isLetter (T : Zt) (c : Int) : Zt → Option Zv → Prop := fun T' r => T = T' ∧ ∃ x : Int, r = some (vI x) ∧ (x = 1 ∧ 97 ≤ c ∧ c ≤ 122 ∨ x = 0 ∧ ¬ (97 ≤ c ∧ c ≤ 122))
set_option maxHeartbeats 4000000 in
theorem ct_X11_isLetter {T : Zt} {c : Int} : Ct_ yX11_isLetter zX11_isLetter T [vI c] (po_X11_isLetter T c) := sorry
abbrev cX11_isDigit : ByteArray := prog_13_method_10_code
def yX11_isDigit : MethodName := ⟨RX11, "isDigit", "(I)Z"⟩
def zX11_isDigit : Zm := (RX11, cX11_isDigit, 1, (some .boolean), { frames := 1, cells := 0, slots := 0, locals := 22 })
abbrev po_X11_isDigit (T : Zt) (c : Int) : Zt → Option Zv → Prop := fun T' r => T = T' ∧ ∃ x : Int, r = some (vI x) ∧ (x = 1 ∧ 48 ≤ c ∧ c ≤ 57 ∨ x = 0 ∧ ¬ (48 ≤ c ∧ c ≤ 57))
set_option maxHeartbeats 4000000 in
theorem ct_X11_isDigit {T : Zt} {c : Int} : Ct_ yX11_isDigit zX11_isDigit T [vI c] (po_X11_isDigit T c) := sorry
abbrev cX11_rule0 : ByteArray := prog_13_method_5_code
def yX11_rule0 : MethodName := ⟨RX11, "rule0", "(II)I"⟩
def zX11_rule0 : Zm := (RX11, cX11_rule0, 3, (some .int), { frames := 0, cells := 0, slots := 0, locals := 0 })
abbrev po_X11_rule0 (T : Zt) (c w : Int) : Zt → Option Zv → Prop := fun T' r => T = T' ∧ r = some (vI (T 205 0 (23 * c + w)))
set_option maxHeartbeats 4000000 in
theorem ct_X11_rule0 {T : Zt} {c w : Int} (h1 : 0 ≤ c ∧ c < 4) (h2 : 0 ≤ w ∧ w < 23) : Ct_ yX11_rule0 zX11_rule0 T [vR 111 0, vI c, vI w] (po_X11_rule0 T c w) := sorry
abbrev cX11_liveOf : ByteArray := prog_13_method_50_code
def yX11_liveOf : MethodName := ⟨RX11, "liveOf", "(II)I"⟩
def zX11_liveOf : Zm := (RX11, cX11_liveOf, 3, (some .int), { frames := 0, cells := 0, slots := 0, locals := 0 })
abbrev po_X11_liveOf (T : Zt) (m k : Int) : Zt → Option Zv → Prop := fun T' r => T = T' ∧ r = some (vI (T 246 0 (8 * m + k)))
set_option maxHeartbeats 4000000 in
theorem ct_X11_liveOf {T : Zt} {m k : Int} (h1 : 0 ≤ m ∧ m < 400) (h2 : 0 ≤ k ∧ k < 8) : Ct_ yX11_liveOf zX11_liveOf T [vR 111 0, vI m, vI k] (po_X11_liveOf T m k) := sorry
abbrev cX11_wipe : ByteArray := prog_13_method_7_code
def yX11_wipe : MethodName := ⟨RX11, "wipe", "()I"⟩
def zX11_wipe : Zm := (RX11, cX11_wipe, 2, (some .int), { frames := 0, cells := 0, slots := 0, locals := 0 })
abbrev po_X11_wipe (T : Zt) : Zt → Option Zv → Prop := fun T' r => ∃ x : Int, r = some (vI x) ∧ fr_ [(111, [1])] T T' ∧ (T' 111 0 1 = 0 ∧ x = T 111 0 1)
set_option maxHeartbeats 4000000 in
theorem ct_X11_wipe {T : Zt} : Ct_ yX11_wipe zX11_wipe T [vR 111 0] (po_X11_wipe T) := sorry
abbrev cX11_sign : ByteArray := prog_13_method_6_code
def yX11_sign : MethodName := ⟨RX11, "sign", "(I)I"⟩
def zX11_sign : Zm := (RX11, cX11_sign, 2, (some .int), { frames := 1, cells := 0, slots := 0, locals := 22 })
abbrev po_X11_sign (T : Zt) (c : Int) : Zt → Option Zv → Prop := fun T' r => ∃ x : Int, r = some (vI x) ∧ fr_ [(111, [1]), (200, [])] T T' ∧ ((x = -3 ∧ T' 111 0 1 = T 111 0 1 ∧ ¬ (c = 10 ∨ 32 ≤ c ∧ c ≤ 126)) ∨ ((c = 10 ∨ 32 ≤ c ∧ c ≤ 126) ∧ (T 111 0 1 = 400 ∧ x = -5 ∧ T' 111 0 1 = 400 ∨ T 111 0 1 < 400 ∧ x = T 111 0 1 + 1 ∧ T' 111 0 1 = x)))

def wl_264 : List Int := [115, 112, 111, 114, 116, 32, 112, 111, 105, 110, 116, 115, 32, 111, 114, 100, 101, 114, 32, 114, 101, 100, 111, 32, 108, 101, 103, 115, 32, 101, 118, 101, 114, 121, 32, 114, 101, 115, 116, 32, 102, 105, 101, 108, 100, 32, 115, 117, 98, 115, 32, 116, 97, 114, 103, 101, 116, 32, 119, 97, 108, 107, 111, 118, 101, 114, 32, 99, 97, 114, 100, 115, 32, 114, 101, 100, 32, 115, 101, 101, 100, 32]
def wl_265 : List Int := [102, 111, 111, 116, 98, 97, 108, 108, 32, 118, 111, 108, 108, 101, 121, 98, 97, 108, 108, 32, 116, 101, 110, 110, 105, 115, 32, 98, 97, 115, 101, 98, 97, 108, 108, 32]
def wl_266 : List Int := [100, 105, 102, 102, 32, 115, 99, 111, 114, 101, 100, 32, 119, 105, 110, 115, 32, 97, 119, 97, 121, 32, 104, 101, 97, 100, 32, 102, 97, 105, 114, 32, 108, 111, 116, 115, 32]
def wl_267 : List Int := [1, 1, 1, 1, 0, 2, 1, 1, 1, 0]
def wl_268 : List Int := [4, 30, 9, 6, 5, 25, 9, 9, 9, 999]
/-- the reference's constant rows hold their words -/
def CW_ (T : Zt) : Prop := (∀ i : Int, 0 ≤ i → i < 82 → T 264 0 i = wl_264.getD i.toNat 0) ∧ (∀ i : Int, 0 ≤ i → i < 36 → T 265 0 i = wl_265.getD i.toNat 0) ∧ (∀ i : Int, 0 ≤ i → i < 37 → T 266 0 i = wl_266.getD i.toNat 0) ∧ (∀ i : Int, 0 ≤ i → i < 10 → T 267 0 i = wl_267.getD i.toNat 0) ∧ (∀ i : Int, 0 ≤ i → i < 10 → T 268 0 i = wl_268.getD i.toNat 0)
theorem CW_f {ws : List (Nat × List Int)} {T T' : Zt} (h : CW_ T) (f : fr_ ws T T') (w : (∀ j, fw_ ws 264 j = false) ∧ (∀ j, fw_ ws 265 j = false) ∧ (∀ j, fw_ ws 266 j = false) ∧ (∀ j, fw_ ws 267 j = false) ∧ (∀ j, fw_ ws 268 j = false)) : CW_ T' := sorry
def ws_ok (w : List Int) (ts : List (Int × Int × Int)) : Bool := ts.all fun q => decide (0 ≤ q.1) && decide (q.1 ≤ q.2.2) && decide (q.2.2 < w.length) && ((List.range w.length).all fun i => if q.1 ≤ (i : Int) ∧ (i : Int) < q.2.2 then w.getD i 0 != 32 else true) && (w.getD q.2.2.toNat 0 == 32)
def wt_264 : List (Int × Int × Int) := [(0, 0, 5), (6, 1, 12), (13, 2, 18), (19, 3, 23), (24, 4, 28), (29, 5, 34), (35, 6, 39), (40, 7, 45), (46, 8, 50), (51, 9, 57), (58, 10, 66), (67, 11, 72), (73, 12, 76), (77, 13, 81)]
/-- at the start of word nr, or behind the last -/
def wp_264 (k nr : Int) : Prop := (∃ e, (k, nr, e) ∈ wt_264) ∨ (k = 82 ∧ nr = 14)
theorem wn_264 : ∀ q ∈ wt_264, 0 ≤ q.2.1 ∧ q.2.1 < 14 ∧ ((∃ e, (q.2.2 + 1, q.2.1 + 1, e) ∈ wt_264) ∨ (q.2.2 + 1 = 82 ∧ q.2.1 + 1 = 14)) := sorry
theorem wc_264 : ws_ok wl_264 wt_264 = true := sorry
def wt_265 : List (Int × Int × Int) := [(0, 0, 8), (9, 1, 19), (20, 2, 26), (27, 3, 35)]
/-- at the start of word nr, or behind the last -/
def wp_265 (k nr : Int) : Prop := (∃ e, (k, nr, e) ∈ wt_265) ∨ (k = 36 ∧ nr = 4)
theorem wn_265 : ∀ q ∈ wt_265, 0 ≤ q.2.1 ∧ q.2.1 < 4 ∧ ((∃ e, (q.2.2 + 1, q.2.1 + 1, e) ∈ wt_265) ∨ (q.2.2 + 1 = 36 ∧ q.2.1 + 1 = 4)) := sorry
theorem wc_265 : ws_ok wl_265 wt_265 = true := sorry
def wt_266 : List (Int × Int × Int) := [(0, 0, 4), (5, 1, 11), (12, 2, 16), (17, 3, 21), (22, 4, 26), (27, 5, 31), (32, 6, 36)]
/-- at the start of word nr, or behind the last -/
def wp_266 (k nr : Int) : Prop := (∃ e, (k, nr, e) ∈ wt_266) ∨ (k = 37 ∧ nr = 7)
theorem wn_266 : ∀ q ∈ wt_266, 0 ≤ q.2.1 ∧ q.2.1 < 7 ∧ ((∃ e, (q.2.2 + 1, q.2.1 + 1, e) ∈ wt_266) ∨ (q.2.2 + 1 = 37 ∧ q.2.1 + 1 = 7)) := sorry
theorem wc_266 : ws_ok wl_266 wt_266 = true := sorry
abbrev cX11_bad : ByteArray := prog_13_method_8_code
def yX11_bad : MethodName := ⟨RX11, "bad", "(II)V"⟩
def zX11_bad : Zm := (RX11, cX11_bad, 3, none, { frames := 0, cells := 0, slots := 0, locals := 0 })
abbrev cX11_take : ByteArray := prog_13_method_11_code
def yX11_take : MethodName := ⟨RX11, "take", "()V"⟩
def zX11_take : Zm := (RX11, cX11_take, 2, none, { frames := 2, cells := 0, slots := 0, locals := 42 })
set_option maxRecDepth 100000 in
theorem cl_X11_281 : cv_ RX11 281 yX11_bad zX11_bad 11 2 := sorry
set_option maxRecDepth 100000 in
theorem cl_X11_277 : cs_ RX11 277 yX11_isLetter zX11_isLetter 1 := sorry
set_option maxRecDepth 100000 in
theorem cl_X11_285 : cs_ RX11 285 yX11_isDigit zX11_isDigit 1 := sorry
-- whichOf over the row 264
abbrev cX11_whichOf : ByteArray := prog_13_method_12_code
def yX11_whichOf : MethodName := ⟨RX11, "whichOf", "([I)I"⟩
def zX11_whichOf : Zm := (RX11, cX11_whichOf, 7, (some .int), { frames := 0, cells := 0, slots := 0, locals := 0 })
def rb_l : List (Int × Int) := [(0, 3), (0, 9), (0, 9), (0, 9), (0, 7), (0, 1), (1, 4), (1, 30), (1, 9), (1, 6), (0, 5), (2, 25), (1, 9), (1, 9), (1, 9), (0, 999), ((-1), 6), ((-1), 6), ((-1), 6), ((-1), 6), ((-1), 6), ((-1), 6), ((-1), 6)]
/-- the bounds of a rule -/
def rb_ (w : Int) : Int × Int := rb_l.getD w.toNat (-1, 999)
def RI_ (T : Zt) : Prop := ∀ c w : Int, 0 ≤ c → c < T 111 0 6 → 0 ≤ w → w < 23 → (rb_ w).1 ≤ T 205 0 (23 * c + w) ∧ T 205 0 (23 * c + w) ≤ (rb_ w).2
theorem RI__f {ws : List (Nat × List Int)} {T T' : Zt} (h : RI_ T) (f : fr_ ws T T') (w : (∀ j, fw_ ws 205 j = false) ∧ fw_ ws 111 6 = false ∧ True) : RI_ T' := sorry
def RW_ (T : Zt) : Prop := ∀ c : Int, 0 ≤ c → c < T 111 0 6 → T 205 0 (23 * c + 2) ≤ T 205 0 (23 * c + 1) ∧ T 205 0 (23 * c + 3) ≤ T 205 0 (23 * c + 2)
theorem RW__f {ws : List (Nat × List Int)} {T T' : Zt} (h : RW_ T) (f : fr_ ws T T') (w : (∀ j, fw_ ws 205 j = false) ∧ fw_ ws 111 6 = false ∧ True) : RW_ T' := sorry
theorem CX_f {ws : List (Nat × List Int)} {T T' : Zt} (h : CW_ T) (f : fr_ ws T T') (w : (∀ j, fw_ ws 264 j = false) ∧ (∀ j, fw_ ws 265 j = false) ∧ (∀ j, fw_ ws 266 j = false) ∧ (∀ j, fw_ ws 267 j = false) ∧ (∀ j, fw_ ws 268 j = false) ∧ True) : CW_ T' := sorry
abbrev cX11_layDefaults : ByteArray := prog_13_method_13_code
def yX11_layDefaults : MethodName := ⟨RX11, "layDefaults", "()V"⟩
def zX11_layDefaults : Zm := (RX11, cX11_layDefaults, 2, none, { frames := 0, cells := 0, slots := 0, locals := 0 })
abbrev cX11_wantNumber : ByteArray := prog_13_method_14_code
def yX11_wantNumber : MethodName := ⟨RX11, "wantNumber", "(III)V"⟩
def zX11_wantNumber : Zm := (RX11, cX11_wantNumber, 4, none, { frames := 3, cells := 0, slots := 0, locals := 63 })
set_option maxRecDepth 100000 in
theorem cl_X11_291 : cv_ RX11 291 yX11_take zX11_take 11 0 := sorry
abbrev cX11_readSport : ByteArray := prog_13_method_15_code
def yX11_readSport : MethodName := ⟨RX11, "readSport", "()V"⟩
def zX11_readSport : Zm := (RX11, cX11_readSport, 2, none, { frames := 3, cells := 0, slots := 0, locals := 63 })
set_option maxRecDepth 100000 in
theorem cl_X11_294 : cv_ RX11 294 yX11_whichOf zX11_whichOf 11 1 := sorry
abbrev cX11_readOrder : ByteArray := prog_13_method_16_code
def yX11_readOrder : MethodName := ⟨RX11, "readOrder", "()V"⟩
def zX11_readOrder : Zm := (RX11, cX11_readOrder, 3, none, { frames := 3, cells := 0, slots := 0, locals := 63 })

abbrev cX11_readStatement : ByteArray := prog_13_method_17_code
def yX11_readStatement : MethodName := ⟨RX11, "readStatement", "()V"⟩
def zX11_readStatement : Zm := (RX11, cX11_readStatement, 2, none, { frames := 4, cells := 0, slots := 0, locals := 86 })
set_option maxRecDepth 100000 in
theorem cl_X11_304 : cv_ RX11 304 yX11_wantNumber zX11_wantNumber 11 3 := sorry
set_option maxRecDepth 100000 in
theorem cl_X11_301 : cv_ RX11 301 yX11_readSport zX11_readSport 11 0 := sorry
set_option maxRecDepth 100000 in
theorem cl_X11_298 : cv_ RX11 298 yX11_readOrder zX11_readOrder 11 0 := sorry
abbrev cX11_competition : ByteArray := prog_13_method_18_code
def yX11_competition : MethodName := ⟨RX11, "competition", "()I"⟩
def zX11_competition : Zm := (RX11, cX11_competition, 3, (some .int), { frames := 5, cells := 0, slots := 0, locals := 107 })
set_option maxRecDepth 100000 in
theorem cl_X11_314 : cv_ RX11 314 yX11_readStatement zX11_readStatement 11 0 := sorry
set_option maxRecDepth 100000 in
theorem cl_X11_311 : cv_ RX11 311 yX11_layDefaults zX11_layDefaults 11 0 := sorry
abbrev cX11_fault : ByteArray := prog_13_method_19_code
def yX11_fault : MethodName := ⟨RX11, "fault", "()I"⟩
def zX11_fault : Zm := (RX11, cX11_fault, 1, (some .int), { frames := 0, cells := 0, slots := 0, locals := 0 })
abbrev cX11_rule : ByteArray := prog_13_method_20_code
def yX11_rule : MethodName := ⟨RX11, "rule", "(II)I"⟩
def zX11_rule : Zm := (RX11, cX11_rule, 3, (some .int), { frames := 2, cells := 0, slots := 0, locals := 43 })
set_option maxRecDepth 100000 in
theorem cl_X11_317 : cs_ RX11 317 yX11_isOf zX11_isOf 2 := sorry
set_option maxRecDepth 100000 in
theorem cl_X11_321 : cv_ RX11 321 yX11_rule0 zX11_rule0 11 2 := sorry
abbrev cX11_club : ByteArray := prog_13_method_21_code
def yX11_club : MethodName := ⟨RX11, "club", "(II)I"⟩
def zX11_club : Zm := (RX11, cX11_club, 3, (some .int), { frames := 1, cells := 0, slots := 0, locals := 22 })
abbrev po_X11_club (T : Zt) (s c : Int) : Zt → Option Zv → Prop := fun T' r => ∃ x : Int, r = some (vI x) ∧ fr_ [(111, [12]), (213, []), (214, [])] T T' ∧ ((x = -3 ∧ ¬ (0 ≤ s ∧ s ≤ 11 ∧ 0 ≤ c ∧ c ≤ 7) ∧ T' 111 0 12 = T 111 0 12) ∨ ((0 ≤ s ∧ s ≤ 11 ∧ 0 ≤ c ∧ c ≤ 7) ∧ T 111 0 12 = 12 ∧ x = -5 ∧ T' 111 0 12 = T 111 0 12) ∨ ((0 ≤ s ∧ s ≤ 11 ∧ 0 ≤ c ∧ c ≤ 7) ∧ T 111 0 12 < 12 ∧ x = T 111 0 12 ∧ T' 111 0 12 = T 111 0 12 + 1))
abbrev cX11_person : ByteArray := prog_13_method_22_code
def yX11_person : MethodName := ⟨RX11, "person", "()I"⟩
def zX11_person : Zm := (RX11, cX11_person, 1, (some .int), { frames := 0, cells := 0, slots := 0, locals := 0 })
abbrev po_X11_person (T : Zt) : Zt → Option Zv → Prop := fun T' r => ∃ x : Int, r = some (vI x) ∧ fr_ [(111, [15])] T T' ∧ ((x = -3 ∧ ¬ (0 = (0 : Int)) ∧ T' 111 0 15 = T 111 0 15) ∨ ((0 = (0 : Int)) ∧ T 111 0 15 = 200 ∧ x = -5 ∧ T' 111 0 15 = T 111 0 15) ∨ ((0 = (0 : Int)) ∧ T 111 0 15 < 200 ∧ x = T 111 0 15 ∧ T' 111 0 15 = T 111 0 15 + 1))
set_option maxHeartbeats 4000000 in
theorem ct_X11_person {T : Zt} : Ct_ yX11_person zX11_person T [vR 111 0] (po_X11_person T) := sorry
abbrev cX11_official : ByteArray := prog_13_method_25_code
def yX11_official : MethodName := ⟨RX11, "official", "(II)I"⟩
def zX11_official : Zm := (RX11, cX11_official, 3, (some .int), { frames := 1, cells := 0, slots := 0, locals := 22 })
abbrev po_X11_official (T : Zt) (s c : Int) : Zt → Option Zv → Prop := fun T' r => ∃ x : Int, r = some (vI x) ∧ fr_ [(111, [21]), (222, []), (223, [])] T T' ∧ ((x = -3 ∧ ¬ (0 ≤ s ∧ s ≤ 11 ∧ 0 ≤ c ∧ c ≤ 7) ∧ T' 111 0 21 = T 111 0 21) ∨ ((0 ≤ s ∧ s ≤ 11 ∧ 0 ≤ c ∧ c ≤ 7) ∧ T 111 0 21 = 8 ∧ x = -5 ∧ T' 111 0 21 = T 111 0 21) ∨ ((0 ≤ s ∧ s ≤ 11 ∧ 0 ≤ c ∧ c ≤ 7) ∧ T 111 0 21 < 8 ∧ x = T 111 0 21 ∧ T' 111 0 21 = T 111 0 21 + 1))
abbrev cX11_day : ByteArray := prog_13_method_26_code
def yX11_day : MethodName := ⟨RX11, "day", "(I)I"⟩
def zX11_day : Zm := (RX11, cX11_day, 3, (some .int), { frames := 1, cells := 0, slots := 0, locals := 22 })
abbrev po_X11_day (T : Zt) (d : Int) : Zt → Option Zv → Prop := fun T' r => ∃ x : Int, r = some (vI x) ∧ fr_ [(111, [3])] T T' ∧ ((x = -3 ∧ ¬ (T 111 0 3 < d ∧ d ≤ 999) ∧ T' 111 0 3 = T 111 0 3) ∨ (T 111 0 3 < d ∧ d ≤ 999 ∧ x = T 111 0 3 ∧ T' 111 0 3 = d))
set_option maxHeartbeats 4000000 in
theorem ct_X11_day {T : Zt} {d : Int} : Ct_ yX11_day zX11_day T [vR 111 0, vI d] (po_X11_day T d) := sorry
abbrev cX11_clubOf : ByteArray := prog_13_method_23_code
def yX11_clubOf : MethodName := ⟨RX11, "clubOf", "(II)I"⟩
def zX11_clubOf : Zm := (RX11, cX11_clubOf, 5, (some .int), { frames := 1, cells := 0, slots := 0, locals := 22 })
abbrev po_X11_clubOf (T : Zt) (p d : Int) : Zt → Option Zv → Prop := fun T' r => T = T' ∧ ∃ x : Int, r = some (vI x) ∧ (-1 ≤ x ∧ x ≤ 11)
set_option maxHeartbeats 4000000 in
theorem ct_X11_clubOf {T : Zt} {p d : Int} : Ct_ yX11_clubOf zX11_clubOf T [vR 111 0, vI p, vI d] (po_X11_clubOf T p d) := sorry
abbrev cX11_register : ByteArray := prog_13_method_24_code
def yX11_register : MethodName := ⟨RX11, "register", "(IIII)I"⟩
def zX11_register : Zm := (RX11, cX11_register, 6, (some .int), { frames := 2, cells := 0, slots := 0, locals := 43 })
abbrev po_X11_register (T : Zt) (p c f t : Int) : Zt → Option Zv → Prop := fun T' r => ∃ x : Int, r = some (vI x) ∧ fr_ [(111, [16]), (217, []), (218, []), (219, []), (220, [])] T T' ∧ (x = -2 ∨ x = -3 ∨ x = -4 ∨ x = -5 ∨ x = T' 111 0 16)
/-- a club has entered -/
def HE_ (T : Zt) (c cl : Int) : Prop := ∃ j, 0 ≤ j ∧ j < T 208 0 c ∧ T 207 0 (12 * c + j) = cl
abbrev cX11_hasEntered : ByteArray := prog_13_method_27_code
def yX11_hasEntered : MethodName := ⟨RX11, "hasEntered", "(II)Z"⟩
def zX11_hasEntered : Zm := (RX11, cX11_hasEntered, 5, (some .boolean), { frames := 0, cells := 0, slots := 0, locals := 0 })
abbrev po_X11_hasEntered (T : Zt) (c cl : Int) : Zt → Option Zv → Prop := fun T' r => T = T' ∧ ∃ x : Int, r = some (vI x) ∧ ((x = 1 ∧ HE_ T c cl) ∨ (x = 0 ∧ ¬ HE_ T c cl))
set_option maxHeartbeats 4000000 in
theorem ct_X11_hasEntered {T : Zt} {c cl : Int} (h1 : 0 ≤ c ∧ c < 4) : Ct_ yX11_hasEntered zX11_hasEntered T [vR 111 0, vI c, vI cl] (po_X11_hasEntered T c cl) := sorry
theorem ph_n : ∀ (m n : Nat) (f : Nat → Nat), (∀ i, i < n → f i < m) → (∀ i j, i < n → j < n → f i = f j → i = j) → n ≤ m := sorry
theorem ph_i {n m : Int} (f : Int → Int) (h0 : 0 ≤ n) (hm : 0 ≤ m) (h : ∀ i, 0 ≤ i → i < n → 0 ≤ f i ∧ f i < m) (g : ∀ i j, 0 ≤ i → i < j → j < n → f i ≠ f j) : n ≤ m := sorry
def EN_ (T : Zt) : Prop := ∀ c : Int, 0 ≤ c → c < 4 → (∀ j : Int, 0 ≤ j → j < T 208 0 c → 0 ≤ T 207 0 (12 * c + j) ∧ T 207 0 (12 * c + j) < T 111 0 12) ∧ (∀ i j : Int, 0 ≤ i → i < j → j < T 208 0 c → T 207 0 (12 * c + i) ≠ T 207 0 (12 * c + j))
theorem EN__f {ws : List (Nat × List Int)} {T T' : Zt} (h : EN_ T) (f : fr_ ws T T') (w : (∀ j, fw_ ws 208 j = false) ∧ (∀ j, fw_ ws 207 j = false) ∧ fw_ ws 111 12 = false ∧ True) : EN_ T' := sorry
abbrev cX11_enter : ByteArray := prog_13_method_28_code
def yX11_enter : MethodName := ⟨RX11, "enter", "(II)I"⟩
def zX11_enter : Zm := (RX11, cX11_enter, 3, (some .int), { frames := 2, cells := 0, slots := 0, locals := 43 })
set_option maxRecDepth 100000 in
theorem cl_X11_340 : cv_ RX11 340 yX11_hasEntered zX11_hasEntered 11 2 := sorry
abbrev po_X11_enter (T : Zt) (c cl : Int) : Zt → Option Zv → Prop := fun T' r => ∃ x : Int, r = some (vI x) ∧ fr_ [(207, []), (208, [])] T T' ∧ (EN_ T')
abbrev cX11_match : ByteArray := prog_13_method_31_code
def yX11_match : MethodName := ⟨RX11, "match", "(II)I"⟩
def zX11_match : Zm := (RX11, cX11_match, 3, (some .int), { frames := 2, cells := 0, slots := 0, locals := 43 })
theorem ds_X11_match_15 : decode cX11_match 15 = .ok (.tableswitch 90 0 6 #[41, 48, 55, 62, 69, 76, 83], 41) := sorry
abbrev po_X11_match (T : Zt) (m w : Int) : Zt → Option Zv → Prop := fun T' r => T = T' ∧ ∃ x : Int, r = some (vI x) ∧ (True)
set_option maxHeartbeats 4000000 in
theorem ct_X11_match {T : Zt} {m w : Int} : Ct_ yX11_match zX11_match T [vR 111 0, vI m, vI w] (po_X11_match T m w) := sorry
abbrev cX11_moved : ByteArray := prog_13_method_37_code
def yX11_moved : MethodName := ⟨RX11, "moved", "(I)I"⟩
def zX11_moved : Zm := (RX11, cX11_moved, 2, (some .int), { frames := 2, cells := 0, slots := 0, locals := 43 })
abbrev po_X11_moved (T : Zt) (k : Int) : Zt → Option Zv → Prop := fun T' r => T = T' ∧ ∃ x : Int, r = some (vI x) ∧ (True)
set_option maxHeartbeats 4000000 in
theorem ct_X11_moved {T : Zt} {k : Int} : Ct_ yX11_moved zX11_moved T [vR 111 0, vI k] (po_X11_moved T k) := sorry
abbrev cX11_officialOf : ByteArray := prog_13_method_128_code
def yX11_officialOf : MethodName := ⟨RX11, "officialOf", "(I)I"⟩
def zX11_officialOf : Zm := (RX11, cX11_officialOf, 2, (some .int), { frames := 2, cells := 0, slots := 0, locals := 43 })
abbrev po_X11_officialOf (T : Zt) (m : Int) : Zt → Option Zv → Prop := fun T' r => T = T' ∧ ∃ x : Int, r = some (vI x) ∧ (True)
set_option maxHeartbeats 4000000 in
theorem ct_X11_officialOf {T : Zt} {m : Int} : Ct_ yX11_officialOf zX11_officialOf T [vR 111 0, vI m] (po_X11_officialOf T m) := sorry
abbrev cX11_count : ByteArray := prog_13_method_129_code
def yX11_count : MethodName := ⟨RX11, "count", "(I)I"⟩
def zX11_count : Zm := (RX11, cX11_count, 2, (some .int), { frames := 0, cells := 0, slots := 0, locals := 0 })
theorem ds_X11_count_1 : decode cX11_count 1 = .ok (.tableswitch 78 0 6 #[43, 48, 53, 58, 63, 68, 73], 43) := sorry
abbrev po_X11_count (T : Zt) (w : Int) : Zt → Option Zv → Prop := fun T' r => T = T' ∧ ∃ x : Int, r = some (vI x) ∧ (True)
set_option maxHeartbeats 4000000 in
theorem ct_X11_count {T : Zt} {w : Int} : Ct_ yX11_count zX11_count T [vR 111 0, vI w] (po_X11_count T w) := sorry
abbrev cX11_cut : ByteArray := prog_13_method_109_code
def yX11_cut : MethodName := ⟨RX11, "cut", "()I"⟩
def zX11_cut : Zm := (RX11, cX11_cut, 1, (some .int), { frames := 0, cells := 0, slots := 0, locals := 0 })
abbrev po_X11_cut (T : Zt) : Zt → Option Zv → Prop := fun T' r => T = T' ∧ ∃ x : Int, r = some (vI x) ∧ (True)
set_option maxHeartbeats 4000000 in
theorem ct_X11_cut {T : Zt} : Ct_ yX11_cut zX11_cut T [vR 111 0] (po_X11_cut T) := sorry
abbrev cX11_drawn : ByteArray := prog_13_method_121_code
def yX11_drawn : MethodName := ⟨RX11, "drawn", "(I)I"⟩
def zX11_drawn : Zm := (RX11, cX11_drawn, 2, (some .int), { frames := 2, cells := 0, slots := 0, locals := 43 })
abbrev cX11_witness : ByteArray := prog_13_method_108_code
def yX11_witness : MethodName := ⟨RX11, "witness", "(I)I"⟩
def zX11_witness : Zm := (RX11, cX11_witness, 2, (some .int), { frames := 2, cells := 0, slots := 0, locals := 43 })
abbrev po_X11_witness (T : Zt) (m : Int) : Zt → Option Zv → Prop := fun T' r => T = T' ∧ ∃ x : Int, r = some (vI x) ∧ (True)
set_option maxHeartbeats 4000000 in
theorem ct_X11_witness {T : Zt} {m : Int} : Ct_ yX11_witness zX11_witness T [vR 111 0, vI m] (po_X11_witness T m) := sorry
abbrev cX11_drawing : ByteArray := prog_13_method_111_code
def yX11_drawing : MethodName := ⟨RX11, "drawing", "(II)I"⟩
def zX11_drawing : Zm := (RX11, cX11_drawing, 4, (some .int), { frames := 1, cells := 0, slots := 0, locals := 22 })
abbrev po_X11_drawing (T : Zt) (g l : Int) : Zt → Option Zv → Prop := fun T' r => ∃ x : Int, r = some (vI x) ∧ fr_ [(111, [98, 99, 100]), (301, []), (302, [])] T T' ∧ ((x = -3 ∧ ¬ (1 ≤ g ∧ g ≤ 4 ∧ 1 ≤ l ∧ l ≤ 3)) ∨ (x = 1 ∧ 1 ≤ g ∧ g ≤ 4 ∧ 1 ≤ l ∧ l ≤ 3))
abbrev cX11_isInDraw : ByteArray := prog_13_method_112_code
def yX11_isInDraw : MethodName := ⟨RX11, "isInDraw", "(I)Z"⟩
def zX11_isInDraw : Zm := (RX11, cX11_isInDraw, 2, (some .boolean), { frames := 0, cells := 0, slots := 0, locals := 0 })
abbrev po_X11_isInDraw (T : Zt) (c : Int) : Zt → Option Zv → Prop := fun T' r => T = T' ∧ ∃ x : Int, r = some (vI x) ∧ ((x = 1 ∧ T 111 0 98 ≠ 0 ∧ T 301 0 c ≠ -1) ∨ (x = 0 ∧ ¬ (T 111 0 98 ≠ 0 ∧ T 301 0 c ≠ -1)))
set_option maxHeartbeats 4000000 in
theorem ct_X11_isInDraw {T : Zt} {c : Int} (h1 : 0 ≤ c ∧ c < 12) : Ct_ yX11_isInDraw zX11_isInDraw T [vR 111 0, vI c] (po_X11_isInDraw T c) := sorry
/-- a match is added -/
def am1_ (T T' : Zt) (c : Int) : Prop := T' 111 0 29 = T 111 0 29 + 1 ∧ (∀ j, j ≠ T 111 0 29 → T' 230 0 j = T 230 0 j ∧ T' 231 0 j = T 231 0 j ∧ T' 232 0 j = T 232 0 j ∧ T' 233 0 j = T 233 0 j ∧ T' 234 0 j = T 234 0 j ∧ T' 235 0 j = T 235 0 j ∧ T' 238 0 j = T 238 0 j ∧ T' 253 0 j = T 253 0 j ∧ T' 255 0 j = T 255 0 j) ∧ T' 230 0 (T 111 0 29) = c ∧ T' 235 0 (T 111 0 29) = 0 ∧ T' 253 0 (T 111 0 29) = -1 ∧ T' 255 0 (T 111 0 29) = -1
/-- matches of c are added -/
def am_ (T T' : Zt) (c : Int) : Prop := T 111 0 29 ≤ T' 111 0 29 ∧ (∀ j, j < T 111 0 29 → T' 230 0 j = T 230 0 j ∧ T' 231 0 j = T 231 0 j ∧ T' 232 0 j = T 232 0 j ∧ T' 233 0 j = T 233 0 j ∧ T' 234 0 j = T 234 0 j ∧ T' 235 0 j = T 235 0 j ∧ T' 238 0 j = T 238 0 j ∧ T' 253 0 j = T 253 0 j ∧ T' 255 0 j = T 255 0 j) ∧ (∀ j, T 111 0 29 ≤ j → j < T' 111 0 29 → T' 230 0 j = c ∧ T' 235 0 j = 0 ∧ T' 253 0 j = -1 ∧ T' 255 0 j = -1)
theorem am_s {T T1 T2 : Zt} {c : Int} (h : am_ T T1 c) (g : am1_ T1 T2 c) : am_ T T2 c := sorry
theorem mb_ {a b A B : Int} (h1 : 0 ≤ a) (h2 : a ≤ A) (h3 : 0 ≤ b) (h4 : b ≤ B) : 0 ≤ a * b ∧ a * b ≤ A * B := sorry
theorem pl_1 {e : Int} (h1 : 2 ≤ e) (h2 : e ≤ 12) : (e + e % 2 - 1) * ((e + e % 2) / 2 - e % 2) = e * (e - 1) / 2 := sorry
abbrev cX11_addMatch : ByteArray := prog_13_method_29_code
def yX11_addMatch : MethodName := ⟨RX11, "addMatch", "(IIIII)V"⟩
def zX11_addMatch : Zm := (RX11, cX11_addMatch, 7, none, { frames := 0, cells := 0, slots := 0, locals := 0 })
abbrev cX11_plan : ByteArray := prog_13_method_30_code
def yX11_plan : MethodName := ⟨RX11, "plan", "(II)I"⟩
def zX11_plan : Zm := (RX11, cX11_plan, 15, (some .int), { frames := 2, cells := 0, slots := 0, locals := 43 })
set_option maxRecDepth 100000 in
theorem cl_X11_346 : cv_ RX11 346 yX11_addMatch zX11_addMatch 11 5 := sorry
def ML_ (T : Zt) : Prop := ∀ c : Int, 0 ≤ c → c < 4 → T 210 0 c + T 211 0 c ≤ T 111 0 29
theorem ML__f {ws : List (Nat × List Int)} {T T' : Zt} (h : ML_ T) (f : fr_ ws T T') (w : (∀ j, fw_ ws 210 j = false) ∧ (∀ j, fw_ ws 211 j = false) ∧ fw_ ws 111 29 = false ∧ True) : ML_ T' := sorry
abbrev cX11_breaks : ByteArray := prog_13_method_32_code
def yX11_breaks : MethodName := ⟨RX11, "breaks", "(II)I"⟩
def zX11_breaks : Zm := (RX11, cX11_breaks, 7, (some .int), { frames := 2, cells := 0, slots := 0, locals := 43 })
abbrev cX11_shareClub : ByteArray := prog_13_method_33_code
def yX11_shareClub : MethodName := ⟨RX11, "shareClub", "(II)Z"⟩
def zX11_shareClub : Zm := (RX11, cX11_shareClub, 3, (some .boolean), { frames := 0, cells := 0, slots := 0, locals := 0 })
abbrev po_X11_shareClub (T : Zt) (a b : Int) : Zt → Option Zv → Prop := fun T' r => T = T' ∧ ∃ x : Int, r = some (vI x) ∧ (0 ≤ x ∧ x ≤ 1)
set_option maxHeartbeats 4000000 in
theorem ct_X11_shareClub {T : Zt} {a b : Int} (h1 : 0 ≤ a ∧ a < 400) (h2 : 0 ≤ b ∧ b < 400) : Ct_ yX11_shareClub zX11_shareClub T [vR 111 0, vI a, vI b] (po_X11_shareClub T a b) := sorry
abbrev cX11_standAgainst : ByteArray := prog_13_method_34_code
def yX11_standAgainst : MethodName := ⟨RX11, "standAgainst", "(II)Z"⟩
def zX11_standAgainst : Zm := (RX11, cX11_standAgainst, 5, (some .boolean), { frames := 1, cells := 0, slots := 0, locals := 22 })
set_option maxRecDepth 100000 in
theorem cl_X11_350 : cv_ RX11 350 yX11_shareClub zX11_shareClub 11 2 := sorry
abbrev po_X11_standAgainst (T : Zt) (a b : Int) : Zt → Option Zv → Prop := fun T' r => T = T' ∧ ∃ x : Int, r = some (vI x) ∧ (0 ≤ x ∧ x ≤ 1)
set_option maxHeartbeats 4000000 in
theorem ct_X11_standAgainst {T : Zt} {a b : Int} (h1 : 0 ≤ a ∧ a < 400) (h2 : 0 ≤ b ∧ b < 400) : Ct_ yX11_standAgainst zX11_standAgainst T [vR 111 0, vI a, vI b] (po_X11_standAgainst T a b) := sorry
abbrev cX11_nothingAgainst : ByteArray := prog_13_method_35_code
def yX11_nothingAgainst : MethodName := ⟨RX11, "nothingAgainst", "(I)Z"⟩
def zX11_nothingAgainst : Zm := (RX11, cX11_nothingAgainst, 4, (some .boolean), { frames := 2, cells := 0, slots := 0, locals := 46 })
set_option maxRecDepth 100000 in
theorem cl_X11_353 : cv_ RX11 353 yX11_standAgainst zX11_standAgainst 11 2 := sorry
abbrev po_X11_nothingAgainst (T : Zt) (m : Int) : Zt → Option Zv → Prop := fun T' r => T = T' ∧ ∃ x : Int, r = some (vI x) ∧ (0 ≤ x ∧ x ≤ 1)
set_option maxHeartbeats 4000000 in
theorem ct_X11_nothingAgainst {T : Zt} {m : Int} (h1 : 0 ≤ m ∧ m < 400) : Ct_ yX11_nothingAgainst zX11_nothingAgainst T [vR 111 0, vI m] (po_X11_nothingAgainst T m) := sorry
abbrev cX11_postpone : ByteArray := prog_13_method_36_code
def yX11_postpone : MethodName := ⟨RX11, "postpone", "(II)I"⟩
def zX11_postpone : Zm := (RX11, cX11_postpone, 9, (some .int), { frames := 3, cells := 0, slots := 0, locals := 69 })
set_option maxRecDepth 100000 in
theorem cl_X11_359 : cv_ RX11 359 yX11_nothingAgainst zX11_nothingAgainst 11 1 := sorry
abbrev po_X11_postpone (T : Zt) (m d : Int) : Zt → Option Zv → Prop := fun T' r => ∃ x : Int, r = some (vI x) ∧ fr_ [(234, []), (271, []), (272, []), (111, [73, 75]), (274, [])] T T' ∧ (x = x)
set_option maxHeartbeats 4000000 in
theorem ct_X11_postpone {T : Zt} {m d : Int} : Ct_ yX11_postpone zX11_postpone T [vR 111 0, vI m, vI d] (po_X11_postpone T m d) := sorry
abbrev cX11_deduct : ByteArray := prog_13_method_38_code
def yX11_deduct : MethodName := ⟨RX11, "deduct", "(III)I"⟩
def zX11_deduct : Zm := (RX11, cX11_deduct, 4, (some .int), { frames := 2, cells := 0, slots := 0, locals := 43 })
abbrev po_X11_deduct (T : Zt) (c cl p : Int) : Zt → Option Zv → Prop := fun T' r => ∃ x : Int, r = some (vI x) ∧ fr_ [(225, []), (226, []), (227, []), (228, []), (111, [24])] T T' ∧ (x = x)
/-- a person is on the sheet -/
def SL_ (T : Zt) (sh p : Int) : Prop := ∃ j, 0 ≤ j ∧ j < T 239 0 sh ∧ T 240 0 (10 * sh + j) = p
theorem SL_f {T T' : Zt} {sh p : Int} (h : SL_ T sh p) (e1 : ∀ j, T' 239 0 j = T 239 0 j) (e2 : ∀ j, T' 240 0 j = T 240 0 j) : SL_ T' sh p := sorry
abbrev cX11_slotOf : ByteArray := prog_13_method_39_code
def yX11_slotOf : MethodName := ⟨RX11, "slotOf", "(II)I"⟩
def zX11_slotOf : Zm := (RX11, cX11_slotOf, 5, (some .int), { frames := 0, cells := 0, slots := 0, locals := 0 })
abbrev po_X11_slotOf (T : Zt) (sh p : Int) : Zt → Option Zv → Prop := fun T' r => T = T' ∧ ∃ x : Int, r = some (vI x) ∧ ((x = -1 ∧ ¬ SL_ T sh p) ∨ (10 * sh ≤ x ∧ x < 10 * sh + 10 ∧ SL_ T sh p ∧ x < 10 * sh + T 239 0 sh))
set_option maxHeartbeats 4000000 in
theorem ct_X11_slotOf {T : Zt} {sh p : Int} (h1 : 0 ≤ sh ∧ sh < 800) : Ct_ yX11_slotOf zX11_slotOf T [vR 111 0, vI sh, vI p] (po_X11_slotOf T sh p) := sorry
abbrev cX11_isAhead : ByteArray := prog_13_method_40_code
def yX11_isAhead : MethodName := ⟨RX11, "isAhead", "(II)Z"⟩
def zX11_isAhead : Zm := (RX11, cX11_isAhead, 3, (some .boolean), { frames := 0, cells := 0, slots := 0, locals := 0 })
abbrev po_X11_isAhead (T : Zt) (a b : Int) : Zt → Option Zv → Prop := fun T' r => T = T' ∧ ∃ x : Int, r = some (vI x) ∧ ((x = 1 ∧ (T 234 0 a < T 234 0 b ∨ (T 234 0 a = T 234 0 b ∧ a < b))) ∨ (x = 0 ∧ ¬ (T 234 0 a < T 234 0 b ∨ (T 234 0 a = T 234 0 b ∧ a < b))))
set_option maxHeartbeats 4000000 in
theorem ct_X11_isAhead {T : Zt} {a b : Int} (h1 : 0 ≤ a ∧ a < 400) (h2 : 0 ≤ b ∧ b < 400) : Ct_ yX11_isAhead zX11_isAhead T [vR 111 0, vI a, vI b] (po_X11_isAhead T a b) := sorry
abbrev cX11_nextMatch : ByteArray := prog_13_method_41_code
def yX11_nextMatch : MethodName := ⟨RX11, "nextMatch", "(III)I"⟩
def zX11_nextMatch : Zm := (RX11, cX11_nextMatch, 7, (some .int), { frames := 1, cells := 0, slots := 0, locals := 22 })
set_option maxRecDepth 100000 in
theorem cl_X11_368 : cv_ RX11 368 yX11_isAhead zX11_isAhead 11 2 := sorry
abbrev po_X11_nextMatch (T : Zt) (c be ah : Int) : Zt → Option Zv → Prop := fun T' r => T = T' ∧ ∃ x : Int, r = some (vI x) ∧ (x = -1 ∨ (T 210 0 c ≤ x ∧ x < (T 210 0 c + T 211 0 c) ∧ (be = -1 ∨ T 234 0 be < T 234 0 x ∨ (T 234 0 be = T 234 0 x ∧ be < x))))
set_option maxHeartbeats 4000000 in
theorem ct_X11_nextMatch {T : Zt} {c be ah : Int} (h1 : 0 ≤ c ∧ c < 4) (h2 : (T 210 0 c + T 211 0 c) ≤ 400) (h3 : -1 ≤ be ∧ be < 400) (h4 : 0 ≤ ah ∧ ah < 400) : Ct_ yX11_nextMatch zX11_nextMatch T [vR 111 0, vI c, vI be, vI ah] (po_X11_nextMatch T c be ah) := sorry
def MC_ (T : Zt) : Prop := ∀ m : Int, 0 ≤ m → m < T 111 0 29 → T 230 0 m < T 111 0 6
theorem MC__f {ws : List (Nat × List Int)} {T T' : Zt} (h : MC_ T) (f : fr_ ws T T') (w : (∀ j, fw_ ws 230 j = false) ∧ fw_ ws 111 29 = false ∧ fw_ ws 111 6 = false ∧ True) : MC_ T' := sorry
abbrev cX11_isBanned : ByteArray := prog_13_method_42_code
def yX11_isBanned : MethodName := ⟨RX11, "isBanned", "(II)Z"⟩
def zX11_isBanned : Zm := (RX11, cX11_isBanned, 10, (some .boolean), { frames := 2, cells := 0, slots := 0, locals := 48 })
set_option maxRecDepth 100000 in
theorem cl_X11_371 : cv_ RX11 371 yX11_nextMatch zX11_nextMatch 11 3 := sorry
set_option maxRecDepth 100000 in
theorem cl_X11_378 : cv_ RX11 378 yX11_slotOf zX11_slotOf 11 2 := sorry
set_option maxRecDepth 100000 in
theorem cl_X11_375 : cv_ RX11 375 yX11_clubOf zX11_clubOf 11 2 := sorry
abbrev po_X11_isBanned (T : Zt) (p x : Int) : Zt → Option Zv → Prop := fun T' r => T = T' ∧ ∃ r9 : Int, r = some (vI r9) ∧ (0 ≤ r9 ∧ r9 ≤ 1)
set_option maxHeartbeats 4000000 in
theorem ct_X11_isBanned {T : Zt} {p x : Int} (h1 : 0 ≤ x ∧ x < T 111 0 29) (hml : ML_ T) (hmc : MC_ T) (hri : RI_ T) : Ct_ yX11_isBanned zX11_isBanned T [vR 111 0, vI p, vI x] (po_X11_isBanned T p x) := sorry
abbrev cX11_isElsewhere : ByteArray := prog_13_method_43_code
def yX11_isElsewhere : MethodName := ⟨RX11, "isElsewhere", "(II)Z"⟩
def zX11_isElsewhere : Zm := (RX11, cX11_isElsewhere, 5, (some .boolean), { frames := 1, cells := 0, slots := 0, locals := 24 })
abbrev po_X11_isElsewhere (T : Zt) (p m : Int) : Zt → Option Zv → Prop := fun T' r => T = T' ∧ ∃ x : Int, r = some (vI x) ∧ (0 ≤ x ∧ x ≤ 1)
set_option maxHeartbeats 4000000 in
theorem ct_X11_isElsewhere {T : Zt} {p m : Int} (h1 : 0 ≤ m ∧ m < 400) : Ct_ yX11_isElsewhere zX11_isElsewhere T [vR 111 0, vI p, vI m] (po_X11_isElsewhere T p m) := sorry
abbrev cX11_whyNot : ByteArray := prog_13_method_44_code
def yX11_whyNot : MethodName := ⟨RX11, "whyNot", "(III)I"⟩
def zX11_whyNot : Zm := (RX11, cX11_whyNot, 4, (some .int), { frames := 3, cells := 0, slots := 0, locals := 77 })
set_option maxRecDepth 100000 in
theorem cl_X11_381 : cv_ RX11 381 yX11_isBanned zX11_isBanned 11 2 := sorry
set_option maxRecDepth 100000 in
theorem cl_X11_384 : cv_ RX11 384 yX11_isElsewhere zX11_isElsewhere 11 2 := sorry
abbrev po_X11_whyNot (T : Zt) (p m sd : Int) : Zt → Option Zv → Prop := fun T' r => T = T' ∧ ∃ x : Int, r = some (vI x) ∧ (0 ≤ x ∧ x ≤ 4)
set_option maxHeartbeats 4000000 in
theorem ct_X11_whyNot {T : Zt} {p m sd : Int} (h1 : 0 ≤ m ∧ m < T 111 0 29) (hml : ML_ T) (hmc : MC_ T) (hri : RI_ T) : Ct_ yX11_whyNot zX11_whyNot T [vR 111 0, vI p, vI m, vI sd] (po_X11_whyNot T p m sd) := sorry
abbrev cX11_eligible : ByteArray := prog_13_method_45_code
def yX11_eligible : MethodName := ⟨RX11, "eligible", "(III)I"⟩
def zX11_eligible : Zm := (RX11, cX11_eligible, 4, (some .int), { frames := 4, cells := 0, slots := 0, locals := 100 })
set_option maxRecDepth 100000 in
theorem cl_X11_387 : cv_ RX11 387 yX11_whyNot zX11_whyNot 11 3 := sorry
abbrev po_X11_eligible (T : Zt) (p m sd : Int) : Zt → Option Zv → Prop := fun T' r => T = T' ∧ ∃ x : Int, r = some (vI x) ∧ (True)
set_option maxHeartbeats 4000000 in
theorem ct_X11_eligible {T : Zt} {p m sd : Int} (hml : ML_ T) (hmc : MC_ T) (hri : RI_ T) : Ct_ yX11_eligible zX11_eligible T [vR 111 0, vI p, vI m, vI sd] (po_X11_eligible T p m sd) := sorry
def SH_ (T : Zt) : Prop := ∀ m s : Int, 0 ≤ m → m < 400 → 0 ≤ s → s ≤ 1 → (m < T 111 0 29 → T 239 0 (2 * m + s) ≤ T 205 0 (23 * T 230 0 m + 9) + 4) ∧ (T 111 0 29 ≤ m → T 239 0 (2 * m + s) = 0)
theorem SH__f {ws : List (Nat × List Int)} {T T' : Zt} (h : SH_ T) (f : fr_ ws T T') (w : (∀ j, fw_ ws 239 j = false) ∧ (∀ j, fw_ ws 205 j = false) ∧ (∀ j, fw_ ws 230 j = false) ∧ fw_ ws 111 29 = false ∧ True) : SH_ T' := sorry
abbrev cX11_lineUp : ByteArray := prog_13_method_46_code
def yX11_lineUp : MethodName := ⟨RX11, "lineUp", "(III)I"⟩
def zX11_lineUp : Zm := (RX11, cX11_lineUp, 6, (some .int), { frames := 4, cells := 0, slots := 0, locals := 100 })
/-- of the scores and the yellow cards only match m's, and only on its sheets, have changed -/
def SO_ (T T1 : Zt) (m : Int) : Prop := (∀ j, j ≠ m → T1 236 0 j = T 236 0 j ∧ T1 237 0 j = T 237 0 j) ∧ ∀ j, ¬ (20 * m ≤ j ∧ j < 20 * m + 20 ∧ j % 10 < T 239 0 (j / 10)) → T1 242 0 j = T 242 0 j
theorem so_r {T : Zt} {m : Int} : SO_ T T m := sorry
theorem so_0 {T T1 T2 : Zt} {m v : Int} (h : SO_ T T1 m) (e : T2 = up_ T1 236 0 m v) : SO_ T T2 m := sorry
theorem so_1 {T T1 T2 : Zt} {m v : Int} (h : SO_ T T1 m) (e : T2 = up_ T1 237 0 m v) : SO_ T T2 m := sorry
theorem so_y {T T1 T2 : Zt} {m v x : Int} (h : SO_ T T1 m) (e : T2 = up_ T1 242 0 x v) (sh : Int) (hx : 2 * m ≤ sh ∧ sh ≤ 2 * m + 1 ∧ 10 * sh ≤ x ∧ x < 10 * sh + 10 ∧ x < 10 * sh + T 239 0 sh) : SO_ T T2 m := sorry
theorem so_f {ws : List (Nat × List Int)} {T T1 T2 : Zt} {m : Int} (h : SO_ T T1 m) (f : fr_ ws T1 T2) (w : (∀ j, fw_ ws 236 j = false) ∧ (∀ j, fw_ ws 237 j = false) ∧ ∀ j, fw_ ws 242 j = false) : SO_ T T2 m := sorry
theorem so_t {T T1 T2 : Zt} {m : Int} (h : SO_ T T1 m) (g : SO_ T1 T2 m) (e : ∀ j, T1 239 0 j = T 239 0 j) : SO_ T T2 m := sorry
/-- match m's scores, and four times its yellow cards, are within b -/
def SB1_ (T : Zt) (m b : Int) : Prop := (0 ≤ T 236 0 m ∧ T 236 0 m ≤ b) ∧ (0 ≤ T 237 0 m ∧ T 237 0 m ≤ b) ∧ ∀ j, 20 * m ≤ j → j < 20 * m + 20 → 0 ≤ T 242 0 j ∧ 4 * T 242 0 j ≤ b
theorem sb1_0 {T T1 : Zt} {m b v : Int} (h : SB1_ T m b) (e : T1 = up_ T 236 0 m v) (hv : 0 ≤ v ∧ v ≤ b) : SB1_ T1 m b := sorry
theorem sb1_1 {T T1 : Zt} {m b v : Int} (h : SB1_ T m b) (e : T1 = up_ T 237 0 m v) (hv : 0 ≤ v ∧ v ≤ b) : SB1_ T1 m b := sorry
theorem sb1_y {T T1 : Zt} {m b v x : Int} (h : SB1_ T m b) (e : T1 = up_ T 242 0 x v) (hv : 0 ≤ v ∧ 4 * v ≤ b) : SB1_ T1 m b := sorry
theorem sb1_f {ws : List (Nat × List Int)} {T T1 : Zt} {m b : Int} (h : SB1_ T m b) (f : fr_ ws T T1) (w : (∀ j, fw_ ws 236 j = false) ∧ (∀ j, fw_ ws 237 j = false) ∧ ∀ j, fw_ ws 242 j = false) : SB1_ T1 m b := sorry
theorem sb1_m {T : Zt} {m b c : Int} (h : SB1_ T m b) (e : b ≤ c) : SB1_ T m c := sorry
/-- every match's scores and cards are within what its rows can have given, but perhaps match x's -/
def GX_ (T : Zt) (x : Int) : Prop := ∀ m, 0 ≤ m → m < 400 → m ≠ x → SB1_ T m (4 * T 254 0 m + 9)
theorem gx_o {T T1 : Zt} {x : Int} (h : GX_ T x) (o : SO_ T T1 x) (s : SB1_ T1 x (4 * T1 254 0 x + 9)) (e : ∀ j, j ≠ x → T1 254 0 j = T 254 0 j) : GX_ T1 (-1) := sorry
theorem gx_x {T : Zt} {x : Int} (h : GX_ T (-1)) : GX_ T x := sorry
theorem gx_f {ws : List (Nat × List Int)} {T T1 : Zt} {x y : Int} (h : GX_ T x) (f : fr_ ws T T1) (w : (∀ j, fw_ ws 236 j = false) ∧ (∀ j, fw_ ws 237 j = false) ∧ ∀ j, fw_ ws 242 j = false) (e : ∀ j, j ≠ y → T1 254 0 j = T 254 0 j) (hy : x = -1 ∨ x = y) : GX_ T1 y := sorry
def ZS_ (T : Zt) : Prop := ∀ j : Int, 0 ≤ j → j < 8000 → T 239 0 (j / 10) ≤ j % 10 → T 242 0 j = 0
theorem ZS__f {ws : List (Nat × List Int)} {T T' : Zt} (h : ZS_ T) (f : fr_ ws T T') (w : (∀ j, fw_ ws 239 j = false) ∧ (∀ j, fw_ ws 242 j = false) ∧ True) : ZS_ T' := sorry
theorem zs_o {T T1 : Zt} {m : Int} (h : ZS_ T) (o : SO_ T T1 m) (e : ∀ j, T1 239 0 j = T 239 0 j) : ZS_ T1 := sorry
def FM_ (T : Zt) : Prop := ∀ m s : Int, 0 ≤ m → m < 400 → 0 ≤ s → s ≤ 1 → T 235 0 m = 1 → 1 ≤ T 244 0 (2 * m + s)
theorem FM__f {ws : List (Nat × List Int)} {T T' : Zt} (h : FM_ T) (f : fr_ ws T T') (w : (∀ j, fw_ ws 235 j = false) ∧ (∀ j, fw_ ws 244 j = false) ∧ True) : FM_ T' := sorry
theorem fm_w {T T1 : Zt} {x v : Int} (h : FM_ T) (e : T1 = up_ T 235 0 x v) (hv : v ≠ 1) : FM_ T1 := sorry
theorem fm_1 {T T1 : Zt} {x : Int} (h : FM_ T) (e : T1 = up_ T 235 0 x 1) (hx : T 235 0 x = 1) : FM_ T1 := sorry
theorem fm_4 {T T1 : Zt} {x : Int} (h : FM_ T) (e : T1 = up_ T 235 0 x 1) (hx : ∀ s, 0 ≤ s → s ≤ 1 → 1 ≤ T 244 0 (2 * x + s)) : FM_ T1 := sorry
theorem fm_f {T T1 : Zt} {x v : Int} (h : FM_ T) (e : T1 = up_ T 244 0 x v) (hv : 1 ≤ v) : FM_ T1 := sorry
theorem fm_3 {T T1 : Zt} {x t : Int} (h : FM_ T) (ht : 0 ≤ t ∧ t ≤ 1) (e1 : ∀ j, j ≠ x → T1 235 0 j = T 235 0 j) (e2 : ∀ j, j ≠ 2 * x + t → T1 244 0 j = T 244 0 j) (g : T1 235 0 x ≠ 1) : FM_ T1 := sorry
abbrev cX11_layBeginning : ByteArray := prog_13_method_47_code
def yX11_layBeginning : MethodName := ⟨RX11, "layBeginning", "(I)V"⟩
def zX11_layBeginning : Zm := (RX11, cX11_layBeginning, 5, none, { frames := 1, cells := 0, slots := 0, locals := 22 })
abbrev po_X11_layBeginning (T : Zt) (m : Int) : Zt → Option Zv → Prop := fun T' r => r = none ∧ fr_ [(244, []), (241, []), (242, []), (243, []), (245, []), (246, []), (236, []), (237, []), (235, [])] T T' ∧ (FM_ T' ∧ SO_ T T' m ∧ SB1_ T' m 9)
set_option maxHeartbeats 4000000 in
theorem ct_X11_layBeginning {T : Zt} {m : Int} (h1 : 0 ≤ m ∧ m < T 111 0 29) (hmc : MC_ T) (hri : RI_ T) (hfm : FM_ T) (hzs : ZS_ T) : Ct_ yX11_layBeginning zX11_layBeginning T [vR 111 0, vI m] (po_X11_layBeginning T m) := sorry
abbrev cX11_start : ByteArray := prog_13_method_48_code
def yX11_start : MethodName := ⟨RX11, "start", "(I)I"⟩
def zX11_start : Zm := (RX11, cX11_start, 3, (some .int), { frames := 2, cells := 0, slots := 0, locals := 46 })
set_option maxRecDepth 100000 in
theorem cl_X11_390 : cv_ RX11 390 yX11_layBeginning zX11_layBeginning 11 1 := sorry
abbrev po_X11_start (T : Zt) (m : Int) : Zt → Option Zv → Prop := fun T' r => ∃ x : Int, r = some (vI x) ∧ fr_ [(244, []), (241, []), (242, []), (243, []), (245, []), (246, []), (236, []), (237, []), (235, [])] T T' ∧ (FM_ T' ∧ ZS_ T' ∧ GX_ T' (-1))
set_option maxHeartbeats 4000000 in
theorem ct_X11_start {T : Zt} {m : Int} (hmc : MC_ T) (hri : RI_ T) (hfm : FM_ T) (hzs : ZS_ T) (hgs : GX_ T (-1)) : Ct_ yX11_start zX11_start T [vR 111 0, vI m] (po_X11_start T m) := sorry
abbrev cX11_walkOver : ByteArray := prog_13_method_49_code
def yX11_walkOver : MethodName := ⟨RX11, "walkOver", "(II)I"⟩
def zX11_walkOver : Zm := (RX11, cX11_walkOver, 3, (some .int), { frames := 2, cells := 0, slots := 0, locals := 43 })
abbrev po_X11_walkOver (T : Zt) (m s : Int) : Zt → Option Zv → Prop := fun T' r => ∃ x : Int, r = some (vI x) ∧ fr_ [(235, []), (236, []), (237, [])] T T' ∧ (FM_ T' ∧ ZS_ T' ∧ GX_ T' (-1))
set_option maxHeartbeats 4000000 in
theorem ct_X11_walkOver {T : Zt} {m s : Int} (hmc : MC_ T) (hri : RI_ T) (hfm : FM_ T) (hzs : ZS_ T) (hgs : GX_ T (-1)) : Ct_ yX11_walkOver zX11_walkOver T [vR 111 0, vI m, vI s] (po_X11_walkOver T m s) := sorry
abbrev cX11_setLive : ByteArray := prog_13_method_51_code
def yX11_setLive : MethodName := ⟨RX11, "setLive", "(III)V"⟩
def zX11_setLive : Zm := (RX11, cX11_setLive, 4, none, { frames := 0, cells := 0, slots := 0, locals := 0 })
abbrev po_X11_setLive (T : Zt) (m k v : Int) : Zt → Option Zv → Prop := fun T' r => r = none ∧ fr_ [(246, [])] T T' ∧ (0 = (0 : Int))
set_option maxHeartbeats 4000000 in
theorem ct_X11_setLive {T : Zt} {m k v : Int} (h1 : 0 ≤ m ∧ m < 400) (h2 : 0 ≤ k ∧ k < 8) : Ct_ yX11_setLive zX11_setLive T [vR 111 0, vI m, vI k, vI v] (po_X11_setLive T m k v) := sorry
abbrev cX11_isKind : ByteArray := prog_13_method_52_code
def yX11_isKind : MethodName := ⟨RX11, "isKind", "(II)Z"⟩
def zX11_isKind : Zm := (RX11, cX11_isKind, 3, (some .boolean), { frames := 1, cells := 0, slots := 0, locals := 22 })
theorem ds_X11_isKind_1 : decode cX11_isKind 1 = .ok (.tableswitch 67 0 2 #[27, 34, 50], 27) := sorry
abbrev po_X11_isKind (T : Zt) (sp k : Int) : Zt → Option Zv → Prop := fun T' r => T = T' ∧ ∃ x : Int, r = some (vI x) ∧ ((x = 1 ∧ ((sp = 0 → 0 ≤ k ∧ k ≤ 5) ∧ (sp = 1 → k = 1 ∨ k = 5))) ∨ x = 0)
set_option maxHeartbeats 4000000 in
theorem ct_X11_isKind {T : Zt} {sp k : Int} : Ct_ yX11_isKind zX11_isKind T [vR 111 0, vI sp, vI k] (po_X11_isKind T sp k) := sorry
abbrev cX11_isTold : ByteArray := prog_13_method_53_code
def yX11_isTold : MethodName := ⟨RX11, "isTold", "(III)Z"⟩
def zX11_isTold : Zm := (RX11, cX11_isTold, 4, (some .boolean), { frames := 2, cells := 0, slots := 0, locals := 44 })
set_option maxRecDepth 100000 in
theorem cl_X11_394 : cv_ RX11 394 yX11_isKind zX11_isKind 11 2 := sorry
abbrev po_X11_isTold (T : Zt) (sp k s : Int) : Zt → Option Zv → Prop := fun T' r => T = T' ∧ ∃ x : Int, r = some (vI x) ∧ ((x = 1 ∧ (((sp = 0 → 0 ≤ k ∧ k ≤ 5) ∧ (sp = 1 → k = 1 ∨ k = 5)) ∧ ((sp = 0 ∧ k = 0) ∨ (0 ≤ s ∧ s ≤ 1)))) ∨ x = 0)
set_option maxHeartbeats 4000000 in
theorem ct_X11_isTold {T : Zt} {sp k s : Int} : Ct_ yX11_isTold zX11_isTold T [vR 111 0, vI sp, vI k, vI s] (po_X11_isTold T sp k s) := sorry
abbrev cX11_isBounded : ByteArray := prog_13_method_54_code
def yX11_isBounded : MethodName := ⟨RX11, "isBounded", "(III)Z"⟩
def zX11_isBounded : Zm := (RX11, cX11_isBounded, 3, (some .boolean), { frames := 1, cells := 0, slots := 0, locals := 22 })
abbrev po_X11_isBounded (T : Zt) (sp k v : Int) : Zt → Option Zv → Prop := fun T' r => T = T' ∧ ∃ x : Int, r = some (vI x) ∧ (0 ≤ x ∧ x ≤ 1)
set_option maxHeartbeats 4000000 in
theorem ct_X11_isBounded {T : Zt} {sp k v : Int} : Ct_ yX11_isBounded zX11_isBounded T [vI sp, vI k, vI v] (po_X11_isBounded T sp k v) := sorry
abbrev cX11_stands : ByteArray := prog_13_method_55_code
def yX11_stands : MethodName := ⟨RX11, "stands", "(IIII)Z"⟩
def zX11_stands : Zm := (RX11, cX11_stands, 6, (some .boolean), { frames := 1, cells := 0, slots := 0, locals := 24 })
abbrev po_X11_stands (T : Zt) (m s p w : Int) : Zt → Option Zv → Prop := fun T' r => T = T' ∧ ∃ x : Int, r = some (vI x) ∧ ((x = 1 ∧ SL_ T (2 * m + s) p) ∨ x = 0)
set_option maxHeartbeats 4000000 in
theorem ct_X11_stands {T : Zt} {m s p w : Int} (h1 : 0 ≤ m ∧ m < 400) (hs : 0 ≤ s ∧ s ≤ 1) : Ct_ yX11_stands zX11_stands T [vR 111 0, vI m, vI s, vI p, vI w] (po_X11_stands T m s p w) := sorry
/-- what the laws have asked of an event -/
def LW_ (T : Zt) (m k s p q : Int) : Prop := T 235 0 m = 1 ∧ (T 205 0 (23 * T 230 0 m + 0) = 0 → 0 ≤ k ∧ k ≤ 5 ∧ (k = 0 ∨ (0 ≤ s ∧ s ≤ 1 ∧ SL_ T (2 * m + s) p)) ∧ (k = 5 → SL_ T (2 * m + s) q)) ∧ (T 205 0 (23 * T 230 0 m + 0) = 1 → (k = 1 ∨ k = 5) ∧ 0 ≤ s ∧ s ≤ 1 ∧ (k = 5 → SL_ T (2 * m + s) p ∧ SL_ T (2 * m + s) q)) ∧ (2 ≤ T 205 0 (23 * T 230 0 m + 0) → 0 ≤ s ∧ s ≤ 1)
theorem LW_f {T T' : Zt} {m k s p q : Int} (h : LW_ T m k s p q) (e : ∀ c j, c = 235 ∨ c = 205 ∨ c = 230 ∨ c = 239 ∨ c = 240 → T' c 0 j = T c 0 j) : LW_ T' m k s p q := sorry
abbrev cX11_lawOf : ByteArray := prog_13_method_56_code
def yX11_lawOf : MethodName := ⟨RX11, "lawOf", "(IIIII)I"⟩
def zX11_lawOf : Zm := (RX11, cX11_lawOf, 9, (some .int), { frames := 3, cells := 0, slots := 0, locals := 67 })
set_option maxRecDepth 100000 in
theorem cl_X11_407 : cs_ RX11 407 yX11_isBounded zX11_isBounded 3 := sorry
set_option maxRecDepth 100000 in
theorem cl_X11_400 : cv_ RX11 400 yX11_liveOf zX11_liveOf 11 2 := sorry
set_option maxRecDepth 100000 in
theorem cl_X11_403 : cv_ RX11 403 yX11_stands zX11_stands 11 4 := sorry
set_option maxRecDepth 100000 in
theorem cl_X11_397 : cv_ RX11 397 yX11_isTold zX11_isTold 11 3 := sorry
abbrev po_X11_lawOf (T : Zt) (m k s p q : Int) : Zt → Option Zv → Prop := fun T' r => T = T' ∧ ∃ x : Int, r = some (vI x) ∧ ((0 ≤ x ∧ x ≤ 7) ∧ (x = 0 → LW_ T m k s p q))
set_option maxHeartbeats 4000000 in
theorem ct_X11_lawOf {T : Zt} {m k s p q : Int} (h1 : 0 ≤ m ∧ m < 400) : Ct_ yX11_lawOf zX11_lawOf T [vR 111 0, vI m, vI k, vI s, vI p, vI q] (po_X11_lawOf T m k s p q) := sorry
abbrev cX11_addScore : ByteArray := prog_13_method_57_code
def yX11_addScore : MethodName := ⟨RX11, "addScore", "(III)V"⟩
def zX11_addScore : Zm := (RX11, cX11_addScore, 4, none, { frames := 0, cells := 0, slots := 0, locals := 0 })
abbrev po_X11_addScore (T : Zt) (bu : Int) (m s v : Int) : Zt → Option Zv → Prop := fun T' r => r = none ∧ fr_ [(236, []), (237, [])] T T' ∧ (SO_ T T' m ∧ SB1_ T' m (bu + 4))
set_option maxHeartbeats 4000000 in
theorem ct_X11_addScore {T : Zt} {bu : Int} {m s v : Int} (h1 : 0 ≤ m ∧ m < 400) (hv : 0 ≤ v ∧ v ≤ 4) (hbu : 9 ≤ bu ∧ bu ≤ 19000) (hsb : SB1_ T m bu) : Ct_ yX11_addScore zX11_addScore T [vR 111 0, vI m, vI s, vI v] (po_X11_addScore T bu m s v) := sorry
abbrev cX11_scoreOf : ByteArray := prog_13_method_58_code
def yX11_scoreOf : MethodName := ⟨RX11, "scoreOf", "(II)I"⟩
def zX11_scoreOf : Zm := (RX11, cX11_scoreOf, 3, (some .int), { frames := 0, cells := 0, slots := 0, locals := 0 })
abbrev po_X11_scoreOf (T : Zt) (m s : Int) : Zt → Option Zv → Prop := fun T' r => T = T' ∧ ∃ x : Int, r = some (vI x) ∧ (0 = (0 : Int))
set_option maxHeartbeats 4000000 in
theorem ct_X11_scoreOf {T : Zt} {m s : Int} (h1 : 0 ≤ m ∧ m < 400) : Ct_ yX11_scoreOf zX11_scoreOf T [vR 111 0, vI m, vI s] (po_X11_scoreOf T m s) := sorry
abbrev cX11_sendOff : ByteArray := prog_13_method_59_code
def yX11_sendOff : MethodName := ⟨RX11, "sendOff", "(III)V"⟩
def zX11_sendOff : Zm := (RX11, cX11_sendOff, 7, none, { frames := 1, cells := 0, slots := 0, locals := 22 })
abbrev po_X11_sendOff (T : Zt) (bu : Int) (m s sl : Int) : Zt → Option Zv → Prop := fun T' r => r = none ∧ fr_ [(243, []), (241, []), (245, []), (244, []), (235, []), (236, []), (237, [])] T T' ∧ (FM_ T' ∧ SO_ T T' m ∧ SB1_ T' m (bu))
set_option maxHeartbeats 4000000 in
theorem ct_X11_sendOff {T : Zt} {bu : Int} {m s sl : Int} (h1 : 0 ≤ m ∧ m < T 111 0 29) (hs : 0 ≤ s ∧ s ≤ 1) (h3 : 0 ≤ sl ∧ sl < 8000) (hmc : MC_ T) (hri : RI_ T) (hfm : FM_ T) (hbu : 9 ≤ bu) (hsb : SB1_ T m bu) : Ct_ yX11_sendOff zX11_sendOff T [vR 111 0, vI m, vI s, vI sl] (po_X11_sendOff T bu m s sl) := sorry
abbrev cX11_substitute : ByteArray := prog_13_method_60_code
def yX11_substitute : MethodName := ⟨RX11, "substitute", "(IIII)V"⟩
def zX11_substitute : Zm := (RX11, cX11_substitute, 9, none, { frames := 1, cells := 0, slots := 0, locals := 24 })
set_option maxRecDepth 100000 in
theorem cl_X11_410 : cv_ RX11 410 yX11_setLive zX11_setLive 11 3 := sorry
abbrev po_X11_substitute (T : Zt) (m s p q : Int) : Zt → Option Zv → Prop := fun T' r => r = none ∧ fr_ [(245, []), (241, []), (246, [])] T T' ∧ (0 = (0 : Int))
set_option maxHeartbeats 4000000 in
theorem ct_X11_substitute {T : Zt} {m s p q : Int} (h1 : 0 ≤ m ∧ m < 400) (hs : 0 ≤ s ∧ s ≤ 1) (hs1 : SL_ T (2 * m + s) p) (hs2 : SL_ T (2 * m + s) q) : Ct_ yX11_substitute zX11_substitute T [vR 111 0, vI m, vI s, vI p, vI q] (po_X11_substitute T m s p q) := sorry
abbrev cX11_playFootball : ByteArray := prog_13_method_61_code
def yX11_playFootball : MethodName := ⟨RX11, "playFootball", "(IIIII)V"⟩
def zX11_playFootball : Zm := (RX11, cX11_playFootball, 7, none, { frames := 2, cells := 0, slots := 0, locals := 52 })
theorem ds_X11_playFootball_1 : decode cX11_playFootball 1 = .ok (.tableswitch 161 0 4 #[35, 73, 83, 95, 141], 35) := sorry
set_option maxRecDepth 100000 in
theorem cl_X11_413 : cv_ RX11 413 yX11_addScore zX11_addScore 11 3 := sorry
set_option maxRecDepth 100000 in
theorem cl_X11_416 : cv_ RX11 416 yX11_sendOff zX11_sendOff 11 3 := sorry
set_option maxRecDepth 100000 in
theorem cl_X11_419 : cv_ RX11 419 yX11_substitute zX11_substitute 11 4 := sorry
abbrev po_X11_playFootball (T : Zt) (bu : Int) (m k s p q : Int) : Zt → Option Zv → Prop := fun T' r => r = none ∧ fr_ [(244, []), (241, []), (242, []), (243, []), (245, []), (246, []), (236, []), (237, []), (235, [])] T T' ∧ (FM_ T' ∧ SO_ T T' m ∧ SB1_ T' m (bu + 4))
set_option maxHeartbeats 4000000 in
theorem ct_X11_playFootball {T : Zt} {bu : Int} {m k s p q : Int} (h1 : 0 ≤ m ∧ m < T 111 0 29) (hmc : MC_ T) (hri : RI_ T) (hfm : FM_ T) (hgo : T 235 0 m = 1) (hk : 0 ≤ k ∧ k ≤ 5) (hs : k = 0 ∨ (0 ≤ s ∧ s ≤ 1)) (hp : k = 0 ∨ SL_ T (2 * m + s) p) (hq : k = 5 → SL_ T (2 * m + s) q) (hbu : 9 ≤ bu ∧ bu ≤ 19000) (hsb : SB1_ T m bu) : Ct_ yX11_playFootball zX11_playFootball T [vR 111 0, vI m, vI k, vI s, vI p, vI q] (po_X11_playFootball T bu m k s p q) := sorry
abbrev cX11_rotate : ByteArray := prog_13_method_62_code
def yX11_rotate : MethodName := ⟨RX11, "rotate", "(I)V"⟩
def zX11_rotate : Zm := (RX11, cX11_rotate, 5, none, { frames := 0, cells := 0, slots := 0, locals := 0 })
abbrev po_X11_rotate (T : Zt) (sh : Int) : Zt → Option Zv → Prop := fun T' r => r = none ∧ fr_ [(245, [])] T T' ∧ (0 = (0 : Int))
set_option maxHeartbeats 4000000 in
theorem ct_X11_rotate {T : Zt} {sh : Int} (h1 : 0 ≤ sh ∧ sh < 800) (h2 : 1 ≤ T 244 0 sh) : Ct_ yX11_rotate zX11_rotate T [vR 111 0, vI sh] (po_X11_rotate T sh) := sorry
abbrev cX11_playVolleyball : ByteArray := prog_13_method_63_code
def yX11_playVolleyball : MethodName := ⟨RX11, "playVolleyball", "(IIIII)V"⟩
def zX11_playVolleyball : Zm := (RX11, cX11_playVolleyball, 9, none, { frames := 2, cells := 0, slots := 0, locals := 52 })
set_option maxRecDepth 100000 in
theorem cl_X11_426 : cv_ RX11 426 yX11_scoreOf zX11_scoreOf 11 2 := sorry
set_option maxRecDepth 100000 in
theorem cl_X11_423 : cv_ RX11 423 yX11_rotate zX11_rotate 11 1 := sorry
abbrev po_X11_playVolleyball (T : Zt) (bu : Int) (m k s p q : Int) : Zt → Option Zv → Prop := fun T' r => r = none ∧ fr_ [(244, []), (241, []), (242, []), (243, []), (245, []), (246, []), (236, []), (237, []), (235, [])] T T' ∧ (FM_ T' ∧ SO_ T T' m ∧ SB1_ T' m (bu + 4))
set_option maxHeartbeats 4000000 in
theorem ct_X11_playVolleyball {T : Zt} {bu : Int} {m k s p q : Int} (h1 : 0 ≤ m ∧ m < T 111 0 29) (hmc : MC_ T) (hri : RI_ T) (hfm : FM_ T) (hgo : T 235 0 m = 1) (hk : k = 1 ∨ k = 5) (hs : 0 ≤ s ∧ s ≤ 1) (hp : k = 5 → SL_ T (2 * m + s) p ∧ SL_ T (2 * m + s) q) (hbu : 9 ≤ bu ∧ bu ≤ 19000) (hsb : SB1_ T m bu) : Ct_ yX11_playVolleyball zX11_playVolleyball T [vR 111 0, vI m, vI k, vI s, vI p, vI q] (po_X11_playVolleyball T bu m k s p q) := sorry
abbrev cX11_playTennis : ByteArray := prog_13_method_64_code
def yX11_playTennis : MethodName := ⟨RX11, "playTennis", "(III)V"⟩
def zX11_playTennis : Zm := (RX11, cX11_playTennis, 8, none, { frames := 1, cells := 0, slots := 0, locals := 23 })
abbrev po_X11_playTennis (T : Zt) (bu : Int) (m k s : Int) : Zt → Option Zv → Prop := fun T' r => r = none ∧ fr_ [(246, []), (236, []), (237, []), (235, [])] T T' ∧ (FM_ T' ∧ SO_ T T' m ∧ SB1_ T' m (bu + 4))
set_option maxHeartbeats 4000000 in
theorem ct_X11_playTennis {T : Zt} {bu : Int} {m k s : Int} (h1 : 0 ≤ m ∧ m < 400) (hs : 0 ≤ s ∧ s ≤ 1) (hfm : FM_ T) (hbu : 9 ≤ bu ∧ bu ≤ 19000) (hsb : SB1_ T m bu) : Ct_ yX11_playTennis zX11_playTennis T [vR 111 0, vI m, vI k, vI s] (po_X11_playTennis T bu m k s) := sorry
abbrev cX11_turnSides : ByteArray := prog_13_method_65_code
def yX11_turnSides : MethodName := ⟨RX11, "turnSides", "(I)V"⟩
def zX11_turnSides : Zm := (RX11, cX11_turnSides, 4, none, { frames := 1, cells := 0, slots := 0, locals := 23 })
abbrev po_X11_turnSides (T : Zt) (m : Int) : Zt → Option Zv → Prop := fun T' r => r = none ∧ fr_ [(246, []), (235, [])] T T' ∧ (FM_ T')
set_option maxHeartbeats 4000000 in
theorem ct_X11_turnSides {T : Zt} {m : Int} (h1 : 0 ≤ m ∧ m < 400) (hfm : FM_ T) : Ct_ yX11_turnSides zX11_turnSides T [vR 111 0, vI m] (po_X11_turnSides T m) := sorry
abbrev cX11_out : ByteArray := prog_13_method_66_code
def yX11_out : MethodName := ⟨RX11, "out", "(I)V"⟩
def zX11_out : Zm := (RX11, cX11_out, 2, none, { frames := 2, cells := 0, slots := 0, locals := 46 })
set_option maxRecDepth 100000 in
theorem cl_X11_429 : cv_ RX11 429 yX11_turnSides zX11_turnSides 11 1 := sorry
abbrev po_X11_out (T : Zt) (m : Int) : Zt → Option Zv → Prop := fun T' r => r = none ∧ fr_ [(246, []), (235, [])] T T' ∧ (FM_ T')
set_option maxHeartbeats 4000000 in
theorem ct_X11_out {T : Zt} {m : Int} (h1 : 0 ≤ m ∧ m < 400) (hfm : FM_ T) : Ct_ yX11_out zX11_out T [vR 111 0, vI m] (po_X11_out T m) := sorry
abbrev cX11_advance : ByteArray := prog_13_method_67_code
def yX11_advance : MethodName := ⟨RX11, "advance", "(IIII)V"⟩
def zX11_advance : Zm := (RX11, cX11_advance, 5, none, { frames := 1, cells := 0, slots := 0, locals := 23 })
abbrev po_X11_advance (T : Zt) (bu : Int) (m s b v : Int) : Zt → Option Zv → Prop := fun T' r => r = none ∧ fr_ [(246, []), (236, []), (237, []), (235, [])] T T' ∧ (FM_ T' ∧ SO_ T T' m ∧ SB1_ T' m (bu + 4))
set_option maxHeartbeats 4000000 in
theorem ct_X11_advance {T : Zt} {bu : Int} {m s b v : Int} (h1 : 0 ≤ m ∧ m < 400) (hfm : FM_ T) (hv : 0 ≤ v ∧ v ≤ 4) (hbu : 9 ≤ bu ∧ bu ≤ 19000) (hsb : SB1_ T m bu) : Ct_ yX11_advance zX11_advance T [vR 111 0, vI m, vI s, vI b, vI v] (po_X11_advance T bu m s b v) := sorry
abbrev cX11_hit : ByteArray := prog_13_method_68_code
def yX11_hit : MethodName := ⟨RX11, "hit", "(III)V"⟩
def zX11_hit : Zm := (RX11, cX11_hit, 8, none, { frames := 2, cells := 0, slots := 0, locals := 47 })
set_option maxRecDepth 100000 in
theorem cl_X11_432 : cv_ RX11 432 yX11_advance zX11_advance 11 4 := sorry
abbrev po_X11_hit (T : Zt) (bu : Int) (m s v : Int) : Zt → Option Zv → Prop := fun T' r => r = none ∧ fr_ [(246, []), (236, []), (237, []), (235, [])] T T' ∧ (FM_ T' ∧ SO_ T T' m ∧ SB1_ T' m (bu + 4))
set_option maxHeartbeats 4000000 in
theorem ct_X11_hit {T : Zt} {bu : Int} {m s v : Int} (h1 : 0 ≤ m ∧ m < 400) (hfm : FM_ T) (hbu : 9 ≤ bu ∧ bu ≤ 19000) (hsb : SB1_ T m bu) : Ct_ yX11_hit zX11_hit T [vR 111 0, vI m, vI s, vI v] (po_X11_hit T bu m s v) := sorry
abbrev cX11_walk : ByteArray := prog_13_method_69_code
def yX11_walk : MethodName := ⟨RX11, "walk", "(II)V"⟩
def zX11_walk : Zm := (RX11, cX11_walk, 5, none, { frames := 2, cells := 0, slots := 0, locals := 47 })
abbrev po_X11_walk (T : Zt) (bu : Int) (m s : Int) : Zt → Option Zv → Prop := fun T' r => r = none ∧ fr_ [(246, []), (236, []), (237, []), (235, [])] T T' ∧ (FM_ T' ∧ SO_ T T' m ∧ SB1_ T' m (bu + 4))
set_option maxHeartbeats 4000000 in
theorem ct_X11_walk {T : Zt} {bu : Int} {m s : Int} (h1 : 0 ≤ m ∧ m < 400) (hfm : FM_ T) (hbu : 9 ≤ bu ∧ bu ≤ 19000) (hsb : SB1_ T m bu) : Ct_ yX11_walk zX11_walk T [vR 111 0, vI m, vI s] (po_X11_walk T bu m s) := sorry
abbrev cX11_playBaseball : ByteArray := prog_13_method_70_code
def yX11_playBaseball : MethodName := ⟨RX11, "playBaseball", "(IIII)V"⟩
def zX11_playBaseball : Zm := (RX11, cX11_playBaseball, 5, none, { frames := 3, cells := 0, slots := 0, locals := 74 })
theorem ds_X11_playBaseball_1 : decode cX11_playBaseball 1 = .ok (.tableswitch 103 1 3 #[27, 38, 71], 27) := sorry
set_option maxRecDepth 100000 in
theorem cl_X11_435 : cv_ RX11 435 yX11_hit zX11_hit 11 3 := sorry
set_option maxRecDepth 100000 in
theorem cl_X11_438 : cv_ RX11 438 yX11_walk zX11_walk 11 2 := sorry
set_option maxRecDepth 100000 in
theorem cl_X11_441 : cv_ RX11 441 yX11_out zX11_out 11 1 := sorry
abbrev po_X11_playBaseball (T : Zt) (bu : Int) (m k s v : Int) : Zt → Option Zv → Prop := fun T' r => r = none ∧ fr_ [(246, []), (236, []), (237, []), (235, [])] T T' ∧ (FM_ T' ∧ SO_ T T' m ∧ SB1_ T' m (bu + 4))
set_option maxHeartbeats 4000000 in
theorem ct_X11_playBaseball {T : Zt} {bu : Int} {m k s v : Int} (h1 : 0 ≤ m ∧ m < 400) (hfm : FM_ T) (hbu : 9 ≤ bu ∧ bu ≤ 19000) (hsb : SB1_ T m bu) : Ct_ yX11_playBaseball zX11_playBaseball T [vR 111 0, vI m, vI k, vI s, vI v] (po_X11_playBaseball T bu m k s v) := sorry
abbrev cX11_play : ByteArray := prog_13_method_71_code
def yX11_play : MethodName := ⟨RX11, "play", "(IIIII)V"⟩
def zX11_play : Zm := (RX11, cX11_play, 6, none, { frames := 4, cells := 0, slots := 0, locals := 98 })
theorem ds_X11_play_11 : decode cX11_play 11 = .ok (.tableswitch 63 0 2 #[25, 39, 53], 25) := sorry
set_option maxRecDepth 100000 in
theorem cl_X11_444 : cv_ RX11 444 yX11_playFootball zX11_playFootball 11 5 := sorry
set_option maxRecDepth 100000 in
theorem cl_X11_447 : cv_ RX11 447 yX11_playVolleyball zX11_playVolleyball 11 5 := sorry
set_option maxRecDepth 100000 in
theorem cl_X11_450 : cv_ RX11 450 yX11_playTennis zX11_playTennis 11 3 := sorry
set_option maxRecDepth 100000 in
theorem cl_X11_453 : cv_ RX11 453 yX11_playBaseball zX11_playBaseball 11 4 := sorry
abbrev po_X11_play (T : Zt) (bu : Int) (m k s p q : Int) : Zt → Option Zv → Prop := fun T' r => r = none ∧ fr_ [(244, []), (241, []), (242, []), (243, []), (245, []), (246, []), (236, []), (237, []), (235, [])] T T' ∧ (FM_ T' ∧ SO_ T T' m ∧ SB1_ T' m (bu + 4))
set_option maxHeartbeats 4000000 in
theorem ct_X11_play {T : Zt} {bu : Int} {m k s p q : Int} (h1 : 0 ≤ m ∧ m < T 111 0 29) (hmc : MC_ T) (hri : RI_ T) (hfm : FM_ T) (hl : LW_ T m k s p q) (hbu : 9 ≤ bu ∧ bu ≤ 19000) (hsb : SB1_ T m bu) : Ct_ yX11_play zX11_play T [vR 111 0, vI m, vI k, vI s, vI p, vI q] (po_X11_play T bu m k s p q) := sorry
/-- a chain of rows -/
def lk_ (T : Zt) : Int → List Int → Prop
  | f, [] => f = -1
  | f, x :: l => f = x ∧ (0 ≤ x ∧ x < 3000) ∧ lk_ T (T 252 0 x) l
theorem lk_e {T T' : Zt} : ∀ {l : List Int} {f : Int}, lk_ T f l → (∀ x ∈ l, T' 252 0 x = T 252 0 x) → lk_ T' f l := sorry
theorem lk_s {T : Zt} {l : List Int} {f i : Int} (h0 : 0 ≤ i) (hi : i < l.length) (h : lk_ T f (l.drop i.toNat)) : (0 ≤ f ∧ f < 3000) ∧ lk_ T (T 252 0 f) (l.drop (i + 1).toNat) := sorry
theorem lk_g {T : Zt} {l : List Int} {f i : Int} (h0 : 0 ≤ i) (hi : i < l.length) (h : lk_ T f (l.drop i.toNat)) : l[i.toNat]? = some f ∧ 0 ≤ f ∧ f < 3000 := sorry
theorem lk_c {T : Zt} {l : List Int} {f : Int} (h : lk_ T f l) (hf : f ≠ -1) : ∃ l', l = f :: l' ∧ (0 ≤ f ∧ f < 3000) ∧ lk_ T (T 252 0 f) l' := sorry
theorem lk_app {T T' : Zt} {x y : Int} (hx : 0 ≤ x ∧ x < 3000) (e1 : T' 252 0 x = -1) (e2 : T' 252 0 y = x) : ∀ {l : List Int} {f : Int}, lk_ T f l → l.Nodup → l.getLast? = some y → (∀ z ∈ l, z ≠ y → T' 252 0 z = T 252 0 z) → lk_ T' f (l ++ [x]) := sorry
theorem lk_del {T T' : Zt} {x p : Int} (e1 : T' 252 0 p = T 252 0 x) : ∀ {i : Nat} {l : List Int} {f : Int}, lk_ T f l → l.Nodup → l[i + 1]? = some x → l[i]? = some p → (∀ z ∈ l, z ≠ p → T' 252 0 z = T 252 0 z) → lk_ T' f (l.eraseIdx (i + 1)) := sorry
def kf_ (b : Int) : Nat := if b = 0 then 253 else 255
def km_ (b : Int) : Nat := if b = 0 then 254 else 256
/-- the rows of the matches: chains, all apart -/
def RB_ (T : Zt) (L : Int → Int → List Int) : Prop :=
  (∀ m b, 0 ≤ m → m < T 111 0 29 → 0 ≤ b → b ≤ 1 → lk_ T (T (kf_ b) 0 m) (L m b) ∧ T (km_ b) 0 m = ((L m b).length : Int)) ∧
  (∀ m b x, x ∈ L m b → 0 ≤ x ∧ x < T 111 0 47) ∧ (∀ m b, (L m b).Nodup) ∧
  (∀ m b m' b' x, x ∈ L m b → x ∈ L m' b' → m = m' ∧ b = b')
/-- and rows that are in no chain -/
def RR_ (T : Zt) (L : Int → Int → List Int) (rest : List Int) : Prop :=
  (∀ x ∈ rest, 0 ≤ x ∧ x < T 111 0 47) ∧ rest.Nodup ∧ (∀ m b x, x ∈ rest → x ∉ L m b)
def RX_ (T : Zt) (rest : List Int) : Prop := ∃ L, RB_ T L ∧ RR_ T L rest
/-- what other pictures keep of it -/
theorem rb_f {T T' : Zt} {L : Int → Int → List Int} (h : RB_ T L) (e29 : T' 111 0 29 = T 111 0 29) (e47 : T' 111 0 47 = T 111 0 47) (e : ∀ k j, k = 252 ∨ k = 253 ∨ k = 254 ∨ k = 255 ∨ k = 256 → T' k 0 j = T k 0 j) : RB_ T' L := sorry
theorem rx_f {T T' : Zt} {rest : List Int} (h : RX_ T rest) (e29 : T' 111 0 29 = T 111 0 29) (e47 : T' 111 0 47 = T 111 0 47) (e : ∀ k j, k = 252 ∨ k = 253 ∨ k = 254 ∨ k = 255 ∨ k = 256 → T' k 0 j = T k 0 j) : RX_ T' rest := sorry
/-- apart, within bounds: so not more than the bound -/
theorem nd_len {l : List Int} {n : Int} (h0 : 0 ≤ n) (h : ∀ x ∈ l, 0 ≤ x ∧ x < n) (d : l.Nodup) : (l.length : Int) ≤ n := sorry
/-- a row is put behind -/
theorem rx_put {T T' : Zt} {m b x : Int} {rest : List Int} {L : Int → Int → List Int} (hb : 0 ≤ b ∧ b ≤ 1) (hm : 0 ≤ m ∧ m < T 111 0 29) (h47 : T 111 0 47 ≤ 3000) (r : RB_ T L) (q : RR_ T L (x :: rest))
    (e29 : T' 111 0 29 = T 111 0 29) (e47 : T' 111 0 47 = T 111 0 47)
    (ef : ∀ m' b', 0 ≤ b' → b' ≤ 1 → ¬ (m' = m ∧ b' = b) → T' (kf_ b') 0 m' = T (kf_ b') 0 m' ∧ T' (km_ b') 0 m' = T (km_ b') 0 m')
    (e1 : T' (km_ b) 0 m = T (km_ b) 0 m + 1) (e3 : T' 252 0 x = -1)
    (e2 : (L m b = [] ∧ T' (kf_ b) 0 m = x ∧ ∀ z, z ≠ x → T' 252 0 z = T 252 0 z) ∨ (T' (kf_ b) 0 m = T (kf_ b) 0 m ∧ ∃ y, (L m b).getLast? = some y ∧ T' 252 0 y = x ∧ ∀ z, z ≠ x → z ≠ y → T' 252 0 z = T 252 0 z)) :
    RX_ T' rest ∧ ∀ z ∈ rest, T' 252 0 z = T 252 0 z := sorry
/-- rows that no match has yet -/
def RZ_ (T : Zt) : Prop := ∀ m, T 111 0 29 ≤ m → m < 400 → T 254 0 m = 0 ∧ T 256 0 m = 0
theorem rx_new {T T' : Zt} (h : RX_ T []) (h0 : 0 ≤ T 111 0 47) (e29 : T' 111 0 29 = T 111 0 29) (e47 : T' 111 0 47 = T 111 0 47 + 1) (e : ∀ k j, k = 252 ∨ k = 253 ∨ k = 254 ∨ k = 255 ∨ k = 256 → T' k 0 j = T k 0 j) : RX_ T' [T 111 0 47] := sorry
theorem rx_take {T T' : Zt} {m : Int} (h : RX_ T []) (hm : 0 ≤ m ∧ m < T 111 0 29) (e29 : T' 111 0 29 = T 111 0 29) (e47 : T' 111 0 47 = T 111 0 47) (en : ∀ z, T' 252 0 z = T 252 0 z) (e3 : ∀ j, j ≠ m → T' 253 0 j = T 253 0 j) (e4 : ∀ j, j ≠ m → T' 254 0 j = T 254 0 j) (e5 : ∀ j, T' 255 0 j = T 255 0 j) (e6 : ∀ j, T' 256 0 j = T 256 0 j) (e1 : T' 253 0 m = -1) (e2 : T' 254 0 m = 0) : ∃ l, RX_ T' l ∧ lk_ T' (T 253 0 m) l := sorry
theorem rx_del {T T' : Zt} {m x : Int} {i : Nat} {L : Int → Int → List Int} (r : RB_ T L) (hm : 0 ≤ m ∧ m < T 111 0 29) (hx : (L m 0)[i]? = some x) (e29 : T' 111 0 29 = T 111 0 29) (e47 : T' 111 0 47 = T 111 0 47)
    (e3 : ∀ j, j ≠ m → T' 253 0 j = T 253 0 j) (e4 : ∀ j, j ≠ m → T' 254 0 j = T 254 0 j) (e5 : ∀ j, T' 255 0 j = T 255 0 j) (e6 : ∀ j, T' 256 0 j = T 256 0 j)
    (e1 : T' 254 0 m = T 254 0 m - 1)
    (e2 : (i = 0 ∧ T' 253 0 m = T 252 0 x ∧ ∀ z, T' 252 0 z = T 252 0 z) ∨ (T' 253 0 m = T 253 0 m ∧ ∃ n p, i = n + 1 ∧ (L m 0)[n]? = some p ∧ T' 252 0 p = T 252 0 x ∧ ∀ z, z ≠ p → T' 252 0 z = T 252 0 z)) : RX_ T' [] := sorry
theorem rx_am {T T' : Zt} (h : RX_ T []) (rz : RZ_ T) (h0 : 0 ≤ T 111 0 29) (hle : T 111 0 29 ≤ T' 111 0 29) (h4 : T' 111 0 29 ≤ 400) (e47 : T' 111 0 47 = T 111 0 47) (en : ∀ z, T' 252 0 z = T 252 0 z) (e4 : ∀ j, T' 254 0 j = T 254 0 j) (e6 : ∀ j, T' 256 0 j = T 256 0 j)
    (eo : ∀ j, j < T 111 0 29 → T' 253 0 j = T 253 0 j ∧ T' 255 0 j = T 255 0 j) (en2 : ∀ j, T 111 0 29 ≤ j → j < T' 111 0 29 → T' 253 0 j = -1 ∧ T' 255 0 j = -1) : RX_ T' [] ∧ RZ_ T' := sorry
theorem rx_nil {T : Zt} {l : List Int} (h : RX_ T l) : RX_ T [] := sorry
abbrev cX11_rowAt : ByteArray := prog_13_method_72_code
def yX11_rowAt : MethodName := ⟨RX11, "rowAt", "(II)I"⟩
def zX11_rowAt : Zm := (RX11, cX11_rowAt, 5, (some .int), { frames := 0, cells := 0, slots := 0, locals := 0 })
abbrev po_X11_rowAt (T : Zt) (l : List Int) (f k : Int) : Zt → Option Zv → Prop := fun T' r => T = T' ∧ ∃ x : Int, r = some (vI x) ∧ l[k.toNat]? = some x ∧ 0 ≤ x ∧ x < 3000
set_option maxHeartbeats 4000000 in
theorem ct_X11_rowAt {T : Zt} {l : List Int} {f k : Int} (hl : lk_ T f l) (hk : 0 ≤ k ∧ k < (l.length : Int)) : Ct_ yX11_rowAt zX11_rowAt T [vR 111 0, vI f, vI k] (po_X11_rowAt T l f k) := sorry
abbrev cX11_putBehind : ByteArray := prog_13_method_73_code
def yX11_putBehind : MethodName := ⟨RX11, "putBehind", "(IIZ)V"⟩
def zX11_putBehind : Zm := (RX11, cX11_putBehind, 5, none, { frames := 1, cells := 0, slots := 0, locals := 24 })
set_option maxRecDepth 100000 in
theorem cl_X11_456 : cv_ RX11 456 yX11_rowAt zX11_rowAt 11 2 := sorry
abbrev po_X11_putBehind_0 (T : Zt) (rest : List Int) (m x : Int) : Zt → Option Zv → Prop := fun T' r => r = none ∧ fr_ [(252, []), (253, []), (254, []), (256, [])] T T' ∧ (RX_ T' rest ∧ (∀ z ∈ rest, T' 252 0 z = T 252 0 z) ∧ T' 254 0 m = T 254 0 m + 1 ∧ (∀ j, j ≠ m → T' 254 0 j = T 254 0 j) ∧ T' 254 0 m ≤ 3000 ∧ ∀ j, j ≠ m → T' 256 0 j = T 256 0 j)
set_option maxHeartbeats 4000000 in
theorem ct_X11_putBehind_0 {T : Zt} {rest : List Int} {m x : Int} (h1 : 0 ≤ m ∧ m < T 111 0 29) (hx : RX_ T (x :: rest)) : Ct_ yX11_putBehind zX11_putBehind T [vR 111 0, vI m, vI x, vI 0] (po_X11_putBehind_0 T rest m x) := sorry
abbrev po_X11_putBehind_1 (T : Zt) (rest : List Int) (m x : Int) : Zt → Option Zv → Prop := fun T' r => r = none ∧ fr_ [(252, []), (255, []), (254, []), (256, [])] T T' ∧ (RX_ T' rest ∧ (∀ z ∈ rest, T' 252 0 z = T 252 0 z) ∧ T' 254 0 m = T 254 0 m + 0 ∧ (∀ j, j ≠ m → T' 254 0 j = T 254 0 j) ∧ T' 254 0 m ≤ 3000 ∧ ∀ j, j ≠ m → T' 256 0 j = T 256 0 j)
set_option maxHeartbeats 4000000 in
theorem ct_X11_putBehind_1 {T : Zt} {rest : List Int} {m x : Int} (h1 : 0 ≤ m ∧ m < T 111 0 29) (hx : RX_ T (x :: rest)) : Ct_ yX11_putBehind zX11_putBehind T [vR 111 0, vI m, vI x, vI 1] (po_X11_putBehind_1 T rest m x) := sorry
abbrev cX11_event : ByteArray := prog_13_method_74_code
def yX11_event : MethodName := ⟨RX11, "event", "(IIIII)I"⟩
def zX11_event : Zm := (RX11, cX11_event, 8, (some .int), { frames := 5, cells := 0, slots := 0, locals := 123 })
set_option maxRecDepth 100000 in
theorem cl_X11_459 : cv_ RX11 459 yX11_lawOf zX11_lawOf 11 5 := sorry
set_option maxRecDepth 100000 in
theorem cl_X11_466 : cv_ RX11 466 yX11_putBehind zX11_putBehind 11 3 := sorry
set_option maxRecDepth 100000 in
theorem cl_X11_470 : cv_ RX11 470 yX11_play zX11_play 11 5 := sorry
abbrev po_X11_event (T : Zt) (m k s p q : Int) : Zt → Option Zv → Prop := fun T' r => ∃ x : Int, r = some (vI x) ∧ fr_ [(111, [47]), (248, []), (249, []), (250, []), (251, []), (252, []), (253, []), (254, []), (256, []), (244, []), (241, []), (242, []), (243, []), (245, []), (246, []), (236, []), (237, []), (235, [])] T T' ∧ (FM_ T' ∧ RX_ T' [] ∧ ZS_ T' ∧ GX_ T' (-1) ∧ ∀ j, j ≠ m ∨ T 111 0 29 ≤ j → T' 254 0 j = T 254 0 j ∧ T' 256 0 j = T 256 0 j)
set_option maxHeartbeats 4000000 in
theorem ct_X11_event {T : Zt} {m k s p q : Int} (hmc : MC_ T) (hri : RI_ T) (hfm : FM_ T) (hrx : RX_ T []) (hzs : ZS_ T) (hgs : GX_ T (-1)) : Ct_ yX11_event zX11_event T [vR 111 0, vI m, vI k, vI s, vI p, vI q] (po_X11_event T m k s p q) := sorry
abbrev cX11_playAnew : ByteArray := prog_13_method_75_code
def yX11_playAnew : MethodName := ⟨RX11, "playAnew", "(I)I"⟩
def zX11_playAnew : Zm := (RX11, cX11_playAnew, 6, (some .int), { frames := 5, cells := 0, slots := 0, locals := 123 })
abbrev po_X11_playAnew (T : Zt) (m : Int) : Zt → Option Zv → Prop := fun T' r => ∃ x : Int, r = some (vI x) ∧ fr_ [(252, []), (253, []), (255, []), (254, []), (256, []), (244, []), (241, []), (242, []), (243, []), (245, []), (246, []), (236, []), (237, []), (235, [])] T T' ∧ (FM_ T' ∧ RX_ T' [] ∧ ZS_ T' ∧ GX_ T' (-1) ∧ ∀ j, j ≠ m → T' 254 0 j = T 254 0 j ∧ T' 256 0 j = T 256 0 j)
set_option maxHeartbeats 4000000 in
theorem ct_X11_playAnew {T : Zt} {m : Int} (h1 : 0 ≤ m ∧ m < T 111 0 29) (hmc : MC_ T) (hri : RI_ T) (hfm : FM_ T) (hrx : RX_ T []) (hzs : ZS_ T) (hgx : GX_ T m) : Ct_ yX11_playAnew zX11_playAnew T [vR 111 0, vI m] (po_X11_playAnew T m) := sorry
abbrev cX11_review : ByteArray := prog_13_method_76_code
def yX11_review : MethodName := ⟨RX11, "review", "(IIIIII)I"⟩
def zX11_review : Zm := (RX11, cX11_review, 9, (some .int), { frames := 6, cells := 0, slots := 0, locals := 148 })
set_option maxRecDepth 100000 in
theorem cl_X11_473 : cv_ RX11 473 yX11_playAnew zX11_playAnew 11 1 := sorry
abbrev po_X11_review (T : Zt) (m i k s p q : Int) : Zt → Option Zv → Prop := fun T' r => ∃ x : Int, r = some (vI x) ∧ fr_ [(252, []), (253, []), (255, []), (254, []), (256, []), (244, []), (241, []), (242, []), (243, []), (245, []), (246, []), (236, []), (237, []), (235, []), (248, []), (249, []), (250, []), (251, [])] T T' ∧ (FM_ T' ∧ RX_ T' [] ∧ ZS_ T' ∧ GX_ T' (-1) ∧ ∀ j, j ≠ m ∨ T 111 0 29 ≤ j → T' 254 0 j = T 254 0 j ∧ T' 256 0 j = T 256 0 j)
set_option maxHeartbeats 4000000 in
theorem ct_X11_review {T : Zt} {m i k s p q : Int} (hmc : MC_ T) (hri : RI_ T) (hfm : FM_ T) (hrx : RX_ T []) (hzs : ZS_ T) (hgs : GX_ T (-1)) : Ct_ yX11_review zX11_review T [vR 111 0, vI m, vI i, vI k, vI s, vI p, vI q] (po_X11_review T m i k s p q) := sorry
abbrev cX11_row : ByteArray := prog_13_method_78_code
def yX11_row : MethodName := ⟨RX11, "row", "(III)I"⟩
def zX11_row : Zm := (RX11, cX11_row, 5, (some .int), { frames := 2, cells := 0, slots := 0, locals := 43 })
abbrev po_X11_row (T : Zt) (m i w : Int) : Zt → Option Zv → Prop := fun T' r => T = T' ∧ ∃ x : Int, r = some (vI x) ∧ (0 = (0 : Int))
set_option maxHeartbeats 4000000 in
theorem ct_X11_row {T : Zt} {m i w : Int} (hrx : RX_ T []) : Ct_ yX11_row zX11_row T [vR 111 0, vI m, vI i, vI w] (po_X11_row T m i w) := sorry
abbrev cX11_rows : ByteArray := prog_13_method_77_code
def yX11_rows : MethodName := ⟨RX11, "rows", "(II)I"⟩
def zX11_rows : Zm := (RX11, cX11_rows, 3, (some .int), { frames := 2, cells := 0, slots := 0, locals := 43 })
abbrev po_X11_rows (T : Zt) (m w : Int) : Zt → Option Zv → Prop := fun T' r => T = T' ∧ ∃ x : Int, r = some (vI x) ∧ (0 = (0 : Int))
set_option maxHeartbeats 4000000 in
theorem ct_X11_rows {T : Zt} {m w : Int} : Ct_ yX11_rows zX11_rows T [vR 111 0, vI m, vI w] (po_X11_rows T m w) := sorry
abbrev cX11_state : ByteArray := prog_13_method_79_code
def yX11_state : MethodName := ⟨RX11, "state", "(II)I"⟩
def zX11_state : Zm := (RX11, cX11_state, 3, (some .int), { frames := 2, cells := 0, slots := 0, locals := 43 })
abbrev po_X11_state (T : Zt) (m w : Int) : Zt → Option Zv → Prop := fun T' r => T = T' ∧ ∃ x : Int, r = some (vI x) ∧ (0 = (0 : Int))
set_option maxHeartbeats 4000000 in
theorem ct_X11_state {T : Zt} {m w : Int} : Ct_ yX11_state zX11_state T [vR 111 0, vI m, vI w] (po_X11_state T m w) := sorry
abbrev cX11_onField : ByteArray := prog_13_method_80_code
def yX11_onField : MethodName := ⟨RX11, "onField", "(III)I"⟩
def zX11_onField : Zm := (RX11, cX11_onField, 5, (some .int), { frames := 2, cells := 0, slots := 0, locals := 43 })
abbrev po_X11_onField (T : Zt) (m s i : Int) : Zt → Option Zv → Prop := fun T' r => T = T' ∧ ∃ x : Int, r = some (vI x) ∧ (0 = (0 : Int))
set_option maxHeartbeats 4000000 in
theorem ct_X11_onField {T : Zt} {m s i : Int} : Ct_ yX11_onField zX11_onField T [vR 111 0, vI m, vI s, vI i] (po_X11_onField T m s i) := sorry
theorem an_nn (x : Int) : 0 ≤ an_ x 2147483647 := sorry
abbrev cX11_lot : ByteArray := prog_13_method_85_code
def yX11_lot : MethodName := ⟨RX11, "lot", "(III)I"⟩
def zX11_lot : Zm := (RX11, cX11_lot, 5, (some .int), { frames := 0, cells := 0, slots := 0, locals := 0 })
abbrev po_X11_lot (T : Zt) (a b c : Int) : Zt → Option Zv → Prop := fun T' r => T = T' ∧ ∃ x : Int, r = some (vI x) ∧ (0 ≤ x ∧ x ≤ 2147483647)
set_option maxHeartbeats 4000000 in
theorem ct_X11_lot {T : Zt} {a b c : Int} : Ct_ yX11_lot zX11_lot T [vI a, vI b, vI c] (po_X11_lot T a b c) := sorry
/-- two clubs are told alike, up to i -/
def EQ_ (T : Zt) (a b i : Int) : Prop := ∀ j, 0 ≤ j → j < i → T 284 0 (3 * a + j) = T 284 0 (3 * b + j)
theorem EQ_t {T : Zt} {a b c i : Int} (h : EQ_ T a b i) (g : EQ_ T b c i) : EQ_ T a c i := sorry
def SB_ (T : Zt) : Prop := ∀ a b i : Int, 0 ≤ a → a < 12 → 0 ≤ b → b < 12 → 0 ≤ i → i < 3 → -2147483648 ≤ T 284 0 (3 * a + i) - T 284 0 (3 * b + i) ∧ T 284 0 (3 * a + i) - T 284 0 (3 * b + i) ≤ 2147483647
theorem SB__f {ws : List (Nat × List Int)} {T T' : Zt} (h : SB_ T) (f : fr_ ws T T') (w : (∀ j, fw_ ws 284 j = false) ∧ True) : SB_ T' := sorry
abbrev cX11_compareClubs : ByteArray := prog_13_method_88_code
def yX11_compareClubs : MethodName := ⟨RX11, "compareClubs", "(II)I"⟩
def zX11_compareClubs : Zm := (RX11, cX11_compareClubs, 5, (some .int), { frames := 0, cells := 0, slots := 0, locals := 0 })
abbrev po_X11_compareClubs (T : Zt) (a b : Int) : Zt → Option Zv → Prop := fun T' r => T = T' ∧ ∃ x : Int, r = some (vI x) ∧ ((-1 ≤ x ∧ x ≤ 1) ∧ ((x = 0 ∧ EQ_ T a b 3) ∨ (x ≠ 0 ∧ ¬ EQ_ T a b 3)))
set_option maxHeartbeats 4000000 in
theorem ct_X11_compareClubs {T : Zt} {a b : Int} (h1 : 0 ≤ a ∧ a < 12) (h2 : 0 ≤ b ∧ b < 12) (hsb : SB_ T) : Ct_ yX11_compareClubs zX11_compareClubs T [vR 111 0, vI a, vI b] (po_X11_compareClubs T a b) := sorry
abbrev cX11_lay : ByteArray := prog_13_method_89_code
def yX11_lay : MethodName := ⟨RX11, "lay", "(III)V"⟩
def zX11_lay : Zm := (RX11, cX11_lay, 4, none, { frames := 0, cells := 0, slots := 0, locals := 0 })
abbrev po_X11_lay (T : Zt) (a b c : Int) : Zt → Option Zv → Prop := fun T' r => r = none ∧ fr_ [(286, []), (111, [87])] T T' ∧ (T' 111 0 87 = T 111 0 87 + 3 ∧ T' 286 0 (T 111 0 87) = a ∧ T' 286 0 (T 111 0 87 + 1) = b ∧ T' 286 0 (T 111 0 87 + 2) = c ∧ ∀ j, j < T 111 0 87 → T' 286 0 j = T 286 0 j)
set_option maxHeartbeats 4000000 in
theorem ct_X11_lay {T : Zt} {a b c : Int} (h1 : T 111 0 87 + 3 ≤ 120) (h2 : 0 ≤ a ∧ a ≤ 12) (h3 : 0 ≤ b ∧ b ≤ 12) (h4 : 0 ≤ c ∧ c ≤ 12) : Ct_ yX11_lay zX11_lay T [vR 111 0, vI a, vI b, vI c] (po_X11_lay T a b c) := sorry
/-- a club is somewhere in the standing -/
def OC_ (T : Zt) (n v : Int) : Prop := ∃ j, 0 ≤ j ∧ j < n ∧ T 277 0 j = v
def OH_ (T : Zt) (n v h w : Int) : Prop := v = w ∨ ∃ j, 0 ≤ j ∧ j < n ∧ j ≠ h ∧ T 277 0 j = v
theorem oc_lt {T : Zt} {n i v : Int} (h : OC_ T n v) (k : ∀ j, 0 ≤ j → j < i → T 277 0 j ≠ v) : i < n := sorry
theorem oc_0 {T : Zt} {n v i : Int} (h : OC_ T n v) : OH_ T n v i (T 277 0 i) := sorry
theorem oc_1 {T T1 : Zt} {n v i w : Int} (h : OH_ T n v i w) (hi : 0 < i ∧ i < n) (e : T1 = up_ T 277 0 i (T 277 0 (i - 1))) : OH_ T1 n v (i - 1) w := sorry
theorem oc_2 {T T1 : Zt} {n v i w : Int} (h : OH_ T n v i w) (hi : 0 ≤ i ∧ i < n) (e : T1 = up_ T 277 0 i w) : OC_ T1 n v := sorry
abbrev cX11_sortPart : ByteArray := prog_13_method_90_code
def yX11_sortPart : MethodName := ⟨RX11, "sortPart", "(II)V"⟩
def zX11_sortPart : Zm := (RX11, cX11_sortPart, 6, none, { frames := 1, cells := 0, slots := 0, locals := 24 })
set_option maxRecDepth 100000 in
theorem cl_X11_511 : cv_ RX11 511 yX11_compareClubs zX11_compareClubs 11 2 := sorry
abbrev po_X11_sortPart (T : Zt) (n : Int) (a b : Int) : Zt → Option Zv → Prop := fun T' r => r = none ∧ fr_ [(277, [])] T T' ∧ (∀ v, OC_ T n v → OC_ T' n v)
set_option maxHeartbeats 4000000 in
theorem ct_X11_sortPart {T : Zt} {n : Int} {a b : Int} (h1 : 0 ≤ a ∧ a < b ∧ b ≤ n ∧ n ≤ 12) (hsb : SB_ T) : Ct_ yX11_sortPart zX11_sortPart T [vR 111 0, vI a, vI b] (po_X11_sortPart T n a b) := sorry
abbrev cX11_placeOf : ByteArray := prog_13_method_93_code
def yX11_placeOf : MethodName := ⟨RX11, "placeOf", "(I)I"⟩
def zX11_placeOf : Zm := (RX11, cX11_placeOf, 3, (some .int), { frames := 0, cells := 0, slots := 0, locals := 0 })
abbrev po_X11_placeOf (T : Zt) (cl : Int) : Zt → Option Zv → Prop := fun T' r => T = T' ∧ ∃ x : Int, r = some (vI x) ∧ (0 = (0 : Int))
set_option maxHeartbeats 4000000 in
theorem ct_X11_placeOf {T : Zt} {cl : Int} (hoc : OC_ T 12 cl) : Ct_ yX11_placeOf zX11_placeOf T [vR 111 0, vI cl] (po_X11_placeOf T cl) := sorry
def SC_ (T : Zt) : Prop := ∀ m : Int, 0 ≤ m → m < 400 → (0 ≤ T 236 0 m ∧ T 236 0 m ≤ 20000) ∧ (0 ≤ T 237 0 m ∧ T 237 0 m ≤ 20000)
theorem SC__f {ws : List (Nat × List Int)} {T T' : Zt} (h : SC_ T) (f : fr_ ws T T') (w : (∀ j, fw_ ws 236 j = false) ∧ (∀ j, fw_ ws 237 j = false) ∧ True) : SC_ T' := sorry
def YB_ (T : Zt) : Prop := ∀ j : Int, 0 ≤ j → j < 8000 → 0 ≤ T 242 0 j ∧ T 242 0 j ≤ 3010
theorem YB__f {ws : List (Nat × List Int)} {T T' : Zt} (h : YB_ T) (f : fr_ ws T T') (w : (∀ j, fw_ ws 242 j = false) ∧ True) : YB_ T' := sorry
theorem sc_g {T : Zt} (h : GX_ T (-1)) (r : ∀ m, 0 ≤ m → m < 400 → T 254 0 m ≤ 3000) : SC_ T := sorry
theorem yb_g {T : Zt} (h : GX_ T (-1)) (r : ∀ m, 0 ≤ m → m < 400 → T 254 0 m ≤ 3000) : YB_ T := sorry
def TB_ (T : Zt) (b : Int) : Prop := ∀ j, 0 ≤ j → j < 108 → -b ≤ T 276 0 j ∧ T 276 0 j ≤ b ∧ (j % 9 = 6 → -b ≤ 20 * T 276 0 j ∧ 20 * T 276 0 j ≤ b)
theorem tb_u {T T1 : Zt} {b i v d : Int} (h : TB_ T b) (e : T1 = up_ T 276 0 i v) (hd : 0 ≤ d) (hv : -(b + d) ≤ v ∧ v ≤ b + d ∧ (i % 9 = 6 → -(b + d) ≤ 20 * v ∧ 20 * v ≤ b + d)) : TB_ T1 (b + d) := sorry
theorem tb_f {T T1 : Zt} {b : Int} (h : TB_ T b) (e : ∀ j, T1 276 0 j = T 276 0 j) : TB_ T1 b := sorry
theorem tb_m {T : Zt} {b d : Int} (h : TB_ T b) (e : b ≤ d) : TB_ T d := sorry
def SA_ (T : Zt) (b : Int) : Prop := ∀ j, 0 ≤ j → j < 36 → -b ≤ T 284 0 j ∧ T 284 0 j ≤ b
theorem sa_u {T T1 : Zt} {b i v d : Int} (h : SA_ T b) (e : T1 = up_ T 284 0 i v) (hd : 0 ≤ d) (hv : -(b + d) ≤ v ∧ v ≤ b + d) : SA_ T1 (b + d) := sorry
theorem sa_f {T T1 : Zt} {b : Int} (h : SA_ T b) (e : ∀ j, T1 284 0 j = T 284 0 j) : SA_ T1 b := sorry
theorem sa_m {T : Zt} {b d : Int} (h : SA_ T b) (e : b ≤ d) : SA_ T d := sorry
abbrev cX11_counts : ByteArray := prog_13_method_81_code
def yX11_counts : MethodName := ⟨RX11, "counts", "(II)Z"⟩
def zX11_counts : Zm := (RX11, cX11_counts, 3, (some .boolean), { frames := 0, cells := 0, slots := 0, locals := 0 })
abbrev po_X11_counts (T : Zt) (m d : Int) : Zt → Option Zv → Prop := fun T' r => ∃ x : Int, r = some (vI x) ∧ fr_ [(111, [82, 83])] T T' ∧ ((0 ≤ x ∧ x ≤ 1) ∧ (x = 1 → (0 ≤ T' 111 0 82 ∧ T' 111 0 82 ≤ 20000) ∧ (0 ≤ T' 111 0 83 ∧ T' 111 0 83 ≤ 20000)))
set_option maxHeartbeats 4000000 in
theorem ct_X11_counts {T : Zt} {m d : Int} (h1 : 0 ≤ m ∧ m < 400) (hsc : SC_ T) : Ct_ yX11_counts zX11_counts T [vR 111 0, vI m, vI d] (po_X11_counts T m d) := sorry
abbrev cX11_tellResult : ByteArray := prog_13_method_82_code
def yX11_tellResult : MethodName := ⟨RX11, "tellResult", "(IIII)V"⟩
def zX11_tellResult : Zm := (RX11, cX11_tellResult, 6, none, { frames := 1, cells := 0, slots := 0, locals := 22 })
abbrev po_X11_tellResult (T : Zt) (bb : Int) (c cl a b : Int) : Zt → Option Zv → Prop := fun T' r => r = none ∧ fr_ [(276, [])] T T' ∧ (TB_ T' (bb + 140000))
set_option maxHeartbeats 4000000 in
theorem ct_X11_tellResult {T : Zt} {bb : Int} {c cl a b : Int} (h1 : 0 ≤ c ∧ c < 4) (h2 : 0 ≤ cl ∧ cl < 12) (h3 : 0 ≤ a ∧ a ≤ 20000) (h4 : 0 ≤ b ∧ b ≤ 20000) (hbb : 0 ≤ bb ∧ bb ≤ 500000000) (htb : TB_ T bb) : Ct_ yX11_tellResult zX11_tellResult T [vR 111 0, vI c, vI cl, vI a, vI b] (po_X11_tellResult T bb c cl a b) := sorry
abbrev cX11_fairOf : ByteArray := prog_13_method_83_code
def yX11_fairOf : MethodName := ⟨RX11, "fairOf", "(I)I"⟩
def zX11_fairOf : Zm := (RX11, cX11_fairOf, 4, (some .int), { frames := 0, cells := 0, slots := 0, locals := 0 })
abbrev po_X11_fairOf (T : Zt) (sh : Int) : Zt → Option Zv → Prop := fun T' r => T = T' ∧ ∃ x : Int, r = some (vI x) ∧ (0 ≤ x ∧ x ≤ 30130)
set_option maxHeartbeats 4000000 in
theorem ct_X11_fairOf {T : Zt} {sh : Int} (h1 : 0 ≤ sh ∧ sh < 800) (hyb : YB_ T) : Ct_ yX11_fairOf zX11_fairOf T [vR 111 0, vI sh] (po_X11_fairOf T sh) := sorry
abbrev cX11_tellAll : ByteArray := prog_13_method_84_code
def yX11_tellAll : MethodName := ⟨RX11, "tellAll", "(II)V"⟩
def zX11_tellAll : Zm := (RX11, cX11_tellAll, 4, none, { frames := 2, cells := 0, slots := 0, locals := 47 })
set_option maxRecDepth 100000 in
theorem cl_X11_487 : cv_ RX11 487 yX11_counts zX11_counts 11 2 := sorry
set_option maxRecDepth 100000 in
theorem cl_X11_490 : cv_ RX11 490 yX11_tellResult zX11_tellResult 11 4 := sorry
set_option maxRecDepth 100000 in
theorem cl_X11_493 : cv_ RX11 493 yX11_fairOf zX11_fairOf 11 1 := sorry
abbrev po_X11_tellAll (T : Zt) (c d : Int) : Zt → Option Zv → Prop := fun T' r => r = none ∧ fr_ [(276, []), (111, [82, 83])] T T' ∧ (TB_ T' 150000000)
set_option maxHeartbeats 4000000 in
theorem ct_X11_tellAll {T : Zt} {c d : Int} (h1 : 0 ≤ c ∧ c < 4) (hml : ML_ T) (hsc : SC_ T) (hyb : YB_ T) : Ct_ yX11_tellAll zX11_tellAll T [vR 111 0, vI c, vI d] (po_X11_tellAll T c d) := sorry
abbrev cX11_sayHead : ByteArray := prog_13_method_86_code
def yX11_sayHead : MethodName := ⟨RX11, "sayHead", "(II)V"⟩
def zX11_sayHead : Zm := (RX11, cX11_sayHead, 7, none, { frames := 1, cells := 0, slots := 0, locals := 22 })
abbrev po_X11_sayHead (T : Zt) (bb : Int) (c d : Int) : Zt → Option Zv → Prop := fun T' r => r = none ∧ fr_ [(284, []), (111, [82, 83])] T T' ∧ (SA_ T' (bb + 48000000))
set_option maxHeartbeats 4000000 in
theorem ct_X11_sayHead {T : Zt} {bb : Int} {c d : Int} (h1 : 0 ≤ c ∧ c < 4) (hml : ML_ T) (hsc : SC_ T) (hbb : 0 ≤ bb ∧ bb ≤ 500000000) (hsa : SA_ T bb) : Ct_ yX11_sayHead zX11_sayHead T [vR 111 0, vI c, vI d] (po_X11_sayHead T bb c d) := sorry
def SN_ (T : Zt) : Prop := ∀ j, 0 ≤ j → j < 36 → 0 ≤ T 284 0 j ∧ T 284 0 j ≤ 2147483647
theorem sb_a {T : Zt} {b : Int} (h : SA_ T b) (hb : b ≤ 1000000000) : SB_ T := sorry
theorem sb_n {T : Zt} (h : SN_ T) : SB_ T := sorry
theorem sa_v {T T1 : Zt} {b i v : Int} (h : SA_ T b) (e : T1 = up_ T 284 0 i v) (hv : -b ≤ v ∧ v ≤ b) : SA_ T1 b := sorry
theorem sn_v {T T1 : Zt} {i v : Int} (h : SN_ T) (e : T1 = up_ T 284 0 i v) (hv : 0 ≤ v ∧ v ≤ 2147483647) : SN_ T1 := sorry
abbrev cX11_say : ByteArray := prog_13_method_87_code
def yX11_say : MethodName := ⟨RX11, "say", "(III)V"⟩
def zX11_say : Zm := (RX11, cX11_say, 7, none, { frames := 2, cells := 0, slots := 0, locals := 48 })
theorem ds_X11_say_77 : decode cX11_say 77 = .ok (.tableswitch 183 (-1) 5 #[43, 65, 96, 117, 138, 183, 160], 43) := sorry
set_option maxRecDepth 100000 in
theorem cl_X11_505 : cs_ RX11 505 yX11_lot zX11_lot 3 := sorry
set_option maxRecDepth 100000 in
theorem cl_X11_502 : cv_ RX11 502 yX11_sayHead zX11_sayHead 11 2 := sorry
abbrev po_X11_say (T : Zt) (c d k : Int) : Zt → Option Zv → Prop := fun T' r => r = none ∧ fr_ [(284, []), (111, [82, 83])] T T' ∧ (SB_ T')
set_option maxHeartbeats 4000000 in
theorem ct_X11_say {T : Zt} {c d k : Int} (h1 : 0 ≤ c ∧ c < 4) (hml : ML_ T) (hsc : SC_ T) (hk : 0 ≤ k ∧ k ≤ 7) (htb : TB_ T 150000000) : Ct_ yX11_say zX11_say T [vR 111 0, vI c, vI d, vI k] (po_X11_say T c d k) := sorry
/-- the weight of a part still to be ordered -/
def wt_ (s k : Int) : Int := 10 * (s * s) + 9 - k
/-- the pile: p parts, their sizes together s, their weights together w -/
def pp_ (T : Zt) (n : Int) : Nat → Int → Int → Prop
  | 0, s, w => s = 0 ∧ w = 0
  | p + 1, s, w => pp_ T n p (s - (T 286 0 (3 * (p : Int) + 1) - T 286 0 (3 * (p : Int)))) (w - wt_ (T 286 0 (3 * (p : Int) + 1) - T 286 0 (3 * (p : Int))) (T 286 0 (3 * (p : Int) + 2))) ∧
      (0 ≤ T 286 0 (3 * (p : Int)) ∧ T 286 0 (3 * (p : Int)) ≤ T 286 0 (3 * (p : Int) + 1) ∧ (T 286 0 (3 * (p : Int)) < T 286 0 (3 * (p : Int) + 1) ∨ p = 0) ∧ T 286 0 (3 * (p : Int) + 1) ≤ n ∧ 0 ≤ T 286 0 (3 * (p : Int) + 2) ∧ T 286 0 (3 * (p : Int) + 2) ≤ 8)
theorem pp_e {T T' : Zt} {n : Int} : ∀ {p : Nat} {s w : Int}, pp_ T n p s w → (∀ j, j < 3 * (p : Int) → T' 286 0 j = T 286 0 j) → pp_ T' n p s w := sorry
theorem pp_s {T T' : Zt} {n a b c : Int} {p : Nat} {s w : Int} (h : pp_ T n p s w) (e : ∀ j, j < 3 * (p : Int) → T' 286 0 j = T 286 0 j) (e1 : T' 286 0 (3 * (p : Int)) = a) (e2 : T' 286 0 (3 * (p : Int) + 1) = b) (e3 : T' 286 0 (3 * (p : Int) + 2) = c) (hb : 0 ≤ a ∧ a ≤ b ∧ (a < b ∨ p = 0) ∧ b ≤ n ∧ 0 ≤ c ∧ c ≤ 8) : pp_ T' n (p + 1) (s + (b - a)) (w + wt_ (b - a) c) := sorry
theorem wt_1 {s k : Int} (h : k ≤ 8) : 1 ≤ wt_ s k := sorry
theorem pp_n {T : Zt} {n : Int} : ∀ {p : Nat} {s w : Int}, pp_ T n p s w → 0 ≤ s ∧ (p : Int) ≤ w ∧ (p : Int) ≤ s + 1 := sorry
/-- two parts weigh less than one -/
theorem wt_2 {x s : Int} (hx : 1 ≤ x) (hs : 1 ≤ s) : 10 * (x * x) + 10 * (s * s) + 20 ≤ 10 * ((x + s) * (x + s)) := sorry
theorem or_b {x y : Int} (hx : 0 ≤ x ∧ x ≤ 4095) (hy : 0 ≤ y ∧ y ≤ 4095) : 0 ≤ or_ x y ∧ or_ x y ≤ 4095 := sorry
theorem sl_b {c : Int} (h : 0 ≤ c ∧ c ≤ 11) : 0 ≤ sl_ 1 c ∧ sl_ 1 c ≤ 4095 := sorry
/-- the pile with its bottom hidden -/
def PQ_ (T : Zt) (n s w : Int) : Prop := ∃ (p : Nat) (w' : Int), T 111 0 87 = 3 * (p : Int) ∧ pp_ T n p s w' ∧ w' ≤ w
/-- one part is taken from the pile -/
theorem pq_p {T U : Zt} {n s w : Int} (h : PQ_ T n s w) (g : 0 < T 111 0 87) (e : ∀ j, U 286 0 j = T 286 0 j) (e2 : U 111 0 87 = T 111 0 87 - 3) :
    PQ_ U n (s - (T 286 0 (T 111 0 87 - 3 + 1) - T 286 0 (T 111 0 87 - 3))) (w - wt_ (T 286 0 (T 111 0 87 - 3 + 1) - T 286 0 (T 111 0 87 - 3)) (T 286 0 (T 111 0 87 - 3 + 2))) ∧
    (0 ≤ T 286 0 (T 111 0 87 - 3) ∧ T 286 0 (T 111 0 87 - 3) ≤ T 286 0 (T 111 0 87 - 3 + 1) ∧ T 286 0 (T 111 0 87 - 3 + 1) ≤ n ∧ 0 ≤ T 286 0 (T 111 0 87 - 3 + 2) ∧ T 286 0 (T 111 0 87 - 3 + 2) ≤ 8) ∧
    1 ≤ wt_ (T 286 0 (T 111 0 87 - 3 + 1) - T 286 0 (T 111 0 87 - 3)) (T 286 0 (T 111 0 87 - 3 + 2)) ∧ 0 ≤ w - wt_ (T 286 0 (T 111 0 87 - 3 + 1) - T 286 0 (T 111 0 87 - 3)) (T 286 0 (T 111 0 87 - 3 + 2)) ∧ 0 ≤ s - (T 286 0 (T 111 0 87 - 3 + 1) - T 286 0 (T 111 0 87 - 3)) ∧ 3 ≤ T 111 0 87 ∧ T 111 0 87 ≤ 3 * (s + 1) := sorry
theorem pp_l {T T3 U : Zt} {n a b q s w2 : Int} {p : Nat} (h : pp_ T n p s w2) (h87 : T 111 0 87 = 3 * (p : Int)) (g : ∀ j, T3 286 0 j = T 286 0 j) (g87 : T3 111 0 87 = T 111 0 87)
    (po : U 111 0 87 = T3 111 0 87 + 3 ∧ U 286 0 (T3 111 0 87) = a ∧ U 286 0 (T3 111 0 87 + 1) = b ∧ U 286 0 (T3 111 0 87 + 2) = q ∧ ∀ j, j < T3 111 0 87 → U 286 0 j = T3 286 0 j)
    (hb : 0 ≤ a ∧ a ≤ b ∧ (a < b ∨ p = 0) ∧ b ≤ n ∧ 0 ≤ q ∧ q ≤ 8) : pp_ U n (p + 1) (s + (b - a)) (w2 + wt_ (b - a) q) := sorry
/-- how far the laying of the parts of [f, t) is -/
def ST_ (A : Prop) (f t k w st w2 : Int) : Prop := (st = f ∧ w2 ≤ w ∧ A) ∨ (f < st ∧ st < t ∧ w2 ≤ w + 10 * ((st - f) * (st - f)) + 9) ∨ (st = t ∧ f < t ∧ w2 ≤ w + wt_ (t - f) k - 1)
theorem st_l {A A' : Prop} {f t k w st w2 i q : Int} (h : ST_ A f t k w st w2) (hk : 0 ≤ k ∧ k ≤ 7) (hq : 0 ≤ q) (hi : f ≤ st ∧ st < i ∧ i ≤ t) (ha : A → i = t → q = k + 1) : ST_ A' f t k w i (w2 + wt_ (i - st) q) := sorry
theorem st_a {A A' : Prop} {f t k w st w2 : Int} (h : ST_ A f t k w st w2) (g : A → A') : ST_ A' f t k w st w2 := sorry
theorem st_z {A : Prop} {f t k w w2 : Int} (h : ST_ A f t k w t w2) (z : f < t) : w2 ≤ w + wt_ (t - f) k - 1 := sorry
theorem EQ_e {T T1 : Zt} {a b i : Int} (e : ∀ j, T1 284 0 j = T 284 0 j) (h : EQ_ T1 a b i) : EQ_ T a b i := sorry
theorem oc_f {T T1 : Zt} {n v : Int} (h : OC_ T n v) (e : ∀ j, T1 277 0 j = T 277 0 j) : OC_ T1 n v := sorry
abbrev cX11_orderPart : ByteArray := prog_13_method_92_code
def yX11_orderPart : MethodName := ⟨RX11, "orderPart", "(IIIII)V"⟩
def zX11_orderPart : Zm := (RX11, cX11_orderPart, 10, none, { frames := 3, cells := 0, slots := 0, locals := 74 })
set_option maxRecDepth 100000 in
theorem cl_X11_520 : cv_ RX11 520 yX11_lay zX11_lay 11 3 := sorry
set_option maxRecDepth 100000 in
theorem cl_X11_526 : cv_ RX11 526 yX11_say zX11_say 11 3 := sorry
set_option maxRecDepth 100000 in
theorem cl_X11_529 : cv_ RX11 529 yX11_sortPart zX11_sortPart 11 2 := sorry
abbrev po_X11_orderPart (T : Zt) (n : Int) (s : Int) (w : Int) (c d f t k : Int) : Zt → Option Zv → Prop := fun T' r => r = none ∧ fr_ [(284, []), (277, []), (286, []), (278, []), (111, [82, 83, 85, 87])] T T' ∧ (PQ_ T' n (s + (t - f)) (w + wt_ (t - f) k - 1) ∧ ∀ v, OC_ T n v → OC_ T' n v)
set_option maxHeartbeats 4000000 in
theorem ct_X11_orderPart {T : Zt} {n : Int} {s : Int} {w : Int} {c d f t k : Int} (h1 : 0 ≤ c ∧ c < 4) (hml : ML_ T) (hsc : SC_ T) (hk : 0 ≤ k ∧ k ≤ 7) (htb : TB_ T 150000000) (hft : 0 ≤ f ∧ f + 2 ≤ t ∧ t ≤ n ∧ n ≤ 12 ∧ s + (t - f) ≤ n) (hpq : PQ_ T n s w) : Ct_ yX11_orderPart zX11_orderPart T [vR 111 0, vI c, vI d, vI f, vI t, vI k] (po_X11_orderPart T n s w c d f t k) := sorry
theorem pq_3 {T : Zt} {n s w : Int} (h : PQ_ T n s w) (g : 0 < T 111 0 87) : 3 ≤ T 111 0 87 := sorry
theorem oc_m {T : Zt} {n k v : Int} (h : OC_ T n v) (e : n ≤ k) : OC_ T k v := sorry
abbrev cX11_orderAll : ByteArray := prog_13_method_91_code
def yX11_orderAll : MethodName := ⟨RX11, "orderAll", "(II)V"⟩
def zX11_orderAll : Zm := (RX11, cX11_orderAll, 6, none, { frames := 4, cells := 0, slots := 0, locals := 103 })
set_option maxRecDepth 100000 in
theorem cl_X11_523 : cv_ RX11 523 yX11_orderPart zX11_orderPart 11 5 := sorry
set_option maxRecDepth 100000 in
theorem cl_X11_514 : cv_ RX11 514 yX11_tellAll zX11_tellAll 11 2 := sorry
abbrev po_X11_orderAll (T : Zt) (c d : Int) : Zt → Option Zv → Prop := fun T' r => r = none ∧ fr_ [(276, []), (284, []), (277, []), (286, []), (278, []), (111, [82, 83, 85, 87, 79])] T T' ∧ (TB_ T' 150000000 ∧ ∀ v, HE_ T c v → OC_ T' 12 v)
set_option maxHeartbeats 4000000 in
theorem ct_X11_orderAll {T : Zt} {c d : Int} (h1 : 0 ≤ c ∧ c < T 111 0 6) (hri : RI_ T) (hml : ML_ T) (hsc : SC_ T) (hyb : YB_ T) : Ct_ yX11_orderAll zX11_orderAll T [vR 111 0, vI c, vI d] (po_X11_orderAll T c d) := sorry
abbrev cX11_table : ByteArray := prog_13_method_94_code
def yX11_table : MethodName := ⟨RX11, "table", "(IIII)I"⟩
def zX11_table : Zm := (RX11, cX11_table, 5, (some .int), { frames := 5, cells := 0, slots := 0, locals := 128 })
set_option maxRecDepth 100000 in
theorem cl_X11_532 : cv_ RX11 532 yX11_orderAll zX11_orderAll 11 2 := sorry
set_option maxRecDepth 100000 in
theorem cl_X11_535 : cv_ RX11 535 yX11_placeOf zX11_placeOf 11 1 := sorry
abbrev po_X11_table (T : Zt) (c d cl w : Int) : Zt → Option Zv → Prop := fun T' r => ∃ x : Int, r = some (vI x) ∧ fr_ [(276, []), (284, []), (277, []), (286, []), (278, []), (111, [82, 83, 85, 87, 79])] T T' ∧ (True)
set_option maxHeartbeats 4000000 in
theorem ct_X11_table {T : Zt} {c d cl w : Int} (hri : RI_ T) (hml : ML_ T) (hsc : SC_ T) (hyb : YB_ T) : Ct_ yX11_table zX11_table T [vR 111 0, vI c, vI d, vI cl, vI w] (po_X11_table T c d cl w) := sorry
abbrev cX11_standing : ByteArray := prog_13_method_95_code
def yX11_standing : MethodName := ⟨RX11, "standing", "(III)I"⟩
def zX11_standing : Zm := (RX11, cX11_standing, 4, (some .int), { frames := 5, cells := 0, slots := 0, locals := 128 })
abbrev po_X11_standing (T : Zt) (c d k : Int) : Zt → Option Zv → Prop := fun T' r => ∃ x : Int, r = some (vI x) ∧ fr_ [(276, []), (284, []), (277, []), (286, []), (278, []), (111, [82, 83, 85, 87, 79])] T T' ∧ (True)
set_option maxHeartbeats 4000000 in
theorem ct_X11_standing {T : Zt} {c d k : Int} (hri : RI_ T) (hml : ML_ T) (hsc : SC_ T) (hyb : YB_ T) : Ct_ yX11_standing zX11_standing T [vR 111 0, vI c, vI d, vI k] (po_X11_standing T c d k) := sorry
abbrev cX11_parted : ByteArray := prog_13_method_96_code
def yX11_parted : MethodName := ⟨RX11, "parted", "(III)I"⟩
def zX11_parted : Zm := (RX11, cX11_parted, 4, (some .int), { frames := 5, cells := 0, slots := 0, locals := 128 })
abbrev po_X11_parted (T : Zt) (c d k : Int) : Zt → Option Zv → Prop := fun T' r => ∃ x : Int, r = some (vI x) ∧ fr_ [(276, []), (284, []), (277, []), (286, []), (278, []), (111, [82, 83, 85, 87, 79])] T T' ∧ (True)
set_option maxHeartbeats 4000000 in
theorem ct_X11_parted {T : Zt} {c d k : Int} (hri : RI_ T) (hml : ML_ T) (hsc : SC_ T) (hyb : YB_ T) : Ct_ yX11_parted zX11_parted T [vR 111 0, vI c, vI d, vI k] (po_X11_parted T c d k) := sorry
theorem i3_n {x : Int} (h : 0 ≤ x ∧ x ≤ 2147483647) : (Int32.ofInt x).toBitVec.toNat = x.toNat := sorry
theorem bv_i {b : BitVec 32} (h : b.toNat < 2147483648) : b.toInt = (b.toNat : Int) := sorry
theorem an_n {x y : Int} (hx : 0 ≤ x ∧ x ≤ 2147483647) (hy : 0 ≤ y ∧ y ≤ 2147483647) : an_ x y = ((x.toNat &&& y.toNat : Nat) : Int) := sorry
theorem or_n {x y : Int} (hx : 0 ≤ x ∧ x ≤ 2147483647) (hy : 0 ≤ y ∧ y ≤ 2147483647) : or_ x y = ((x.toNat ||| y.toNat : Nat) : Int) := sorry
theorem sh_31 {k : Int} (h : 0 ≤ k ∧ k < 32) : (Int32.ofInt k &&& 31) = Int32.ofInt k := sorry
theorem sr_n {x k : Int} (hx : 0 ≤ x ∧ x ≤ 2147483647) (hk : 0 ≤ k ∧ k < 32) : sr_ x k = ((x.toNat >>> k.toNat : Nat) : Int) := sorry
/-- a bit of a number -/
def bt_ (s k : Nat) : Int := if s.testBit k then 1 else 0
theorem bt_01 (s k : Nat) : bt_ s k = 0 ∨ bt_ s k = 1 := sorry
theorem bt_n {x k : Int} (hx : 0 ≤ x ∧ x ≤ 2147483647) (hk : 0 ≤ k ∧ k < 32) : an_ (sr_ x k) 1 = bt_ x.toNat k.toNat := sorry
theorem bt_or (s t k : Nat) : bt_ (s ||| t) k = bt_ s k + bt_ t k - bt_ s k * bt_ t k := sorry
theorem bt_and (s t k : Nat) : bt_ (s &&& t) k = bt_ s k * bt_ t k := sorry
/-- a sum over the members below n -/
def sp_ (f : Nat → Int) (s : Nat) : Nat → Int
  | 0 => 0
  | n + 1 => sp_ f s n + bt_ s n * f n
/-- how many of the pairs lie within a set -/
def ed_ (s : Nat) : List (Nat × Nat) → Int
  | [] => 0
  | p :: l => bt_ s p.1 * bt_ s p.2 + ed_ s l
def vs_ (f : Nat → Int) (l : List (Nat × Nat)) (s : Nat) : Int := sp_ f s 12 - 2 * ed_ s l
/-- what a pair's way changes -/
def ch_ (s a b : Nat) (w : Int) : Int := 2 * bt_ s a * bt_ s b - (2 - w) * bt_ s a - w * bt_ s b
theorem ch_c (s a b : Nat) (w : Int) : (bt_ s a = bt_ s b ∧ ch_ s a b w = 0) ∨ (bt_ s a = 1 ∧ bt_ s b = 0 ∧ ch_ s a b w = w - 2) ∨ (bt_ s a = 0 ∧ bt_ s b = 1 ∧ ch_ s a b w = -w) := sorry
theorem sp_m (f : Nat → Int) (s t : Nat) : ∀ n, sp_ f (s ||| t) n + sp_ f (s &&& t) n = sp_ f s n + sp_ f t n := sorry
theorem ed_m (s t : Nat) : ∀ l, ed_ s l + ed_ t l ≤ ed_ (s ||| t) l + ed_ (s &&& t) l := sorry
theorem vs_2 {f : Nat → Int} {l : List (Nat × Nat)} {a b s t : Nat} (h : ∀ u, u = s ||| t ∨ u = s &&& t → 0 ≤ vs_ f ((a, b) :: l) u) (s1 : bt_ s a = 1) (s2 : bt_ s b = 0) (t1 : bt_ t a = 0) (t2 : bt_ t b = 1) : 2 ≤ vs_ f ((a, b) :: l) s + vs_ f ((a, b) :: l) t := sorry
/-- for any pair some way goes -/
theorem vs_w {f : Nat → Int} {l : List (Nat × Nat)} {a b : Nat} {P : Nat → Prop} (hu : ∀ s t, P s → P t → P (s ||| t) ∧ P (s &&& t)) (h : ∀ s, P s → 0 ≤ vs_ f ((a, b) :: l) s)
    {s0 s1 s2 : Nat} (p0 : P s0) (p1 : P s1) (p2 : P s2) (h0 : vs_ f ((a, b) :: l) s0 + ch_ s0 a b 0 < 0) (h1 : vs_ f ((a, b) :: l) s1 + ch_ s1 a b 1 < 0) (h2 : vs_ f ((a, b) :: l) s2 + ch_ s2 a b 2 < 0) : False := sorry
/-- the spare after a way is taken -/
def fw2_ (f : Nat → Int) (a b : Nat) (w : Int) : Nat → Int := fun k => f k - (if k = a then 2 - w else 0) - (if k = b then w else 0)
theorem sp_w (f : Nat → Int) (s a b : Nat) (w : Int) : ∀ n, sp_ (fw2_ f a b w) s n = sp_ f s n - (if a < n then bt_ s a * (2 - w) else 0) - (if b < n then bt_ s b * w else 0) := sorry
theorem vs_s {f : Nat → Int} {l : List (Nat × Nat)} {a b s : Nat} {w : Int} (ha : a < 12) (hb : b < 12) : vs_ (fw2_ f a b w) l s = vs_ f ((a, b) :: l) s + ch_ s a b w := sorry
theorem bt_low {s lo : Nat} (h1 : bt_ s lo = 1) (h0 : ∀ j, j < lo → bt_ s j = 0) (k : Nat) : bt_ (s &&& (s - 1)) k = if k = lo then 0 else bt_ s k := sorry
theorem sp_low {f : Nat → Int} {s t lo : Nat} (e : ∀ k, bt_ t k = if k = lo then 0 else bt_ s k) (h1 : bt_ s lo = 1) : ∀ n, sp_ f s n = sp_ f t n + (if lo < n then f lo else 0) := sorry
/-- a sum over the members from lo on, below n -/
def su_ (g : Nat → Int) (s lo : Nat) : Nat → Int
  | 0 => 0
  | n + 1 => su_ g s lo n + (if lo ≤ n then bt_ s n * g n else 0)
/-- how many of the pairs are these two -/
def cb_ (a b : Nat) : List (Nat × Nat) → Int
  | [] => 0
  | p :: l => (if (p.1 = a ∧ p.2 = b) ∨ (p.1 = b ∧ p.2 = a) then 1 else 0) + cb_ a b l
theorem su_0 (s lo : Nat) : ∀ n, su_ (fun _ => 0) s lo n = 0 := sorry
theorem su_a (g h : Nat → Int) (s lo : Nat) : ∀ n, su_ (fun k => g k + h k) s lo n = su_ g s lo n + su_ h s lo n := sorry
theorem su_1 (s lo c : Nat) : ∀ n, su_ (fun k => if k = c then 1 else 0) s lo n = if lo ≤ c ∧ c < n then bt_ s c else 0 := sorry
theorem su_e {g h : Nat → Int} {s lo : Nat} (e : ∀ k, lo ≤ k → g k = h k) : ∀ n, su_ g s lo n = su_ h s lo n := sorry
theorem ed_low {s t lo : Nat} (e : ∀ k, bt_ t k = if k = lo then 0 else bt_ s k) (h1 : bt_ s lo = 1) (h0 : ∀ j, j < lo → bt_ s j = 0) (hl : lo < 12) : ∀ l : List (Nat × Nat), (∀ p ∈ l, p.1 ≠ p.2 ∧ p.1 < 12 ∧ p.2 < 12) → ed_ s l = ed_ t l + su_ (fun k => cb_ lo k l) s (lo + 1) 12 := sorry
theorem vs_low {f : Nat → Int} {l : List (Nat × Nat)} {s lo : Nat} (h1 : bt_ s lo = 1) (h0 : ∀ j, j < lo → bt_ s j = 0) (hl : lo < 12) (h : ∀ p ∈ l, p.1 ≠ p.2 ∧ p.1 < 12 ∧ p.2 < 12) : vs_ f l s = vs_ f l (s &&& (s - 1)) + f lo - 2 * su_ (fun k => cb_ lo k l) s (lo + 1) 12 := sorry
theorem sp_b {f : Nat → Int} {s : Nat} {F : Int} (hF : 0 ≤ F) (h : ∀ k, k < 12 → -F ≤ f k ∧ f k ≤ F) : ∀ n, n ≤ 12 → -(n * F) ≤ sp_ f s n ∧ sp_ f s n ≤ n * F := sorry
theorem ed_b (s : Nat) : ∀ l : List (Nat × Nat), 0 ≤ ed_ s l ∧ ed_ s l ≤ l.length := sorry
theorem vs_b {f : Nat → Int} {l : List (Nat × Nat)} {F : Int} (hF : 0 ≤ F) (h : ∀ k, k < 12 → -F ≤ f k ∧ f k ≤ F) (s : Nat) : -(12 * F) - 2 * l.length ≤ vs_ f l s ∧ vs_ f l s ≤ 12 * F := sorry
theorem cb_b (a b : Nat) : ∀ l : List (Nat × Nat), 0 ≤ cb_ a b l ∧ cb_ a b l ≤ l.length := sorry
theorem cb_s (a b : Nat) (p : Nat × Nat) : ∀ l : List (Nat × Nat), cb_ a b (l ++ [p]) = cb_ a b l + (if (p.1 = a ∧ p.2 = b) ∨ (p.1 = b ∧ p.2 = a) then 1 else 0) := sorry
/-- the pairs of the matches still left, from m on, that another club than cl plays -/
def plf_ (T : Zt) (cl : Int) : Nat → Int → List (Nat × Nat)
  | 0, _ => []
  | n + 1, m => (if (T 235 0 m = 0 ∨ T 235 0 m = 1) ∧ T 232 0 m ≠ cl ∧ T 233 0 m ≠ cl ∧ T 232 0 m ≠ T 233 0 m then [((T 232 0 m).toNat, (T 233 0 m).toNat)] else []) ++ plf_ T cl n (m + 1)
theorem plf_s (T : Zt) (cl : Int) : ∀ (n : Nat) (m : Int), plf_ T cl (n + 1) m = plf_ T cl n m ++ (if (T 235 0 (m + n) = 0 ∨ T 235 0 (m + n) = 1) ∧ T 232 0 (m + n) ≠ cl ∧ T 233 0 (m + n) ≠ cl ∧ T 232 0 (m + n) ≠ T 233 0 (m + n) then [((T 232 0 (m + n)).toNat, (T 233 0 (m + n)).toNat)] else []) := sorry
theorem plf_b {T : Zt} {cl : Int} : ∀ (n : Nat) (m : Int), (∀ j, m ≤ j → j < m + n → (0 ≤ T 232 0 j ∧ T 232 0 j ≤ 11) ∧ (0 ≤ T 233 0 j ∧ T 233 0 j ≤ 11)) → ∀ p ∈ plf_ T cl n m, p.1 ≠ p.2 ∧ p.1 < 12 ∧ p.2 < 12 := sorry
theorem plf_n (T : Zt) (cl : Int) : ∀ (n : Nat) (m : Int), (plf_ T cl n m).length ≤ n := sorry
/-- the slack of every set of others: a sum less its pairs twice, nowhere below 0 -/
def SVE_ (T : Zt) (o : Int) (l : List (Nat × Nat)) : Prop := ∃ f : Nat → Int, ∀ s : Int, 0 ≤ s → s < 4096 → an_ s o = s → T 296 0 s = vs_ f l s.toNat ∧ 0 ≤ T 296 0 s ∧ T 296 0 s ≤ 1000000000
def SW_ (T : Zt) (o a b : Int) (l : List (Nat × Nat)) : Prop := (a ≠ b → SVE_ T o ((a.toNat, b.toNat) :: l)) ∧ (a = b → SVE_ T o l)
def NW_ (T : Zt) (o a b w : Int) : Prop := ∃ s : Int, 1 ≤ s ∧ s < 4096 ∧ an_ s o = s ∧ T 296 0 s + ch_ s.toNat a.toNat b.toNat w < 0
theorem an_z {s o : Int} (ho : 0 ≤ o ∧ o ≤ 4095) (hs : 0 ≤ s ∧ s < 4096) : an_ s o = s ↔ s.toNat &&& o.toNat = s.toNat := sorry
theorem sw_n {T : Zt} {o a b : Int} {l : List (Nat × Nat)} (h : SW_ T o a b l) (ho : 0 ≤ o ∧ o ≤ 4095) (h0 : NW_ T o a b 0) (h1 : NW_ T o a b 1) (h2 : NW_ T o a b 2) : False := sorry
theorem ch_b (s a b : Nat) {w : Int} (hw : 0 ≤ w ∧ w ≤ 2) : -2 ≤ ch_ s a b w ∧ ch_ s a b w ≤ 0 := sorry
theorem ch_0 (a b : Nat) (w : Int) : ch_ 0 a b w = 0 := sorry
theorem sw_p {T T1 : Zt} {o a b w : Int} {l : List (Nat × Nat)} (h : SW_ T o a b l) (ha : 0 ≤ a ∧ a < 12) (hb : 0 ≤ b ∧ b < 12) (hw : 0 ≤ w ∧ w ≤ 2)
    (ok : ∀ s, 1 ≤ s → s < 4096 → an_ s o = s → 0 ≤ T 296 0 s + ch_ s.toNat a.toNat b.toNat w)
    (up : ∀ s, 1 ≤ s → s < 4096 → an_ s o = s → T1 296 0 s = T 296 0 s + ch_ s.toNat a.toNat b.toNat w) (u0 : T1 296 0 0 = T 296 0 0) : SVE_ T1 o l := sorry
theorem sve_e {T T1 : Zt} {o : Int} {l : List (Nat × Nat)} (h : SVE_ T o l) (e : ∀ j, T1 296 0 j = T 296 0 j) : SVE_ T1 o l := sorry
theorem plf_e {T T1 : Zt} {cl : Int} (a : ∀ j, T1 235 0 j = T 235 0 j) (b : ∀ j, T1 232 0 j = T 232 0 j) (c : ∀ j, T1 233 0 j = T 233 0 j) : ∀ (n : Nat) (m : Int), plf_ T1 cl n m = plf_ T cl n m := sorry
/-- between two clubs stand as many as the pairs say -/
def BW_ (T : Zt) (l : List (Nat × Nat)) : Prop := ∀ x y : Int, 0 ≤ x → x < 12 → 0 ≤ y → y < 12 → x ≠ y → T 294 0 (12 * x + y) = cb_ x.toNat y.toNat l
theorem bw_s {T T1 T2 : Zt} {l : List (Nat × Nat)} {h a : Int} (w : BW_ T l) (hh : 0 ≤ h ∧ h ≤ 11) (ha : 0 ≤ a ∧ a ≤ 11) (e1 : T1 = up_ T 294 0 (12 * h + a) (T 294 0 (12 * h + a) + 1)) (e2 : T2 = up_ T1 294 0 (12 * a + h) (T1 294 0 (12 * a + h) + 1)) (ne : h ≠ a) : BW_ T2 (l ++ [(h.toNat, a.toNat)]) := sorry
theorem bw_d {T T1 T2 : Zt} {l : List (Nat × Nat)} {h a : Int} (w : BW_ T l) (hh : 0 ≤ h ∧ h ≤ 11) (e1 : T1 = up_ T 294 0 (12 * h + a) (T 294 0 (12 * h + a) + 1)) (e2 : T2 = up_ T1 294 0 (12 * a + h) (T1 294 0 (12 * a + h) + 1)) (ne : h = a) : BW_ T2 l := sorry
/-- what the slack is, below the set s -/
def SV_ (T : Zt) (o s : Int) (l : List (Nat × Nat)) (f : Nat → Int) : Prop := ∀ t : Int, 0 ≤ t → t < s → an_ t o = t → T 296 0 t = vs_ f l t.toNat
theorem su_b {g : Nat → Int} {s lo : Nat} {B : Int} (hB : 0 ≤ B) (h : ∀ k, 0 ≤ g k ∧ g k ≤ B) : ∀ n : Nat, 0 ≤ su_ g s lo n ∧ su_ g s lo n ≤ n * B := sorry
theorem su_n {g : Nat → Int} {s lo : Nat} : ∀ n : Nat, n ≤ lo → su_ g s lo n = 0 := sorry
theorem vs_0 (f : Nat → Int) (l : List (Nat × Nat)) : vs_ f l 0 = 0 := sorry
theorem lo_lt {s lo : Int} (hs : 1 ≤ s ∧ s < 4096) (h0 : 0 ≤ lo) (h : ∀ j, 0 ≤ j → j < lo → an_ (sr_ s j) 1 = 0) : lo < 12 := sorry
theorem an_1 {s : Int} (hs : 1 ≤ s ∧ s < 4096) : an_ s (s - 1) = ((s.toNat &&& (s.toNat - 1) : Nat) : Int) ∧ 0 ≤ an_ s (s - 1) ∧ an_ s (s - 1) ≤ s - 1 := sorry
theorem an_2 {s o : Int} (ho : 0 ≤ o ∧ o ≤ 4095) (hs : 1 ≤ s ∧ s < 4096) (h : an_ s o = s) : an_ (an_ s (s - 1)) o = an_ s (s - 1) := sorry
theorem sw_b {T : Zt} {o a b s : Int} {l : List (Nat × Nat)} (h : SW_ T o a b l) (h1 : 0 ≤ s) (h2 : s < 4096) (h3 : an_ s o = s) : 0 ≤ T 296 0 s ∧ T 296 0 s ≤ 1000000000 := sorry
theorem mul_b {x y : Int} (hx : 0 ≤ x ∧ x ≤ 9) (hy : 0 ≤ y ∧ y ≤ 1000) : 0 ≤ x * y ∧ x * y ≤ 9000 := sorry
abbrev cX11_isLeft : ByteArray := prog_13_method_97_code
def yX11_isLeft : MethodName := ⟨RX11, "isLeft", "(I)Z"⟩
def zX11_isLeft : Zm := (RX11, cX11_isLeft, 2, (some .boolean), { frames := 0, cells := 0, slots := 0, locals := 0 })
abbrev po_X11_isLeft (T : Zt) (m : Int) : Zt → Option Zv → Prop := fun T' r => T = T' ∧ ∃ x : Int, r = some (vI x) ∧ ((x = 1 ∧ (T 235 0 m = 0 ∨ T 235 0 m = 1)) ∨ (x = 0 ∧ ¬ (T 235 0 m = 0 ∨ T 235 0 m = 1)))
set_option maxHeartbeats 4000000 in
theorem ct_X11_isLeft {T : Zt} {m : Int} (h1 : 0 ≤ m ∧ m < 400) : Ct_ yX11_isLeft zX11_isLeft T [vR 111 0, vI m] (po_X11_isLeft T m) := sorry
def PB6_ (T : Zt) : Prop := ∀ k : Int, 0 ≤ k → k < 12 → -7500000 ≤ T 291 0 k ∧ T 291 0 k ≤ 7500000
theorem PB6__f {ws : List (Nat × List Int)} {T T' : Zt} (h : PB6_ T) (f : fr_ ws T T') (w : (∀ j, fw_ ws 291 j = false) ∧ True) : PB6_ T' := sorry
def LB_ (T : Zt) (b : Int) : Prop := ∀ k, 0 ≤ k → k < 12 → 0 ≤ T 292 0 k ∧ T 292 0 k ≤ b
theorem lb_u {T T1 : Zt} {b i v : Int} (h : LB_ T b) (e : T1 = up_ T 292 0 i v) (hv : 0 ≤ v ∧ v ≤ b + 1) : LB_ T1 (b + 1) := sorry
theorem lb_m {T : Zt} {b d : Int} (h : LB_ T b) (e : b ≤ d) : LB_ T d := sorry
abbrev cX11_countLeft : ByteArray := prog_13_method_98_code
def yX11_countLeft : MethodName := ⟨RX11, "countLeft", "(I)V"⟩
def zX11_countLeft : Zm := (RX11, cX11_countLeft, 3, none, { frames := 3, cells := 0, slots := 0, locals := 70 })
set_option maxRecDepth 100000 in
theorem cl_X11_538 : cv_ RX11 538 yX11_isLeft zX11_isLeft 11 1 := sorry
abbrev po_X11_countLeft (T : Zt) (c : Int) : Zt → Option Zv → Prop := fun T' r => r = none ∧ fr_ [(276, []), (291, []), (292, []), (111, [80, 82, 83])] T T' ∧ (PB6_ T' ∧ LB_ T' 1000)
set_option maxHeartbeats 4000000 in
theorem ct_X11_countLeft {T : Zt} {c : Int} (h1 : 0 ≤ c ∧ c < 4) (hml : ML_ T) (hsc : SC_ T) (hyb : YB_ T) : Ct_ yX11_countLeft zX11_countLeft T [vR 111 0, vI c] (po_X11_countLeft T c) := sorry
abbrev cX11_othersOf : ByteArray := prog_13_method_99_code
def yX11_othersOf : MethodName := ⟨RX11, "othersOf", "(II)I"⟩
def zX11_othersOf : Zm := (RX11, cX11_othersOf, 5, (some .int), { frames := 0, cells := 0, slots := 0, locals := 0 })
abbrev po_X11_othersOf (T : Zt) (c cl : Int) : Zt → Option Zv → Prop := fun T' r => T = T' ∧ ∃ x : Int, r = some (vI x) ∧ (0 ≤ x ∧ x ≤ 4095)
set_option maxHeartbeats 4000000 in
theorem ct_X11_othersOf {T : Zt} {c cl : Int} (h1 : 0 ≤ c ∧ c < 4) : Ct_ yX11_othersOf zX11_othersOf T [vR 111 0, vI c, vI cl] (po_X11_othersOf T c cl) := sorry
def BB_ (T : Zt) (b : Int) : Prop := ∀ k, 0 ≤ k → k < 144 → 0 ≤ T 294 0 k ∧ T 294 0 k ≤ b
theorem bb_u {T T1 : Zt} {b i v : Int} (h : BB_ T b) (e : T1 = up_ T 294 0 i v) (hv : 0 ≤ v ∧ v ≤ b + 1) : BB_ T1 (b + 1) := sorry
theorem bb_m {T : Zt} {b d : Int} (h : BB_ T b) (e : b ≤ d) : BB_ T d := sorry
abbrev cX11_layBetween : ByteArray := prog_13_method_100_code
def yX11_layBetween : MethodName := ⟨RX11, "layBetween", "(II)V"⟩
def zX11_layBetween : Zm := (RX11, cX11_layBetween, 4, none, { frames := 1, cells := 0, slots := 0, locals := 21 })
abbrev po_X11_layBetween (T : Zt) (c cl : Int) : Zt → Option Zv → Prop := fun T' r => r = none ∧ fr_ [(294, [])] T T' ∧ (BW_ T' (plf_ T cl (T 211 0 c).toNat (T 210 0 c)))
set_option maxHeartbeats 4000000 in
theorem ct_X11_layBetween {T : Zt} {c cl : Int} (h1 : 0 ≤ c ∧ c < 4) (hml : ML_ T) : Ct_ yX11_layBetween zX11_layBetween T [vR 111 0, vI c, vI cl] (po_X11_layBetween T c cl) := sorry
abbrev cX11_laySlack : ByteArray := prog_13_method_101_code
def yX11_laySlack : MethodName := ⟨RX11, "laySlack", "(I)I"⟩
def zX11_laySlack : Zm := (RX11, cX11_laySlack, 7, (some .int), { frames := 0, cells := 0, slots := 0, locals := 0 })
abbrev po_X11_laySlack (T : Zt) (l : List (Nat × Nat)) (o : Int) : Zt → Option Zv → Prop := fun T' r => ∃ x : Int, r = some (vI x) ∧ fr_ [(296, [])] T T' ∧ ((0 ≤ x ∧ x ≤ 4095) ∧ (x = 0 → SVE_ T' o l))
set_option maxHeartbeats 4000000 in
theorem ct_X11_laySlack {T : Zt} {l : List (Nat × Nat)} {o : Int} (hO : 0 ≤ o ∧ o ≤ 4095) (hl : ∀ p ∈ l, p.1 ≠ p.2 ∧ p.1 < 12 ∧ p.2 < 12) (hln : (l.length : Int) ≤ 400) (hbw : BW_ T l) (hsp : ∀ k : Int, 0 ≤ k → k < 12 → -20000000 ≤ T 293 0 k ∧ T 293 0 k ≤ 20000000) : Ct_ yX11_laySlack zX11_laySlack T [vR 111 0, vI o] (po_X11_laySlack T l o) := sorry
abbrev cX11_changeOf : ByteArray := prog_13_method_102_code
def yX11_changeOf : MethodName := ⟨RX11, "changeOf", "(IIII)I"⟩
def zX11_changeOf : Zm := (RX11, cX11_changeOf, 6, (some .int), { frames := 0, cells := 0, slots := 0, locals := 0 })
abbrev po_X11_changeOf (T : Zt) (s a b w : Int) : Zt → Option Zv → Prop := fun T' r => T = T' ∧ r = some (vI (ch_ s.toNat a.toNat b.toNat w))
set_option maxHeartbeats 4000000 in
theorem ct_X11_changeOf {T : Zt} {s a b w : Int} (h1 : 0 ≤ s ∧ s < 4096) (h2 : 0 ≤ a ∧ a < 12) (h3 : 0 ≤ b ∧ b < 12) (h4 : 0 ≤ w ∧ w ≤ 2) : Ct_ yX11_changeOf zX11_changeOf T [vI s, vI a, vI b, vI w] (po_X11_changeOf T s a b w) := sorry
def OKW_ (T : Zt) (o a b w n : Int) : Prop := ∀ t, 1 ≤ t → t < n → an_ t o = t → 0 ≤ T 296 0 t + ch_ t.toNat a.toNat b.toNat (w)
def PW_ (T : Zt) (o a b ev g w : Int) : Prop := (g = 0 ∧ (ev = 0 ∨ w = -1) ∧ -1 ≤ w ∧ ∀ u, 0 ≤ u → u ≤ w → NW_ T o a b u) ∨ (g = 1 ∧ 0 ≤ w ∧ w ≤ 2 ∧ (ev = 0 → OKW_ T o a b w 4096))
theorem pw_2 {T : Zt} {o a b ev w : Int} {l : List (Nat × Nat)} (h : PW_ T o a b ev 0 w) (hs : ev = 0 → SW_ T o a b l) (ho : 0 ≤ o ∧ o ≤ 4095) : -1 ≤ w ∧ w ≤ 1 ∧ ∀ u, 0 ≤ u → u ≤ w → NW_ T o a b u := sorry
theorem pw_1 {T : Zt} {o a b ev w g : Int} (h : PW_ T o a b ev g w) (hg : g ≠ 0) : 0 ≤ w ∧ w ≤ 2 ∧ (ev = 0 → OKW_ T o a b w 4096) := sorry
abbrev cX11_settle : ByteArray := prog_13_method_103_code
def yX11_settle : MethodName := ⟨RX11, "settle", "(IIIZ)I"⟩
def zX11_settle : Zm := (RX11, cX11_settle, 8, (some .int), { frames := 1, cells := 0, slots := 0, locals := 25 })
set_option maxRecDepth 100000 in
theorem cl_X11_541 : cs_ RX11 541 yX11_changeOf zX11_changeOf 4 := sorry
abbrev po_X11_settle (T : Zt) (l : List (Nat × Nat)) (o a b ev : Int) : Zt → Option Zv → Prop := fun T' r => ∃ x : Int, r = some (vI x) ∧ fr_ [(296, [])] T T' ∧ ((0 ≤ x ∧ x ≤ 2) ∧ (ev = 0 → SVE_ T' o l))
set_option maxHeartbeats 4000000 in
theorem ct_X11_settle {T : Zt} {l : List (Nat × Nat)} {o a b ev : Int} (hO : 0 ≤ o ∧ o ≤ 4095) (ha : 0 ≤ a ∧ a < 12) (hb : 0 ≤ b ∧ b < 12) (hev : 0 ≤ ev ∧ ev ≤ 1) (hs : ev = 0 → SW_ T o a b l) : Ct_ yX11_settle zX11_settle T [vR 111 0, vI o, vI a, vI b, vI ev] (po_X11_settle T l o a b ev) := sorry
abbrev cX11_canEven : ByteArray := prog_13_method_104_code
def yX11_canEven : MethodName := ⟨RX11, "canEven", "(III)I"⟩
def zX11_canEven : Zm := (RX11, cX11_canEven, 9, (some .int), { frames := 2, cells := 0, slots := 0, locals := 52 })
set_option maxRecDepth 100000 in
theorem cl_X11_557 : cv_ RX11 557 yX11_settle zX11_settle 11 4 := sorry
set_option maxRecDepth 100000 in
theorem cl_X11_548 : cv_ RX11 548 yX11_layBetween zX11_layBetween 11 2 := sorry
set_option maxRecDepth 100000 in
theorem cl_X11_551 : cv_ RX11 551 yX11_laySlack zX11_laySlack 11 1 := sorry
abbrev po_X11_canEven (T : Zt) (c cl o : Int) : Zt → Option Zv → Prop := fun T' r => ∃ x : Int, r = some (vI x) ∧ fr_ [(293, []), (294, []), (296, []), (289, []), (111, [90])] T T' ∧ (0 ≤ x ∧ x ≤ 2)
set_option maxHeartbeats 4000000 in
theorem ct_X11_canEven {T : Zt} {c cl o : Int} (h1 : 0 ≤ c ∧ c < T 111 0 6) (hri : RI_ T) (hrw : RW_ T) (hml : ML_ T) (hO : 0 ≤ o ∧ o ≤ 4095) (hpb : PB6_ T) (hlb : LB_ T 1000) (hbe : -8000000 ≤ T 111 0 95 ∧ T 111 0 95 ≤ 8000000) : Ct_ yX11_canEven zX11_canEven T [vR 111 0, vI c, vI cl, vI o] (po_X11_canEven T c cl o) := sorry
abbrev cX11_isRowWell : ByteArray := prog_13_method_106_code
def yX11_isRowWell : MethodName := ⟨RX11, "isRowWell", "(III)Z"⟩
def zX11_isRowWell : Zm := (RX11, cX11_isRowWell, 7, (some .boolean), { frames := 1, cells := 0, slots := 0, locals := 22 })
abbrev po_X11_isRowWell (T : Zt) (c n r : Int) : Zt → Option Zv → Prop := fun T' r => ∃ x : Int, r = some (vI x) ∧ fr_ [(293, []), (289, [])] T T' ∧ (0 ≤ x ∧ x ≤ 1)
set_option maxHeartbeats 4000000 in
theorem ct_X11_isRowWell {T : Zt} {c n r : Int} (h1 : 0 ≤ c ∧ c < 4) (h2 : 0 ≤ n ∧ n ≤ 400) (h3 : 0 ≤ r) : Ct_ yX11_isRowWell zX11_isRowWell T [vR 111 0, vI c, vI n, vI r] (po_X11_isRowWell T c n r) := sorry
abbrev cX11_canTry : ByteArray := prog_13_method_105_code
def yX11_canTry : MethodName := ⟨RX11, "canTry", "(II)I"⟩
def zX11_canTry : Zm := (RX11, cX11_canTry, 7, (some .int), { frames := 2, cells := 0, slots := 0, locals := 48 })
set_option maxRecDepth 100000 in
theorem cl_X11_561 : cv_ RX11 561 yX11_isRowWell zX11_isRowWell 11 3 := sorry
abbrev po_X11_canTry (T : Zt) (c cl : Int) : Zt → Option Zv → Prop := fun T' r => ∃ x : Int, r = some (vI x) ∧ fr_ [(289, []), (291, []), (297, []), (293, [])] T T' ∧ (0 ≤ x ∧ x ≤ 2)
set_option maxHeartbeats 4000000 in
theorem ct_X11_canTry {T : Zt} {c cl : Int} (h1 : 0 ≤ c ∧ c < 4) (hml : ML_ T) : Ct_ yX11_canTry zX11_canTry T [vR 111 0, vI c, vI cl] (po_X11_canTry T c cl) := sorry
abbrev cX11_can : ByteArray := prog_13_method_107_code
def yX11_can : MethodName := ⟨RX11, "can", "(II)I"⟩
def zX11_can : Zm := (RX11, cX11_can, 5, (some .int), { frames := 4, cells := 0, slots := 0, locals := 92 })
set_option maxRecDepth 100000 in
theorem cl_X11_564 : cv_ RX11 564 yX11_countLeft zX11_countLeft 11 1 := sorry
set_option maxRecDepth 100000 in
theorem cl_X11_573 : cv_ RX11 573 yX11_canTry zX11_canTry 11 2 := sorry
set_option maxRecDepth 100000 in
theorem cl_X11_567 : cv_ RX11 567 yX11_othersOf zX11_othersOf 11 2 := sorry
set_option maxRecDepth 100000 in
theorem cl_X11_570 : cv_ RX11 570 yX11_canEven zX11_canEven 11 3 := sorry
abbrev po_X11_can (T : Zt) (c cl : Int) : Zt → Option Zv → Prop := fun T' r => ∃ x : Int, r = some (vI x) ∧ fr_ [(276, []), (291, []), (292, []), (293, []), (294, []), (296, []), (289, []), (297, []), (111, [80, 82, 83, 90, 95, 88])] T T' ∧ (True)
set_option maxHeartbeats 4000000 in
theorem ct_X11_can {T : Zt} {c cl : Int} (hri : RI_ T) (hrw : RW_ T) (hml : ML_ T) (hsc : SC_ T) (hyb : YB_ T) : Ct_ yX11_can zX11_can T [vR 111 0, vI c, vI cl] (po_X11_can T c cl) := sorry
theorem he_f {T T1 : Zt} {c v : Int} (h : HE_ T c v) (a : ∀ j, T1 208 0 j = T 208 0 j) (b : ∀ j, T1 207 0 j = T 207 0 j) : HE_ T1 c v := sorry
abbrev cX11_firsts : ByteArray := prog_13_method_110_code
def yX11_firsts : MethodName := ⟨RX11, "firsts", "(II)I"⟩
def zX11_firsts : Zm := (RX11, cX11_firsts, 9, (some .int), { frames := 5, cells := 0, slots := 0, locals := 128 })
abbrev po_X11_firsts (T : Zt) (c cl : Int) : Zt → Option Zv → Prop := fun T' r => ∃ x : Int, r = some (vI x) ∧ fr_ [(276, []), (284, []), (277, []), (286, []), (278, []), (297, []), (281, []), (111, [82, 83, 85, 87, 79, 80])] T T' ∧ (True)
set_option maxHeartbeats 4000000 in
theorem ct_X11_firsts {T : Zt} {c cl : Int} (hri : RI_ T) (hml : ML_ T) (hsc : SC_ T) (hyb : YB_ T) : Ct_ yX11_firsts zX11_firsts T [vR 111 0, vI c, vI cl] (po_X11_firsts T c cl) := sorry
noncomputable def q1_ (P : Prop) (v : Nat) : Nat := @ite Nat P (Classical.propDecidable P) v 0
theorem q1_t {P : Prop} {v : Nat} (h : P) : q1_ P v = v := sorry
theorem q1_f {P : Prop} {v : Nat} (h : ¬ P) : q1_ P v = 0 := sorry
theorem q1_e {P Q : Prop} {v w : Nat} (h : P ↔ Q) (e : P → v = w) : q1_ P v = q1_ Q w := sorry
/-- a sum over the groups behind t that a condition names -/
noncomputable def qs_ (C : Int → Prop) (V : Int → Nat) (t : Int) : Nat := q1_ (t < 0 ∧ C 0) (V 0) + q1_ (t < 1 ∧ C 1) (V 1) + q1_ (t < 2 ∧ C 2) (V 2) + q1_ (t < 3 ∧ C 3) (V 3)
theorem qs_n {C : Int → Prop} {V : Int → Nat} {t : Int} (h : ∀ g, t < g → 0 ≤ g → g < 4 → ¬ C g) : qs_ C V t = 0 := sorry
theorem qs_f {C : Int → Prop} {V : Int → Nat} {t g : Int} (h0 : 0 ≤ g) (h4 : g < 4) (ht : t < g) (c : C g) (no : ∀ u, t < u → 0 ≤ u → u < g → ¬ C u) : qs_ C V t = V g + qs_ C V g := sorry
theorem qs_e {C C' : Int → Prop} {V V' : Int → Nat} {t : Int} (h : ∀ g, 0 ≤ g → g < 4 → (C g ↔ C' g)) (hv : ∀ g, 0 ≤ g → g < 4 → C g → V g = V' g) : qs_ C V t = qs_ C' V' t := sorry
theorem q1_z {P : Prop} : q1_ P 0 = 0 := sorry
theorem qs_1 {C : Int → Prop} {V : Int → Nat} {h : Int} (a : 0 ≤ h) (b : h < 4) : qs_ (fun g => g = h ∧ C g) V (-1) = qs_ (fun g => C g) (fun g => if g = h then V g else 0) (-1) := sorry
theorem qs_a {C : Int → Prop} {V W : Int → Nat} {t : Int} : qs_ C (fun g => V g + W g) t = qs_ C V t + qs_ C W t := sorry
theorem qs_b {C F : Int → Prop} {V : Int → Nat} {M : Nat} (h : ∀ g, 0 ≤ g → g < 4 → C g → F g ∧ V g ≤ M) : qs_ C V (-1) ≤ qs_ F (fun _ => 1) (-1) * M := sorry
/-- one place changed -/
def fu_ (f : Int → Int) (x g : Int) : Int → Int := fun k => if k = x then g else f k
/-- how many in the group, of the clubs below k, are of the club's country -/
def alk_ (E C f : Int → Int) (x g : Int) : Nat → Int
  | 0 => 0
  | k + 1 => alk_ E C f x g k + (if (k : Int) ≠ x ∧ E k ≠ -1 ∧ f k = g ∧ C k = C x then 1 else 0)
/-- a draw: pots, countries, how many clubs, groups, the limit -/
abbrev Dr_ : Type := (Int → Int) × (Int → Int) × Int × Int × Int
def Dr_.E (d : Dr_) : Int → Int := d.1
def Dr_.C (d : Dr_) : Int → Int := d.2.1
def Dr_.n (d : Dr_) : Int := d.2.2.1
def Dr_.G (d : Dr_) : Int := d.2.2.2.1
def Dr_.L (d : Dr_) : Int := d.2.2.2.2
def ms_ (d : Dr_) (f : Int → Int) (x g : Int) : Prop := (∀ k, 0 ≤ k → k < d.n → k ≠ x → d.E k ≠ -1 → f k = g → d.E k ≠ d.E x) ∧ alk_ d.E d.C f x g d.n.toNat < d.L
def ok_ (d : Dr_) (fx gp : Int) (f : Int → Int) (x g : Int) : Prop := g < d.G ∧ (x = fx → g = gp) ∧ ms_ d f x g
/-- the ways to place the clubs of a list -/
noncomputable def nw_ (d : Dr_) (fx gp : Int) : List Int → (Int → Int) → Nat
  | [], _ => 1
  | x :: l, f => qs_ (ok_ d fx gp f x) (fun g => nw_ d fx gp l (fu_ f x g)) (-1)
theorem nw_o {d : Dr_} {c g : Int} : ∀ (l : List Int) (f : Int → Int), (∀ x ∈ l, x ≠ c ∧ x ≠ -1) → nw_ d c g l f = nw_ d (-1) (-1) l f := sorry
/-- the ways, by where one club goes -/
theorem nw_s {d : Dr_} {c : Int} (hc : c ≠ -1) : ∀ (l : List Int) (f : Int → Int), c ∈ l → l.Nodup → (∀ x ∈ l, x ≠ -1) → nw_ d c 0 l f + nw_ d c 1 l f + nw_ d c 2 l f + nw_ d c 3 l f = nw_ d (-1) (-1) l f := sorry
def fc_ : Nat → Nat
  | 0 => 1
  | n + 1 => (n + 1) * fc_ n
theorem fc_p : ∀ n, 1 ≤ fc_ n := sorry
theorem fc_m {a b : Nat} (h : a ≤ b) : fc_ a ≤ fc_ b := sorry
/-- how many groups have no club of pot p -/
noncomputable def ff_ (d : Dr_) (f : Int → Int) (p : Int) : Nat := qs_ (fun g => ∀ k, 0 ≤ k → k < d.n → d.E k = p → f k ≠ g) (fun _ => 1) (-1)
theorem q1_1 {P : Prop} : q1_ P 1 ≤ 1 := sorry
theorem ff_4 (d : Dr_) (f : Int → Int) (p : Int) : ff_ d f p ≤ 4 := sorry
theorem ff_o {d : Dr_} {f : Int → Int} {x g p : Int} (h : d.E x ≠ p) : ff_ d (fu_ f x g) p = ff_ d f p := sorry
theorem ff_s {d : Dr_} {f : Int → Int} {x g : Int} (hx : 0 ≤ x ∧ x < d.n) (hf : f x = -1) (h0 : 0 ≤ g) (h4 : g < 4) (fr : ∀ k, 0 ≤ k → k < d.n → d.E k = d.E x → f k ≠ g) : ff_ d (fu_ f x g) (d.E x) + 1 ≤ ff_ d f (d.E x) := sorry
theorem nw_b {d : Dr_} {fx gp : Int} : ∀ (l : List Int) (f : Int → Int), l.Nodup → (∀ x ∈ l, 0 ≤ x ∧ x < d.n ∧ f x = -1 ∧ 0 ≤ d.E x ∧ d.E x ≤ 2) → nw_ d fx gp l f ≤ fc_ (ff_ d f 0) * fc_ (ff_ d f 1) * fc_ (ff_ d f 2) := sorry
theorem nw_m {d : Dr_} {fx gp : Int} {l : List Int} {f : Int → Int} (nd : l.Nodup) (h : ∀ x ∈ l, 0 ≤ x ∧ x < d.n ∧ f x = -1 ∧ 0 ≤ d.E x ∧ d.E x ≤ 2) : nw_ d fx gp l f ≤ 13824 := sorry
noncomputable def pr_ (d : Dr_) (fx gp : Int) (l : List Int) (f : Int → Int) (x t : Int) : Nat := qs_ (ok_ d fx gp f x) (fun g => nw_ d fx gp l (fu_ f x g)) t
/-- where the clubs of a pile stand -/
def cf_ (b : Int → Int) : List (Int × Int) → Int → Int
  | [] => b
  | p :: st => fu_ (cf_ b st) p.1 p.2
/-- the ways still to come below a pile -/
noncomputable def rs_ (d : Dr_) (fx gp : Int) (b : Int → Int) : List (Int × Int) → List Int → Nat
  | [], _ => 0
  | p :: st, ys => pr_ d fx gp ys (cf_ b st) p.1 p.2 + rs_ d fx gp b st (p.1 :: ys)
/-- how far the search is from its end -/
def mz_ : List (Int × Int) → Nat
  | [] => 0
  | p :: st => (4 - p.2).toNat * 6 ^ (13 - st.length) + mz_ st
/-- the rows hold the pile -/
def RP_ (T : Zt) (G : Int) (b : Int → Int) : List (Int × Int) → Prop
  | [] => True
  | p :: st => T 304 0 (st.length : Int) = p.1 ∧ T 305 0 (st.length : Int) = p.2 ∧ (0 ≤ p.1 ∧ p.1 < 12) ∧ (0 ≤ p.2 ∧ p.2 < G) ∧ cf_ b st p.1 = -1 ∧ RP_ T G b st
def RQ_ (T : Zt) : Nat → List Int → Prop
  | _, [] => True
  | i, y :: ys => T 304 0 (i : Int) = y ∧ T 305 0 (i : Int) = -1 ∧ RQ_ T (i + 1) ys
theorem rp_e {T T1 : Zt} {G : Int} {b : Int → Int} : ∀ {st : List (Int × Int)}, RP_ T G b st → (∀ j, j < (st.length : Int) → T1 304 0 j = T 304 0 j ∧ T1 305 0 j = T 305 0 j) → RP_ T1 G b st := sorry
theorem rq_e {T T1 : Zt} : ∀ {i : Nat} {ys : List Int}, RQ_ T i ys → (∀ j : Int, (i : Int) ≤ j → T1 304 0 j = T 304 0 j ∧ T1 305 0 j = T 305 0 j) → RQ_ T1 i ys := sorry
theorem rq_s {T : Zt} {x : Int} : ∀ {i : Nat} {ys : List Int}, RQ_ T i ys → T 304 0 ((i : Int) + ys.length) = x → T 305 0 ((i : Int) + ys.length) = -1 → RQ_ T i (ys ++ [x]) := sorry
theorem rq_l {T T1 : Zt} : ∀ {i : Nat} {ys : List Int}, RQ_ T i ys → (∀ j : Int, (i : Int) ≤ j → j < (i : Int) + ys.length → T1 304 0 j = T 304 0 j ∧ T1 305 0 j = T 305 0 j) → RQ_ T1 i ys := sorry
/-- the search's state -/
def WH_ (T : Zt) (d : Dr_) (fx gp : Int) (b : Int → Int) (n i w : Int) (N : Nat) (st : List (Int × Int)) (zs : List Int) (t : Int) : Prop :=
  (i = -1 ∧ w = N ∧ ∀ k, T 302 0 k = b k) ∨
  (i = st.length ∧ (st.length : Int) + zs.length = n ∧ RP_ T d.G b st ∧ 0 ≤ w ∧
    match zs with
    | [] => t = -1 ∧ (∀ k, T 302 0 k = cf_ b st k) ∧ w + 1 + (rs_ d fx gp b st [] : Nat) = N
    | x :: ys => T 304 0 i = x ∧ T 305 0 i = t ∧ (-1 ≤ t ∧ t < d.G) ∧ RQ_ T (st.length + 1) ys ∧ (∀ k, k ≠ x → T 302 0 k = cf_ b st k) ∧ (∀ z ∈ x :: ys, (0 ≤ z ∧ z < 12) ∧ cf_ b st z = -1) ∧ (x :: ys).Nodup ∧ w + (pr_ d fx gp ys (cf_ b st) x t : Nat) + (rs_ d fx gp b st (x :: ys) : Nat) = N)
def wm_ (i t : Int) (st : List (Int × Int)) : Nat := if i < 0 then 0 else 1 + mz_ ((0, t) :: st)
theorem fu_s (f : Int → Int) (x g : Int) : fu_ f x g x = g := sorry
theorem fu_n {f : Int → Int} {x g k : Int} (h : k ≠ x) : fu_ f x g k = f k := sorry
/-- from a pile back to the one below -/
theorem wh_p {T : Zt} {d : Dr_} {fx gp w : Int} {b : Int → Int} {n : Int} {N : Nat} {st : List (Int × Int)} {zs : List Int} {tt : Int} (hG : d.G ≤ 4) (hT : -1 ≤ tt ∧ tt < 4) (hn : (st.length : Int) + zs.length = n) (rp : RP_ T d.G b st) (hw : 0 ≤ w) (go : ∀ k, T 302 0 k = cf_ b st k) (rq : RQ_ T st.length zs) (fz : ∀ z ∈ zs, (0 ≤ z ∧ z < 12) ∧ cf_ b st z = -1) (nd : zs.Nodup) (e : w + (rs_ d fx gp b st zs : Nat) = N) :
    ∃ st' zs' t', WH_ T d fx gp b n ((st.length : Int) - 1) w N st' zs' t' ∧ wm_ ((st.length : Int) - 1) t' st' < wm_ (st.length : Int) tt st := sorry
theorem wh_b {T : Zt} {d : Dr_} {fx gp i w n t : Int} {b : Int → Int} {N : Nat} {st : List (Int × Int)} {zs : List Int} (hG : d.G ≤ 4) (h : WH_ T d fx gp b n i w N st zs t) (hi : 0 ≤ i) (e : i = n) :
    w + 1 ≤ N ∧ 0 ≤ w ∧ ∃ st' zs' t', WH_ T d fx gp b n (i - 1) (w + 1) N st' zs' t' ∧ wm_ (i - 1) t' st' < wm_ i t st := sorry
theorem wh_x {T : Zt} {d : Dr_} {fx gp i w n t : Int} {b : Int → Int} {N : Nat} {st : List (Int × Int)} {zs : List Int} (h : WH_ T d fx gp b n i w N st zs t) (hi : 0 ≤ i) (e : i ≠ n) :
    ∃ x ys, zs = x :: ys ∧ T 304 0 i = x ∧ T 305 0 i = t ∧ (0 ≤ x ∧ x < 12) ∧ (-1 ≤ t ∧ t < d.G) ∧ i < n ∧ i = st.length := sorry
theorem wh_c {T T1 : Zt} {d : Dr_} {fx gp i w n t x : Int} {b : Int → Int} {N : Nat} {st : List (Int × Int)} {ys : List Int} (h : WH_ T d fx gp b n i w N st (x :: ys) t) (hi : 0 ≤ i) (e1 : T1 302 0 x = -1) (e2 : ∀ k, k ≠ x → T1 302 0 k = T 302 0 k) : (fun k => T1 302 0 k) = cf_ b st := sorry
theorem wh_n {T T2 : Zt} {d : Dr_} {fx gp i w n t x : Int} {b : Int → Int} {N : Nat} {st : List (Int × Int)} {ys : List Int} (hG : d.G ≤ 4) (h : WH_ T d fx gp b n i w N st (x :: ys) t) (hi : 0 ≤ i)
    (go : (fun k => T2 302 0 k) = cf_ b st) (tr : ∀ j, T2 304 0 j = T 304 0 j) (ti : ∀ j, j ≠ i → T2 305 0 j = T 305 0 j) (t2 : T2 305 0 i = -1) (no : ∀ u, t < u → 0 ≤ u → u < d.G → ¬ ((x = fx → u = gp) ∧ ms_ d (cf_ b st) x u)) :
    ∃ st' zs' t', WH_ T2 d fx gp b n (i - 1) w N st' zs' t' ∧ wm_ (i - 1) t' st' < wm_ i t st := sorry
theorem wh_g {T T2 : Zt} {d : Dr_} {fx gp i w n t x g : Int} {b : Int → Int} {N : Nat} {st : List (Int × Int)} {ys : List Int} (hG : d.G ≤ 4) (hn : n ≤ 12) (h : WH_ T d fx gp b n i w N st (x :: ys) t) (hi : 0 ≤ i)
    (go : ∀ k, T2 302 0 k = fu_ (cf_ b st) x g k) (tr : ∀ j, T2 304 0 j = T 304 0 j) (ti : ∀ j, j ≠ i → T2 305 0 j = T 305 0 j) (t2 : T2 305 0 i = g) (hg : t < g ∧ 0 ≤ g ∧ g < d.G) (ok : (x = fx → g = gp) ∧ ms_ d (cf_ b st) x g) (no : ∀ u, t < u → 0 ≤ u → u < g → ¬ ((x = fx → u = gp) ∧ ms_ d (cf_ b st) x u)) :
    ∃ st' zs' t', WH_ T2 d fx gp b n (i + 1) w N st' zs' t' ∧ wm_ (i + 1) t' st' < wm_ i t st := sorry
/-- the search's beginning -/
theorem wh_0 {T : Zt} {d : Dr_} {fx gp n : Int} {b : Int → Int} {l : List Int} (hG : 0 ≤ d.G) (hn : (l.length : Int) = n) (go : ∀ k, T 302 0 k = b k) (rq : RQ_ T 0 l) (fz : ∀ z ∈ l, (0 ≤ z ∧ z < 12) ∧ b z = -1) (nd : l.Nodup) : ∃ t, WH_ T d fx gp b n 0 0 (nw_ d fx gp l b) [] l t := sorry
/-- the clubs of a pot, below k, that have no group -/
def lpk_ (E b : Int → Int) (p : Int) : Nat → List Int
  | 0 => []
  | k + 1 => lpk_ E b p k ++ (if E k = p ∧ b k = -1 then [(k : Int)] else [])
/-- the pots before the p-th -/
def lq_ (E b : Int → Int) (n : Nat) : Nat → List Int
  | 0 => []
  | p + 1 => lq_ E b n p ++ lpk_ E b p n
theorem lpk_m {E b : Int → Int} {p x : Int} : ∀ {k : Nat}, x ∈ lpk_ E b p k → 0 ≤ x ∧ x < k ∧ E x = p ∧ b x = -1 := sorry
theorem lpk_i {E b : Int → Int} {p x : Int} (h0 : 0 ≤ x) (he : E x = p) (hb : b x = -1) : ∀ {k : Nat}, x < k → x ∈ lpk_ E b p k := sorry
theorem lpk_d (E b : Int → Int) (p : Int) : ∀ k : Nat, (lpk_ E b p k).Nodup := sorry
theorem lq_m {E b : Int → Int} {n : Nat} {x : Int} : ∀ {p : Nat}, x ∈ lq_ E b n p → 0 ≤ x ∧ x < n ∧ 0 ≤ E x ∧ E x < p ∧ b x = -1 := sorry
theorem lq_i {E b : Int → Int} {n : Nat} {x : Int} (h0 : 0 ≤ x) (hn : x < n) (he : 0 ≤ E x) (hb : b x = -1) : ∀ {p : Nat}, E x < p → x ∈ lq_ E b n p := sorry
theorem lq_d (E b : Int → Int) (n : Nat) : ∀ p k : Nat, (lq_ E b n p ++ lpk_ E b p k).Nodup := sorry
theorem lpk_t {E b : Int → Int} {p k : Int} (hk : 0 ≤ k) (c : E k = p ∧ b k = -1) : lpk_ E b p (k + 1).toNat = lpk_ E b p k.toNat ++ [k] := sorry
theorem lpk_f {E b : Int → Int} {p k : Int} (hk : 0 ≤ k) (c : ¬ (E k = p ∧ b k = -1)) : lpk_ E b p (k + 1).toNat = lpk_ E b p k.toNat := sorry
theorem lq_t {E b : Int → Int} {n : Nat} {p : Int} (hp : 0 ≤ p) : lq_ E b n (p + 1).toNat = lq_ E b n p.toNat ++ lpk_ E b p n := sorry
theorem lx_m {E b : Int → Int} {n : Nat} {p k x : Int} (hp : 0 ≤ p ∧ p ≤ 2) (hk : 0 ≤ k ∧ k ≤ n) (h : x ∈ lq_ E b n p.toNat ++ lpk_ E b p k.toNat) : 0 ≤ x ∧ x < n ∧ b x = -1 := sorry
theorem lx_d {E b : Int → Int} {n : Nat} {p k : Int} (hp : 0 ≤ p) : (lq_ E b n p.toNat ++ lpk_ E b p k.toNat).Nodup := sorry
theorem rq_m {T : Zt} {P : Int → Prop} : ∀ {i : Nat} {l : List Int}, RQ_ T i l → (∀ x ∈ l, P x) → ∀ j : Int, (i : Int) ≤ j → j < (i : Int) + l.length → P (T 304 0 j) := sorry
/-- the draw as it stands -/
def drw_ (T : Zt) : Dr_ := ⟨fun k => T 301 0 k, fun k => T 214 0 k, T 111 0 12, T 111 0 99, T 111 0 100⟩
def gf_ (T : Zt) : Int → Int := fun k => T 302 0 k
def ll_ (T : Zt) : List Int := lq_ (fun k => T 301 0 k) (gf_ T) (T 111 0 12).toNat 3
theorem drw_e {T T1 : Zt} (a : ∀ k, T1 301 0 k = T 301 0 k) (b : ∀ k, T1 214 0 k = T 214 0 k) (c : T1 111 0 12 = T 111 0 12) (d : T1 111 0 99 = T 111 0 99) (e : T1 111 0 100 = T 111 0 100) : drw_ T1 = drw_ T := sorry
theorem gf_e {T T1 : Zt} (a : ∀ k, T1 302 0 k = T 302 0 k) : gf_ T1 = gf_ T := sorry
theorem ll_e {T T1 : Zt} (a : ∀ k, T1 301 0 k = T 301 0 k) (b : ∀ k, T1 302 0 k = T 302 0 k) (c : T1 111 0 12 = T 111 0 12) : ll_ T1 = ll_ T := sorry
theorem ll_m {T : Zt} {x : Int} (h0 : 0 ≤ T 111 0 12) (h : x ∈ ll_ T) : 0 ≤ x ∧ x < T 111 0 12 ∧ T 302 0 x = -1 ∧ 0 ≤ T 301 0 x ∧ T 301 0 x ≤ 2 := sorry
theorem ll_d (T : Zt) : (ll_ T).Nodup := sorry
theorem ll_i {T : Zt} {x : Int} (h0 : 0 ≤ x) (hn : x < T 111 0 12) (hg : T 302 0 x = -1) (h1 : 0 ≤ T 301 0 x) (h2 : T 301 0 x ≤ 2) : x ∈ ll_ T := sorry
theorem ll_b {T : Zt} {fx gp : Int} (h0 : 0 ≤ T 111 0 12) : nw_ (drw_ T) fx gp (ll_ T) (gf_ T) ≤ 13824 := sorry
abbrev cX11_pot : ByteArray := prog_13_method_113_code
def yX11_pot : MethodName := ⟨RX11, "pot", "(II)I"⟩
def zX11_pot : Zm := (RX11, cX11_pot, 6, (some .int), { frames := 2, cells := 0, slots := 0, locals := 43 })
set_option maxRecDepth 100000 in
theorem cl_X11_585 : cv_ RX11 585 yX11_isInDraw zX11_isInDraw 11 1 := sorry
abbrev po_X11_pot (T : Zt) (cl p : Int) : Zt → Option Zv → Prop := fun T' r => ∃ x : Int, r = some (vI x) ∧ fr_ [(301, [])] T T' ∧ (x = x)
/-- what mayStand has seen, below k -/
def MT_ (T : Zt) (x g k : Int) : Prop := ∃ j, 0 ≤ j ∧ j < k ∧ j ≠ x ∧ T 301 0 j ≠ -1 ∧ T 302 0 j = g ∧ T 301 0 j = T 301 0 x
theorem mt_s {T : Zt} {x g k : Int} (hk : 0 ≤ k) : MT_ T x g (k + 1) ↔ MT_ T x g k ∨ (k ≠ x ∧ T 301 0 k ≠ -1 ∧ T 302 0 k = g ∧ T 301 0 k = T 301 0 x) := sorry
def ma_ (T : Zt) (x g k : Int) : Int := alk_ (fun k => T 301 0 k) (fun k => T 214 0 k) (gf_ T) x g k.toNat
theorem ma_t {T : Zt} {x g k : Int} (hk : 0 ≤ k) (c : k ≠ x ∧ T 301 0 k ≠ -1 ∧ T 302 0 k = g ∧ T 214 0 k = T 214 0 x) : ma_ T x g (k + 1) = ma_ T x g k + 1 := sorry
theorem ma_f {T : Zt} {x g k : Int} (hk : 0 ≤ k) (c : ¬ (k ≠ x ∧ T 301 0 k ≠ -1 ∧ T 302 0 k = g ∧ T 214 0 k = T 214 0 x)) : ma_ T x g (k + 1) = ma_ T x g k := sorry
theorem ms_i {T : Zt} {x g k a t : Int} (e : k = T 111 0 12) (ht : (t = 1 ∧ MT_ T x g k) ∨ (t = 0 ∧ ¬ MT_ T x g k)) (ha : a = ma_ T x g k) : ms_ (drw_ T) (gf_ T) x g ↔ (t = 0 ∧ a < T 111 0 100) := sorry
abbrev cX11_mayStand : ByteArray := prog_13_method_114_code
def yX11_mayStand : MethodName := ⟨RX11, "mayStand", "(II)Z"⟩
def zX11_mayStand : Zm := (RX11, cX11_mayStand, 6, (some .boolean), { frames := 0, cells := 0, slots := 0, locals := 0 })
abbrev po_X11_mayStand (T : Zt) (cl g : Int) : Zt → Option Zv → Prop := fun T' r => T = T' ∧ ∃ x : Int, r = some (vI x) ∧ ((x = 1 ∧ ms_ (drw_ T) (gf_ T) cl g) ∨ (x = 0 ∧ ¬ ms_ (drw_ T) (gf_ T) cl g))
set_option maxHeartbeats 4000000 in
theorem ct_X11_mayStand {T : Zt} {cl g : Int} (h1 : 0 ≤ cl ∧ cl < 12) : Ct_ yX11_mayStand zX11_mayStand T [vR 111 0, vI cl, vI g] (po_X11_mayStand T cl g) := sorry
theorem wh_z {T : Zt} {d : Dr_} {fx gp i w n t : Int} {b : Int → Int} {N : Nat} {st : List (Int × Int)} {zs : List Int} (h : WH_ T d fx gp b n i w N st zs t) (hi : i < 0) : w = N ∧ ∀ k, T 302 0 k = b k := sorry
abbrev cX11_countWays : ByteArray := prog_13_method_115_code
def yX11_countWays : MethodName := ⟨RX11, "countWays", "(II)I"⟩
def zX11_countWays : Zm := (RX11, cX11_countWays, 8, (some .int), { frames := 1, cells := 0, slots := 0, locals := 25 })
set_option maxRecDepth 100000 in
theorem cl_X11_588 : cv_ RX11 588 yX11_mayStand zX11_mayStand 11 2 := sorry
abbrev po_X11_countWays (T : Zt) (fx gp : Int) : Zt → Option Zv → Prop := fun T' r => ∃ x : Int, r = some (vI x) ∧ fr_ [(304, []), (305, []), (302, [])] T T' ∧ (x = (nw_ (drw_ T) fx gp (ll_ T) (gf_ T) : Nat) ∧ (∀ k, T' 302 0 k = T 302 0 k) ∧ 0 ≤ x ∧ x ≤ 13824)
set_option maxHeartbeats 4000000 in
theorem ct_X11_countWays {T : Zt} {fx gp : Int} : Ct_ yX11_countWays zX11_countWays T [vR 111 0, vI fx, vI gp] (po_X11_countWays T fx gp) := sorry
theorem us_1 {x : Int} (h : -2147483648 ≤ x ∧ x ≤ 2147483647) : us_ x 1 = x % 4294967296 / 2 := sorry
theorem tk_d : ∀ a : Fin 216, ∀ b : Fin 128, (4294967296 * 1664525 + 1013904223 - (128 * a.val + b.val + 1) * 1664525) % 4294967296 / 2 < 2147469824 := sorry
theorem tk_2 {s : Int} (h : -2147483648 ≤ s ∧ s ≤ 2147483647) (t : 2147469824 ≤ us_ s 1) : us_ (wr_ (wr_ (s * 1664525) + 1013904223)) 1 < 2147469824 := sorry
/-- there is a club of pot p, below k, without a group -/
def EL_ (T : Zt) (p k : Int) : Prop := (0 ≤ p ∧ p ≤ 2) ∧ ∃ j, 0 ≤ j ∧ j < k ∧ T 301 0 j = p ∧ T 302 0 j = -1
theorem el_m {T : Zt} {p k : Int} (h : EL_ T p k) : EL_ T p (k + 1) := sorry
theorem el_n {T : Zt} {p k : Int} (hk : 0 ≤ k) (hp : 0 ≤ p ∧ p ≤ 2) (h : T 301 0 k = p) (g : T 302 0 k = -1) : EL_ T p (k + 1) := sorry
/-- how many clubs of pot p, below k, have no group -/
def cen_ (T : Zt) (p : Int) : Nat → Int
  | 0 => 0
  | k + 1 => cen_ T p k + (if T 301 0 (k : Int) = p ∧ T 302 0 (k : Int) = -1 then 1 else 0)
def cel_ (T : Zt) (p k : Int) : Int := cen_ T p k.toNat
theorem cel_t {T : Zt} {p k : Int} (hk : 0 ≤ k) (c : T 301 0 k = p ∧ T 302 0 k = -1) : cel_ T p (k + 1) = cel_ T p k + 1 := sorry
theorem cel_f {T : Zt} {p k : Int} (hk : 0 ≤ k) (c : ¬ (T 301 0 k = p ∧ T 302 0 k = -1)) : cel_ T p (k + 1) = cel_ T p k := sorry
theorem cen_b (T : Zt) (p : Int) : ∀ k : Nat, 0 ≤ cen_ T p k ∧ cen_ T p k ≤ k := sorry
theorem cel_b {T : Zt} {p k : Int} (hk : 0 ≤ k) : 0 ≤ cel_ T p k ∧ cel_ T p k ≤ k := sorry
theorem cen_p {T : Zt} {p j : Int} (h0 : 0 ≤ j) (c : T 301 0 j = p ∧ T 302 0 j = -1) : ∀ k : Nat, j < k → 0 < cen_ T p k := sorry
theorem cel_p {T : Zt} {p k : Int} (h : EL_ T p k) : 0 < cel_ T p k := sorry
/-- the ways with the club in one of the groups up to g -/
noncomputable def sgm_ (T : Zt) (c g : Int) : Int := (if 0 ≤ g then (nw_ (drw_ T) c 0 (ll_ T) (gf_ T) : Int) else 0) + (if 1 ≤ g then (nw_ (drw_ T) c 1 (ll_ T) (gf_ T) : Int) else 0) + (if 2 ≤ g then (nw_ (drw_ T) c 2 (ll_ T) (gf_ T) : Int) else 0) + (if 3 ≤ g then (nw_ (drw_ T) c 3 (ll_ T) (gf_ T) : Int) else 0)
theorem sgm_s {T : Zt} {c g : Int} (h : -1 ≤ g ∧ g < 3) : sgm_ T c (g + 1) = sgm_ T c g + (nw_ (drw_ T) c (g + 1) (ll_ T) (gf_ T) : Int) := sorry
theorem sgm_3 {T : Zt} {c : Int} (h0 : 0 ≤ T 111 0 12) (hc : 0 ≤ c ∧ c < T 111 0 12) (hg : T 302 0 c = -1) (hp : 0 ≤ T 301 0 c ∧ T 301 0 c ≤ 2) : sgm_ T c 3 = (nw_ (drw_ T) (-1) (-1) (ll_ T) (gf_ T) : Int) := sorry
theorem sgm_0 {T : Zt} {c : Int} : sgm_ T c (-1) = 0 := sorry
abbrev cX11_ways : ByteArray := prog_13_method_116_code
def yX11_ways : MethodName := ⟨RX11, "ways", "()I"⟩
def zX11_ways : Zm := (RX11, cX11_ways, 1, (some .int), { frames := 2, cells := 0, slots := 0, locals := 52 })
set_option maxRecDepth 100000 in
theorem cl_X11_591 : cv_ RX11 591 yX11_countWays zX11_countWays 11 2 := sorry
abbrev po_X11_ways (T : Zt) : Zt → Option Zv → Prop := fun T' r => ∃ x : Int, r = some (vI x) ∧ fr_ [(304, []), (305, []), (302, [])] T T' ∧ (x = x)
abbrev cX11_chanceOf : ByteArray := prog_13_method_117_code
def yX11_chanceOf : MethodName := ⟨RX11, "chanceOf", "(II)I"⟩
def zX11_chanceOf : Zm := (RX11, cX11_chanceOf, 3, (some .int), { frames := 2, cells := 0, slots := 0, locals := 52 })
abbrev cX11_chance : ByteArray := prog_13_method_118_code
def yX11_chance : MethodName := ⟨RX11, "chance", "(II)I"⟩
def zX11_chance : Zm := (RX11, cX11_chance, 3, (some .int), { frames := 3, cells := 0, slots := 0, locals := 74 })
set_option maxRecDepth 100000 in
theorem cl_X11_594 : cv_ RX11 594 yX11_chanceOf zX11_chanceOf 11 2 := sorry
abbrev po_X11_chance (T : Zt) (cl g : Int) : Zt → Option Zv → Prop := fun T' r => ∃ x : Int, r = some (vI x) ∧ fr_ [(304, []), (305, []), (302, [])] T T' ∧ (x = x)
abbrev cX11_takenBelow : ByteArray := prog_13_method_119_code
def yX11_takenBelow : MethodName := ⟨RX11, "takenBelow", "(I)I"⟩
def zX11_takenBelow : Zm := (RX11, cX11_takenBelow, 5, (some .int), { frames := 0, cells := 0, slots := 0, locals := 0 })
abbrev cX11_ball : ByteArray := prog_13_method_120_code
def yX11_ball : MethodName := ⟨RX11, "ball", "(IZ)I"⟩
def zX11_ball : Zm := (RX11, cX11_ball, 12, (some .int), { frames := 2, cells := 0, slots := 0, locals := 52 })
set_option maxRecDepth 100000 in
theorem cl_X11_604 : cv_ RX11 604 yX11_takenBelow zX11_takenBelow 11 1 := sorry
abbrev po_X11_ball (T : Zt) (ta fi : Int) : Zt → Option Zv → Prop := fun T' r => ∃ x : Int, r = some (vI x) ∧ fr_ [(304, []), (305, []), (302, []), (111, [103])] T T' ∧ (x = x)

/-- officials and the matches of a day: how far, who may, how many officials, from which match to which -/
abbrev Of_ : Type := (Int → Int → Int) × (Int → Int → Prop) × Int × Int × Int
def Of_.d (F : Of_) : Int → Int → Int := F.1
def Of_.A (F : Of_) : Int → Int → Prop := F.2.1
def Of_.n (F : Of_) : Int := F.2.2.1
def Of_.f (F : Of_) : Int := F.2.2.2.1
def Of_.e (F : Of_) : Int := F.2.2.2.2
def of_d (F : Of_) : Prop := ∀ i o, F.f ≤ i → i < F.e → 0 ≤ o → o < F.n → 0 ≤ F.d i o ∧ F.d i o ≤ 11
/-- the cost at which a match can pass its official on; -1 where there is none -/
def bs_ (F : Of_) (ho far : Int → Int) (i : Int) : Int := if ho i = -1 then 10000 else if far (ho i) < 0 then -1 else far (ho i) - F.d i (ho i)
/-- potentials: no way back is shorter than nothing -/
def po_ (F : Of_) (ho pi : Int → Int) : Prop := (∀ o, 0 ≤ o → o < F.n → 10000 ≤ pi o) ∧ (∀ i, F.f ≤ i → i < F.e → -1 ≤ ho i ∧ ho i < F.n) ∧
  (∀ i o, F.f ≤ i → i < F.e → 0 ≤ o → o < F.n → F.A i o → ho i ≠ o → (ho i = -1 → pi o ≤ 10000 + F.d i o) ∧ (ho i ≠ -1 → pi o ≤ pi (ho i) + F.d i o - F.d i (ho i)))
/-- what the search for ways has: each length stands over the potential, and over that of the official before -/
def fi_ (F : Of_) (ho pi far cb : Int → Int) (st : Int → Nat) (o : Int) : Prop := far o < 0 ∨ (pi o ≤ far o ∧ (F.f ≤ cb o ∧ cb o < F.e) ∧ F.A (cb o) o ∧ ho (cb o) ≠ o ∧
  ((ho (cb o) = -1 ∧ 10000 + F.d (cb o) o ≤ far o) ∨ (ho (cb o) ≠ -1 ∧ 0 ≤ far (ho (cb o)) ∧ far (ho (cb o)) - F.d (cb o) (ho (cb o)) + F.d (cb o) o ≤ far o ∧ (far (ho (cb o)) - F.d (cb o) (ho (cb o)) + F.d (cb o) o = far o → st (ho (cb o)) < st o))))
def fsn_ (f : Int → Nat) (x : Int) (g : Nat) : Int → Nat := fun k => if k = x then g else f k
theorem fsn_s (f : Int → Nat) (x : Int) (g : Nat) : fsn_ f x g x = g := sorry
theorem fsn_n {f : Int → Nat} {x k : Int} {g : Nat} (h : k ≠ x) : fsn_ f x g k = f k := sorry
/-- an official is reached, on a shorter way -/
theorem fi_u {F : Of_} {ho pi far cb : Int → Int} {st : Int → Nat} {c : Nat} {i o : Int} (P : po_ F ho pi) (H : ∀ q, 0 ≤ q → q < F.n → fi_ F ho pi far cb st q) (hc : ∀ q, st q ≤ c)
    (hi : F.f ≤ i ∧ i < F.e) (hA : F.A i o) (hn : ho i ≠ o) (ho0 : 0 ≤ o ∧ o < F.n) (hb : bs_ F ho far i ≠ -1) (hs : far o < 0 ∨ bs_ F ho far i + F.d i o < far o) :
    10000 ≤ bs_ F ho far i + F.d i o ∧ ∀ q, 0 ≤ q → q < F.n → fi_ F ho pi (fu_ far o (bs_ F ho far i + F.d i o)) (fu_ cb o i) (fsn_ st o (c + 1)) q := sorry
/-- nothing is left to shorten -/
def rx9_ (F : Of_) (ho far : Int → Int) (i o : Int) : Prop := F.A i o → ho i ≠ o → bs_ F ho far i ≠ -1 → 0 ≤ far o ∧ far o ≤ bs_ F ho far i + F.d i o
/-- all that the search leaves -/
def fx_ (F : Of_) (ho pi far cb : Int → Int) (st : Int → Nat) : Prop := po_ F ho pi ∧ (∀ q, 0 ≤ q → q < F.n → fi_ F ho pi far cb st q) ∧ ∀ i o, F.f ≤ i → i < F.e → 0 ≤ o → o < F.n → rx9_ F ho far i o
/-- an official that is reached: the way by which -/
theorem fx_t {F : Of_} {ho far pi cb : Int → Int} {st : Int → Nat} (D : of_d F) (X : fx_ F ho pi far cb st) {o : Int} (h : 0 ≤ o ∧ o < F.n) (hr : 0 ≤ far o) :
    pi o ≤ far o ∧ (F.f ≤ cb o ∧ cb o < F.e) ∧ F.A (cb o) o ∧ ho (cb o) ≠ o ∧ ((ho (cb o) = -1 ∧ far o = 10000 + F.d (cb o) o) ∨ ((0 ≤ ho (cb o) ∧ ho (cb o) < F.n) ∧ 0 ≤ far (ho (cb o)) ∧ far o = far (ho (cb o)) - F.d (cb o) (ho (cb o)) + F.d (cb o) o ∧ st (ho (cb o)) < st o)) := sorry
/-- the new potentials -/
def pn_ (pi far : Int → Int) (D : Int) : Int → Int := fun o => if far o < 0 then pi o + D else if far o ≤ pi o + D then far o else pi o + D
/-- a match that got another official on the way -/
def chg_ (F : Of_) (ho h1 pi far : Int → Int) (D i : Int) : Prop := (0 ≤ h1 i ∧ h1 i < F.n) ∧ 0 ≤ far (h1 i) ∧ far (h1 i) ≤ pi (h1 i) + D ∧
  ((ho i = -1 ∧ far (h1 i) = 10000 + F.d i (h1 i)) ∨ (0 ≤ ho i ∧ 0 ≤ far (ho i) ∧ far (ho i) ≤ pi (ho i) + D ∧ far (h1 i) = far (ho i) - F.d i (ho i) + F.d i (h1 i)))
/-- the state while a way is gone back: o is the official still to be placed -/
def wy_ (F : Of_) (ho h1 pi far : Int → Int) (st : Int → Nat) (D o : Int) : Prop := (o = -1 ∨ ((0 ≤ o ∧ o < F.n) ∧ 0 ≤ far o ∧ far o ≤ pi o + D)) ∧
  ∀ i, F.f ≤ i → i < F.e → h1 i = ho i ∨ (chg_ F ho h1 pi far D i ∧ (o ≠ -1 → ho i ≠ -1 ∧ st o ≤ st (ho i)))
theorem wy_s {F : Of_} {ho h1 far pi cb : Int → Int} {st : Int → Nat} {D o : Int} (Q : of_d F) (X : fx_ F ho pi far cb st) (W : wy_ F ho h1 pi far st D o) (h : o ≠ -1) :
    (F.f ≤ cb o ∧ cb o < F.e) ∧ h1 (cb o) = ho (cb o) ∧ wy_ F ho (fu_ h1 (cb o) o) pi far st D (h1 (cb o)) ∧ (h1 (cb o) = -1 ∨ st (h1 (cb o)) < st o) := sorry
/-- the way is gone back: the new potentials hold -/
theorem wy_e {F : Of_} {ho h1 far pi cb : Int → Int} {st : Int → Nat} {D : Int} (Q : of_d F) (X : fx_ F ho pi far cb st) (hD : 0 ≤ D) (W : wy_ F ho h1 pi far st D (-1)) : po_ F h1 (pn_ pi far D) := sorry
/-- lengths, summed; what is not reached counts 20000 -/
def m1_ (v : Int) : Int := if v < 0 then 20000 else v
def mu8_ (f : Int → Int) : Int := m1_ (f 0) + m1_ (f 1) + m1_ (f 2) + m1_ (f 3) + m1_ (f 4) + m1_ (f 5) + m1_ (f 6) + m1_ (f 7)
def r1_ (v : Int) : Int := if v < 0 then 0 else 1
def rc8_ (f : Int → Int) : Int := r1_ (f 0) + r1_ (f 1) + r1_ (f 2) + r1_ (f 3) + r1_ (f 4) + r1_ (f 5) + r1_ (f 6) + r1_ (f 7)
theorem m1_n (v : Int) : 0 ≤ m1_ v := sorry
theorem r1_n (v : Int) : 0 ≤ r1_ v ∧ r1_ v ≤ 1 := sorry
theorem mu8_n (f : Int → Int) : 0 ≤ mu8_ f := sorry
theorem rc8_n (f : Int → Int) : 0 ≤ rc8_ f ∧ rc8_ f ≤ 8 := sorry
theorem mu8_u {f : Int → Int} {o v : Int} (h : 0 ≤ o ∧ o < 8) : mu8_ (fu_ f o v) = mu8_ f - m1_ (f o) + m1_ v ∧ rc8_ (fu_ f o v) = rc8_ f - r1_ (f o) + r1_ v := sorry
/-- the lengths are within what their number allows -/
def fb_ (n : Int) (f : Int → Int) : Prop := ∀ o, 0 ≤ o → o < n → f o ≤ 10000 + 11 * rc8_ f
theorem fb_u {n : Int} {f : Int → Int} {o v : Int} (h : fb_ n f) (hn : n ≤ 8) (ho : 0 ≤ o ∧ o < n) (hs : f o < 0 ∨ v < f o) (h0 : 0 ≤ v) (hv : v ≤ 10011 + 11 * rc8_ f) : fb_ n (fu_ f o v) ∧ mu8_ (fu_ f o v) < mu8_ f := sorry
def fm9_ (mr mu : Int) : Nat := if mr = 0 then 0 else (mu + 1).toNat
theorem fm9_l {mr mr' mu mu' : Int} (h : mr ≠ 0) (h0 : 0 ≤ mu) (h1 : 0 ≤ mu') (k : mr' = 0 ∨ mu' < mu) : fm9_ mr' mu' < fm9_ mr mu := sorry
/-- how many hold no match -/
def nh_ (f : Int → Int) : Int := r1_ (-1 - f 0) + r1_ (-1 - f 1) + r1_ (-1 - f 2) + r1_ (-1 - f 3) + r1_ (-1 - f 4) + r1_ (-1 - f 5) + r1_ (-1 - f 6) + r1_ (-1 - f 7)
theorem nh_n (f : Int → Int) : 0 ≤ nh_ f := sorry
theorem nh_l {f g : Int → Int} {o : Int} (ho : 0 ≤ o ∧ o < 8) (h : ∀ k, 0 ≤ k → k < 8 → -1 ≤ g k ∧ (f k ≠ -1 → g k ≠ -1)) (hf : ∀ k, 0 ≤ k → k < 8 → -1 ≤ f k) (h1 : f o = -1) (h2 : g o ≠ -1) : nh_ g < nh_ f := sorry
def di_ (T : Zt) (m o : Int) : Int := if (T 222 0 o - T 213 0 (T 232 0 m)) < 0 then -(T 222 0 o - T 213 0 (T 232 0 m)) else (T 222 0 o - T 213 0 (T 232 0 m))
def ld_ (T : Zt) (m o : Int) : Prop := T 223 0 o ≠ T 214 0 (T 232 0 m) ∧ T 223 0 o ≠ T 214 0 (T 233 0 m)
abbrev cX11_mayLead : ByteArray := prog_13_method_122_code
def yX11_mayLead : MethodName := ⟨RX11, "mayLead", "(II)Z"⟩
def zX11_mayLead : Zm := (RX11, cX11_mayLead, 3, (some .boolean), { frames := 0, cells := 0, slots := 0, locals := 0 })
abbrev po_X11_mayLead (T : Zt) (m o : Int) : Zt → Option Zv → Prop := fun T' r => T = T' ∧ ∃ x : Int, r = some (vI x) ∧ ((x = 1 ∧ ld_ T m o) ∨ (x = 0 ∧ ¬ ld_ T m o))
set_option maxHeartbeats 4000000 in
theorem ct_X11_mayLead {T : Zt} {m o : Int} (h1 : 0 ≤ m ∧ m < 400) (h2 : 0 ≤ o ∧ o < 8) : Ct_ yX11_mayLead zX11_mayLead T [vR 111 0, vI m, vI o] (po_X11_mayLead T m o) := sorry
abbrev cX11_distanceOf : ByteArray := prog_13_method_123_code
def yX11_distanceOf : MethodName := ⟨RX11, "distanceOf", "(II)I"⟩
def zX11_distanceOf : Zm := (RX11, cX11_distanceOf, 4, (some .int), { frames := 0, cells := 0, slots := 0, locals := 0 })
abbrev po_X11_distanceOf (T : Zt) (m o : Int) : Zt → Option Zv → Prop := fun T' r => T = T' ∧ r = some (vI (di_ T m o))
set_option maxHeartbeats 4000000 in
theorem ct_X11_distanceOf {T : Zt} {m o : Int} (h1 : 0 ≤ m ∧ m < 400) (h2 : 0 ≤ o ∧ o < 8) : Ct_ yX11_distanceOf zX11_distanceOf T [vR 111 0, vI m, vI o] (po_X11_distanceOf T m o) := sorry
abbrev cX11_reach : ByteArray := prog_13_method_124_code
def yX11_reach : MethodName := ⟨RX11, "reach", "(III)Z"⟩
def zX11_reach : Zm := (RX11, cX11_reach, 5, (some .boolean), { frames := 0, cells := 0, slots := 0, locals := 0 })
abbrev po_X11_reach (T : Zt) (i o l : Int) : Zt → Option Zv → Prop := fun T' r => ∃ x : Int, r = some (vI x) ∧ fr_ [(309, []), (310, [])] T T' ∧ ((x = 1 ∧ (T 309 0 o < 0 ∨ l < T 309 0 o) ∧ (fun k => T' 309 0 k) = fu_ (fun k => T 309 0 k) o l ∧ (fun k => T' 310 0 k) = fu_ (fun k => T 310 0 k) o i) ∨ (x = 0 ∧ 0 ≤ T 309 0 o ∧ T 309 0 o ≤ l ∧ (fun k => T' 309 0 k) = (fun k => T 309 0 k) ∧ (fun k => T' 310 0 k) = (fun k => T 310 0 k)))
set_option maxHeartbeats 4000000 in
theorem ct_X11_reach {T : Zt} {i o l : Int} (h1 : 0 ≤ i ∧ i < 400) (h2 : 0 ≤ o ∧ o < 8) : Ct_ yX11_reach zX11_reach T [vR 111 0, vI i, vI o, vI l] (po_X11_reach T i o l) := sorry
def ofs_ (T : Zt) (tk f : Int) : Of_ := ⟨fun i o => di_ T (T 306 0 i) o, fun i o => an_ (sr_ tk o) 1 = 0 ∧ ld_ T (T 306 0 i) o, T 111 0 21, f, T 111 0 107⟩
def gh_ (T : Zt) : Int → Int := fun k => T 311 0 k
def far_ (T : Zt) : Int → Int := fun k => T 309 0 k
def cby_ (T : Zt) : Int → Int := fun k => T 310 0 k
/-- the search's state -/
def FQ_ (T T1 : Zt) (tk f : Int) (pi : Int → Int) (st : Int → Nat) (c : Nat) : Prop := (∀ q, 0 ≤ q → q < T 111 0 21 → fi_ (ofs_ T tk f) (gh_ T) pi (far_ T1) (cby_ T1) st q) ∧ (∀ q, st q ≤ c) ∧ fb_ (T 111 0 21) (far_ T1)
theorem fq_e {T T1 T2 : Zt} {tk f : Int} {pi : Int → Int} {st : Int → Nat} {c : Nat} (h : FQ_ T T1 tk f pi st c) (a : far_ T2 = far_ T1) (b : cby_ T2 = cby_ T1) : FQ_ T T2 tk f pi st c := sorry
theorem di_e {T T1 : Zt} {m o : Int} (a : ∀ k, T1 222 0 k = T 222 0 k) (b : ∀ k, T1 213 0 k = T 213 0 k) (c : ∀ k, T1 232 0 k = T 232 0 k) : di_ T1 m o = di_ T m o := sorry
theorem ld_e {T T1 : Zt} {m o : Int} (a : ∀ k, T1 223 0 k = T 223 0 k) (b : ∀ k, T1 214 0 k = T 214 0 k) (c : ∀ k, T1 232 0 k = T 232 0 k) (d : ∀ k, T1 233 0 k = T 233 0 k) : ld_ T1 m o ↔ ld_ T m o := sorry
/-- nothing to shorten before match i, and none at i before official o -/
def RL_ (T T1 : Zt) (tk f i o : Int) : Prop := (∀ j q, f ≤ j → j < i → 0 ≤ q → q < T 111 0 21 → rx9_ (ofs_ T tk f) (gh_ T) (far_ T1) j q) ∧ ∀ q, 0 ≤ q → q < o → rx9_ (ofs_ T tk f) (gh_ T) (far_ T1) i q
/-- how the lengths have sunk since T1 -/
def PG_ (T1 T2 : Zt) (mr : Int) : Prop := mu8_ (far_ T2) ≤ mu8_ (far_ T1) ∧ (mr ≠ 0 → mu8_ (far_ T2) < mu8_ (far_ T1))
theorem of_9 {T : Zt} {tk f : Int} (hd : ∀ i o, f ≤ i → i < T 111 0 107 → 0 ≤ o → o < T 111 0 21 → 0 ≤ di_ T (T 306 0 i) o ∧ di_ T (T 306 0 i) o ≤ 11) : of_d (ofs_ T tk f) := sorry
abbrev cX11_findPaths : ByteArray := prog_13_method_125_code
def yX11_findPaths : MethodName := ⟨RX11, "findPaths", "(II)V"⟩
def zX11_findPaths : Zm := (RX11, cX11_findPaths, 8, none, { frames := 1, cells := 0, slots := 0, locals := 24 })
set_option maxRecDepth 100000 in
theorem cl_X11_613 : cv_ RX11 613 yX11_mayLead zX11_mayLead 11 2 := sorry
set_option maxRecDepth 100000 in
theorem cl_X11_610 : cv_ RX11 610 yX11_distanceOf zX11_distanceOf 11 2 := sorry
set_option maxRecDepth 100000 in
theorem cl_X11_616 : cv_ RX11 616 yX11_reach zX11_reach 11 3 := sorry
abbrev po_X11_findPaths (T : Zt) (pi : Int → Int) (f tk : Int) : Zt → Option Zv → Prop := fun T' r => r = none ∧ fr_ [(309, []), (310, [])] T T' ∧ (∃ st : Int → Nat, fx_ (ofs_ T tk f) (gh_ T) pi (far_ T') (cby_ T') st)
set_option maxHeartbeats 4000000 in
theorem ct_X11_findPaths {T : Zt} {pi : Int → Int} {f tk : Int} (h1 : 0 ≤ f) (P : po_ (ofs_ T tk f) (gh_ T) pi) : Ct_ yX11_findPaths zX11_findPaths T [vR 111 0, vI f, vI tk] (po_X11_findPaths T pi f tk) := sorry
def hld_ (T : Zt) : Int → Int := fun k => T 308 0 k
def sm9_ (st : Int → Nat) (o : Int) : Nat := if o = -1 then 0 else st o + 1
theorem ofs_e {T T1 : Zt} {tk f : Int} (a : ∀ k, T1 222 0 k = T 222 0 k) (b : ∀ k, T1 213 0 k = T 213 0 k) (c : ∀ k, T1 232 0 k = T 232 0 k) (d : ∀ k, T1 233 0 k = T 233 0 k) (e : ∀ k, T1 223 0 k = T 223 0 k) (g : ∀ k, T1 214 0 k = T 214 0 k) (h : ∀ k, T1 306 0 k = T 306 0 k) (i : T1 111 0 21 = T 111 0 21) (j : T1 111 0 107 = T 111 0 107) : ofs_ T1 tk f = ofs_ T tk f := sorry
theorem po_0 {F : Of_} {ho : Int → Int} (D : of_d F) (hn : 0 ≤ F.n) (h : ∀ i, F.f ≤ i → i < F.e → ho i = -1) : po_ F ho (fun _ => 10000) := sorry
theorem fx_p {F : Of_} {ho far pi cb : Int → Int} {st : Int → Nat} (X : fx_ F ho pi far cb st) {o : Int} (h : 0 ≤ o ∧ o < F.n) (hr : 0 ≤ far o) : pi o ≤ far o := sorry
theorem nh_m {f g : Int → Int} (h : ∀ k, 0 ≤ k → k < 8 → -1 ≤ g k ∧ (f k ≠ -1 → g k ≠ -1)) (hf : ∀ k, 0 ≤ k → k < 8 → -1 ≤ f k) : nh_ g ≤ nh_ f := sorry
theorem nh_8 (f : Int → Int) : nh_ f ≤ 8 := sorry
abbrev cX11_matchRest : ByteArray := prog_13_method_126_code
def yX11_matchRest : MethodName := ⟨RX11, "matchRest", "(II)V"⟩
def zX11_matchRest : Zm := (RX11, cX11_matchRest, 8, none, { frames := 2, cells := 0, slots := 0, locals := 51 })
set_option maxRecDepth 100000 in
theorem cl_X11_625 : cv_ RX11 625 yX11_findPaths zX11_findPaths 11 2 := sorry
abbrev po_X11_matchRest (T : Zt) (f tk : Int) : Zt → Option Zv → Prop := fun T' r => r = none ∧ fr_ [(308, []), (311, []), (309, []), (310, []), (111, [112, 113])] T T' ∧ (0 ≤ T' 111 0 112 ∧ T' 111 0 112 ≤ 8)
set_option maxHeartbeats 4000000 in
theorem ct_X11_matchRest {T : Zt} {f tk : Int} (h1 : 0 ≤ f) : Ct_ yX11_matchRest zX11_matchRest T [vR 111 0, vI f, vI tk] (po_X11_matchRest T f tk) := sorry
abbrev cX11_assign : ByteArray := prog_13_method_127_code
def yX11_assign : MethodName := ⟨RX11, "assign", "(I)I"⟩
def zX11_assign : Zm := (RX11, cX11_assign, 9, (some .int), { frames := 3, cells := 0, slots := 0, locals := 78 })
set_option maxRecDepth 100000 in
theorem cl_X11_628 : cv_ RX11 628 yX11_matchRest zX11_matchRest 11 2 := sorry
abbrev po_X11_assign (T : Zt) (d : Int) : Zt → Option Zv → Prop := fun T' r => ∃ x : Int, r = some (vI x) ∧ fr_ [(306, []), (308, []), (311, []), (309, []), (310, []), (238, []), (111, [107, 112, 113])] T T' ∧ (x = x)
set_option maxHeartbeats 4000000 in
theorem ct_X11_assign {T : Zt} {d : Int} : Ct_ yX11_assign zX11_assign T [vR 111 0, vI d] (po_X11_assign T d) := sorry
/-- matches of c are added; behind them nothing is changed -/
def am2_ (T T' : Zt) (c : Int) : Prop := T 111 0 29 ≤ T' 111 0 29 ∧ (∀ j, j < T 111 0 29 → T' 230 0 j = T 230 0 j ∧ T' 231 0 j = T 231 0 j ∧ T' 232 0 j = T 232 0 j ∧ T' 233 0 j = T 233 0 j ∧ T' 234 0 j = T 234 0 j ∧ T' 235 0 j = T 235 0 j ∧ T' 238 0 j = T 238 0 j ∧ T' 253 0 j = T 253 0 j ∧ T' 255 0 j = T 255 0 j) ∧ (∀ j, T 111 0 29 ≤ j → j < T' 111 0 29 → T' 230 0 j = c ∧ T' 235 0 j = 0 ∧ T' 253 0 j = -1 ∧ T' 255 0 j = -1) ∧ ∀ j, T' 111 0 29 ≤ j → T' 235 0 j = T 235 0 j
theorem am2_s {T T1 T2 : Zt} {c : Int} (h : am2_ T T1 c) (g : am1_ T1 T2 c) : am2_ T T2 c := sorry
abbrev po_X11_competition_k (T : Zt) : Zt → Option Zv → Prop := fun T' r => ∃ x : Int, r = some (vI x) ∧ fr_ [(111, [1, 2, 6, 57, 58, 59, 60, 61, 62, 63]), (204, []), (269, []), (270, []), (205, [])] T T' ∧ ((x < 0 ∧ T' 111 0 6 = T 111 0 6 ∨ x = T 111 0 6 ∧ T' 111 0 6 = x + 1) ∧ RI_ T' ∧ RW_ T' ∧ ∀ j, j < 23 * T 111 0 6 → T' 205 0 j = T 205 0 j)
abbrev po_X11_plan_k (T : Zt) (c f : Int) : Zt → Option Zv → Prop := fun T' r => ∃ x : Int, r = some (vI x) ∧ fr_ [(230, []), (231, []), (232, []), (233, []), (234, []), (235, []), (238, []), (253, []), (255, []), (111, [29]), (209, []), (210, []), (211, [])] T T' ∧ ((x < 0 ∧ T = T') ∨ (0 ≤ c ∧ c < T 111 0 6 ∧ am2_ T T' c ∧ T' 111 0 29 ≤ 400 ∧ T' 210 0 c = T 111 0 29 ∧ T' 211 0 c = T' 111 0 29 - T 111 0 29 ∧ (∀ z, z ≠ c → T' 210 0 z = T 210 0 z ∧ T' 211 0 z = T 211 0 z ∧ T' 209 0 z = T 209 0 z)))
abbrev po_X11_lineUp_k (T : Zt) (p m sd : Int) : Zt → Option Zv → Prop := fun T' r => ∃ x : Int, r = some (vI x) ∧ fr_ [(239, []), (240, [])] T T' ∧ (SH_ T' ∧ ∀ z, T 239 0 z ≤ T' 239 0 z)
set_option maxHeartbeats 4000000 in
theorem ct_X11_lineUp_k {T : Zt} {p m sd : Int} (hml : ML_ T) (hmc : MC_ T) (hri : RI_ T) (hsh : SH_ T) : Ct_ yX11_lineUp zX11_lineUp T [vR 111 0, vI p, vI m, vI sd] (po_X11_lineUp_k T p m sd) := sorry
theorem rz_f {T T1 : Zt} (h : RZ_ T) (a : T1 111 0 29 = T 111 0 29) (b : ∀ j, T1 254 0 j = T 254 0 j) (c : ∀ j, T1 256 0 j = T 256 0 j) : RZ_ T1 := sorry
/-- what holds between the calls -/
def IR_ (T : Zt) : Prop := CW_ T ∧ RI_ T ∧ RW_ T ∧ EN_ T ∧ ML_ T ∧ MC_ T ∧ SH_ T ∧ FM_ T ∧ RX_ T [] ∧ RZ_ T ∧ ZS_ T ∧ GX_ T (-1)
theorem en_c {T T1 : Zt} (h : EN_ T) (a : ∀ j, T1 208 0 j = T 208 0 j) (b : ∀ j, T1 207 0 j = T 207 0 j) (c : T 111 0 12 ≤ T1 111 0 12) : EN_ T1 := sorry
theorem mc_c {T T1 : Zt} (h : MC_ T) (a : ∀ j, T1 230 0 j = T 230 0 j) (b : T1 111 0 29 = T 111 0 29) (c : T 111 0 6 ≤ T1 111 0 6) : MC_ T1 := sorry
theorem sh_c {T T1 : Zt} (h : SH_ T) (g : MC_ T) (nn : ∀ j, 0 ≤ j → 0 ≤ T 230 0 j) (a : ∀ j, T1 230 0 j = T 230 0 j) (b : T1 111 0 29 = T 111 0 29) (c : ∀ j, T1 239 0 j = T 239 0 j) (d : ∀ j, j < 23 * T 111 0 6 → T1 205 0 j = T 205 0 j) : SH_ T1 := sorry
theorem zs_l {T T1 : Zt} (h : ZS_ T) (a : ∀ j, T1 242 0 j = T 242 0 j) (c : ∀ j, T 239 0 j ≤ T1 239 0 j) : ZS_ T1 := sorry
theorem rz_o {T T1 : Zt} {m : Int} (h : RZ_ T) (a : T1 111 0 29 = T 111 0 29) (b : ∀ j, j ≠ m ∨ T 111 0 29 ≤ j → T1 254 0 j = T 254 0 j ∧ T1 256 0 j = T 256 0 j) : RZ_ T1 := sorry
theorem ml_p {T T1 : Zt} {c : Int} (h : ML_ T) (le : T 111 0 29 ≤ T1 111 0 29) (a : T1 210 0 c = T 111 0 29) (b : T1 211 0 c = T1 111 0 29 - T 111 0 29) (d : ∀ z, z ≠ c → T1 210 0 z = T 210 0 z ∧ T1 211 0 z = T 211 0 z ∧ T1 209 0 z = T 209 0 z) : ML_ T1 := sorry
theorem mc_p {T T1 : Zt} {c : Int} (h : MC_ T) (hc : c < T 111 0 6) (a : am2_ T T1 c) (b : T1 111 0 6 = T 111 0 6) : MC_ T1 := sorry
theorem sh_p {T T1 : Zt} {c : Int} (h : SH_ T) (g : RI_ T) (hc : 0 ≤ c ∧ c < T 111 0 6) (a : am2_ T T1 c) (b : ∀ j, T1 239 0 j = T 239 0 j) (d : ∀ j, T1 205 0 j = T 205 0 j) : SH_ T1 := sorry
theorem fm_p {T T1 : Zt} {c : Int} (h : FM_ T) (a : am2_ T T1 c) (b : ∀ j, T1 244 0 j = T 244 0 j) : FM_ T1 := sorry
theorem ir_sign {T T' : Zt} {c : Int} {r : Option Zv} (h : IR_ T) (p : po_X11_sign T c T' r) : IR_ T' := sorry
theorem ir_wipe {T T' : Zt} {r : Option Zv} (h : IR_ T) (p : po_X11_wipe T  T' r) : IR_ T' := sorry
theorem ir_competition {T T' : Zt} {r : Option Zv} (hT : ok_T T) (h : IR_ T) (p : po_X11_competition_k T  T' r) : IR_ T' := sorry
theorem ir_club {T T' : Zt} {s c : Int} {r : Option Zv} (h : IR_ T) (p : po_X11_club T s c T' r) : IR_ T' := sorry
theorem ir_person {T T' : Zt} {r : Option Zv} (h : IR_ T) (p : po_X11_person T  T' r) : IR_ T' := sorry
theorem ir_register {T T' : Zt} {p cl fr to : Int} {r : Option Zv} (h : IR_ T) (p : po_X11_register T p cl fr to T' r) : IR_ T' := sorry
theorem ir_official {T T' : Zt} {s c : Int} {r : Option Zv} (h : IR_ T) (p : po_X11_official T s c T' r) : IR_ T' := sorry
theorem ir_day {T T' : Zt} {d : Int} {r : Option Zv} (h : IR_ T) (p : po_X11_day T d T' r) : IR_ T' := sorry
theorem ir_enter {T T' : Zt} {c cl : Int} {r : Option Zv} (h : IR_ T) (p : po_X11_enter T c cl T' r) : IR_ T' := sorry
theorem ir_postpone {T T' : Zt} {m d : Int} {r : Option Zv} (h : IR_ T) (p : po_X11_postpone T m d T' r) : IR_ T' := sorry
theorem ir_deduct {T T' : Zt} {c cl p : Int} {r : Option Zv} (h : IR_ T) (p : po_X11_deduct T c cl p T' r) : IR_ T' := sorry
theorem ir_lineUp {T T' : Zt} {p m sd : Int} {r : Option Zv} (h : IR_ T) (p : po_X11_lineUp_k T p m sd T' r) : IR_ T' := sorry
theorem ir_start {T T' : Zt} {m : Int} {r : Option Zv} (h : IR_ T) (p : po_X11_start T m T' r) : IR_ T' := sorry
theorem ir_walkOver {T T' : Zt} {m s : Int} {r : Option Zv} (h : IR_ T) (p : po_X11_walkOver T m s T' r) : IR_ T' := sorry
theorem ir_event {T T' : Zt} {m k s p q9 : Int} {r : Option Zv} (h : IR_ T) (p : po_X11_event T m k s p q9 T' r) : IR_ T' := sorry
theorem ir_review {T T' : Zt} {m i k s p q9 : Int} {r : Option Zv} (h : IR_ T) (p : po_X11_review T m i k s p q9 T' r) : IR_ T' := sorry
theorem ir_table {T T' : Zt} {c d cl w : Int} {r : Option Zv} (h : IR_ T) (p : po_X11_table T c d cl w T' r) : IR_ T' := sorry
theorem ir_standing {T T' : Zt} {c d k : Int} {r : Option Zv} (h : IR_ T) (p : po_X11_standing T c d k T' r) : IR_ T' := sorry
theorem ir_parted {T T' : Zt} {c d k : Int} {r : Option Zv} (h : IR_ T) (p : po_X11_parted T c d k T' r) : IR_ T' := sorry
theorem ir_can {T T' : Zt} {c cl : Int} {r : Option Zv} (h : IR_ T) (p : po_X11_can T c cl T' r) : IR_ T' := sorry
theorem ir_firsts {T T' : Zt} {c cl : Int} {r : Option Zv} (h : IR_ T) (p : po_X11_firsts T c cl T' r) : IR_ T' := sorry
theorem ir_drawing {T T' : Zt} {g l : Int} {r : Option Zv} (h : IR_ T) (p : po_X11_drawing T g l T' r) : IR_ T' := sorry
theorem ir_pot {T T' : Zt} {cl p : Int} {r : Option Zv} (h : IR_ T) (p : po_X11_pot T cl p T' r) : IR_ T' := sorry
theorem ir_ways {T T' : Zt} {r : Option Zv} (h : IR_ T) (p : po_X11_ways T  T' r) : IR_ T' := sorry
theorem ir_chance {T T' : Zt} {cl g : Int} {r : Option Zv} (h : IR_ T) (p : po_X11_chance T cl g T' r) : IR_ T' := sorry
theorem ir_ball {T T' : Zt} {ta fi : Int} {r : Option Zv} (h : IR_ T) (p : po_X11_ball T ta fi T' r) : IR_ T' := sorry
theorem ir_assign {T T' : Zt} {d : Int} {r : Option Zv} (h : IR_ T) (p : po_X11_assign T d T' r) : IR_ T' := sorry
theorem ir_plan {T T' : Zt} {c g : Int} {r : Option Zv} (hT : ok_T T) (h : IR_ T) (p : po_X11_plan_k T c g T' r) : IR_ T' := sorry
