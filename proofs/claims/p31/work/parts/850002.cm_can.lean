def qm_wipe (N : Int) (T : Zt) (T' : Zt) (r : Option Zv) : Prop := ∃ x : Int, r = some (vI x) ∧ IC_ N T' ∧ IR_ T' ∧ fr_ [(111, [1])] T T' ∧ ((T' 111 0 1 = 0 ∧ x = T 111 0 1))
set_option maxRecDepth 100000 in
theorem cm_wipe {N : Int} {T : Zt} (hT : ok_T T) (hI : IC_ N T) (hR : IR_ T) : Cw_ yX11_wipe zX11_wipe T [vR 111 0] (qm_wipe N T) := by
  refine ⟨_, ct_X11_wipe , fun T1 r q => ?_⟩
  have g := (ir_wipe hR q)
  obtain ⟨x, rfl, f, h⟩ := q
  exact ⟨x, rfl, ic_g hI (fr_s f (by decide +kernel)), g, f, h⟩
def qm_competition (N : Int) (T : Zt) (T' : Zt) (r : Option Zv) : Prop := ∃ x : Int, r = some (vI x) ∧ IC_ N T' ∧ IR_ T' ∧ fr_ [(111, [1, 2, 6, 57, 58, 59, 60, 61, 62, 63]), (204, []), (269, []), (270, []), (205, [])] T T' ∧ (((x < 0 ∧ T' 111 0 6 = T 111 0 6 ∨ x = T 111 0 6 ∧ T' 111 0 6 = x + 1) ∧ RI_ T' ∧ RW_ T' ∧ (∀ j, j < 23 * T 111 0 6 → T' 205 0 j = T 205 0 j) ∧ CR9_ T T' x))
set_option maxRecDepth 100000 in
theorem cm_competition {N : Int} {T : Zt} (hT : ok_T T) (hI : IC_ N T) (hR : IR_ T) : Cw_ yX11_competition zX11_competition T [vR 111 0] (qm_competition N T) := by
  refine ⟨_, ct_X11_competition_e hR.1 hR.2.1 hR.2.2.1, fun T1 r q => ?_⟩
  obtain ⟨x, rfl, f, h⟩ := q
  have g := (ir_competition hT hR (show po_X11_competition_k T T1 (some (vI x)) from ⟨x, rfl, f, h.1, h.2.1, h.2.2.1, h.2.2.2.1⟩))
  exact ⟨x, rfl, ic_g hI (fr_s f (by decide +kernel)), g, f, h⟩
def qm_fault (N : Int) (T : Zt) (T' : Zt) (r : Option Zv) : Prop := ∃ x : Int, r = some (vI x) ∧ IC_ N T' ∧ IR_ T' ∧ fr_ [] T T' ∧ (x = T 111 0 2)
set_option maxRecDepth 100000 in
theorem cm_fault {N : Int} {T : Zt} (hT : ok_T T) (hI : IC_ N T) (hR : IR_ T) : Cw_ yX11_fault zX11_fault T [vR 111 0] (qm_fault N T) := by
  refine ⟨_, ct_X11_fault_e , fun T1 r q => ?_⟩
  obtain ⟨e, x, rfl, h⟩ := q
  subst e
  exact ⟨x, rfl, hI, hR, fr_0 _ _, h⟩
def qm_rule (N : Int) (T : Zt) (c9 w9 : Int) (T' : Zt) (r : Option Zv) : Prop := ∃ x : Int, r = some (vI x) ∧ IC_ N T' ∧ IR_ T' ∧ fr_ [] T T' ∧ ((x = -2 ∧ ¬ (0 ≤ c9 ∧ c9 < T 111 0 6)) ∨ ((0 ≤ c9 ∧ c9 < T 111 0 6) ∧ x = -3 ∧ ¬ (0 ≤ w9 ∧ w9 < 23)) ∨ ((0 ≤ c9 ∧ c9 < T 111 0 6) ∧ (0 ≤ w9 ∧ w9 < 23) ∧ x = T 205 0 (23 * c9 + w9)))
set_option maxRecDepth 100000 in
theorem cm_rule {N : Int} {T : Zt} {c9 w9 : Int} (hT : ok_T T) (hI : IC_ N T) (hR : IR_ T) : Cw_ yX11_rule zX11_rule T [vR 111 0, vI c9, vI w9] (qm_rule N T c9 w9) := by
  refine ⟨_, ct_X11_rule_e , fun T1 r q => ?_⟩
  obtain ⟨e, x, rfl, h⟩ := q
  subst e
  exact ⟨x, rfl, hI, hR, fr_0 _ _, h⟩
def qm_club (N : Int) (T : Zt) (s9 c9 : Int) (T' : Zt) (r : Option Zv) : Prop := ∃ x : Int, r = some (vI x) ∧ IC_ N T' ∧ IR_ T' ∧ fr_ [(111, [12]), (213, []), (214, [])] T T' ∧ ((((x = -3 ∧ ¬ (0 ≤ s9 ∧ s9 ≤ 11 ∧ 0 ≤ c9 ∧ c9 ≤ 7) ∧ T' 111 0 12 = T 111 0 12) ∨ ((0 ≤ s9 ∧ s9 ≤ 11 ∧ 0 ≤ c9 ∧ c9 ≤ 7) ∧ T 111 0 12 = 12 ∧ x = -5 ∧ T' 111 0 12 = T 111 0 12) ∨ ((0 ≤ s9 ∧ s9 ≤ 11 ∧ 0 ≤ c9 ∧ c9 ≤ 7) ∧ T 111 0 12 < 12 ∧ x = T 111 0 12 ∧ T' 111 0 12 = T 111 0 12 + 1)) ∧ TG9_ 111 12 12 213 214 T T' s9 c9 x))
set_option maxRecDepth 100000 in
theorem cm_club {N : Int} {T : Zt} {s9 c9 : Int} (hT : ok_T T) (hI : IC_ N T) (hR : IR_ T) : Cw_ yX11_club zX11_club T [vR 111 0, vI s9, vI c9] (qm_club N T s9 c9) := by
  refine ⟨_, ct_X11_club_e , fun T1 r q => ?_⟩
  obtain ⟨x, rfl, f, h⟩ := q
  have g := (ir_club hR (show po_X11_club T s9 c9 T1 (some (vI x)) from ⟨x, rfl, f, h.1⟩))
  exact ⟨x, rfl, ic_g hI (fr_s f (by decide +kernel)), g, f, h⟩
def qm_person (N : Int) (T : Zt) (T' : Zt) (r : Option Zv) : Prop := ∃ x : Int, r = some (vI x) ∧ IC_ N T' ∧ IR_ T' ∧ fr_ [(111, [15])] T T' ∧ (((x = -3 ∧ ¬ (0 = (0 : Int)) ∧ T' 111 0 15 = T 111 0 15) ∨ ((0 = (0 : Int)) ∧ T 111 0 15 = 200 ∧ x = -5 ∧ T' 111 0 15 = T 111 0 15) ∨ ((0 = (0 : Int)) ∧ T 111 0 15 < 200 ∧ x = T 111 0 15 ∧ T' 111 0 15 = T 111 0 15 + 1)))
set_option maxRecDepth 100000 in
theorem cm_person {N : Int} {T : Zt} (hT : ok_T T) (hI : IC_ N T) (hR : IR_ T) : Cw_ yX11_person zX11_person T [vR 111 0] (qm_person N T) := by
  refine ⟨_, ct_X11_person , fun T1 r q => ?_⟩
  have g := (ir_person hR q)
  obtain ⟨x, rfl, f, h⟩ := q
  exact ⟨x, rfl, ic_g hI (fr_s f (by decide +kernel)), g, f, h⟩
def qm_register (N : Int) (T : Zt) (p9 c9 f9 t9 : Int) (T' : Zt) (r : Option Zv) : Prop := ∃ x : Int, r = some (vI x) ∧ IC_ N T' ∧ IR_ T' ∧ fr_ [(111, [16]), (217, []), (218, []), (219, []), (220, [])] T T' ∧ ((QM_ T T' p9 c9 f9 t9 x))
set_option maxRecDepth 100000 in
theorem cm_register {N : Int} {T : Zt} {p9 c9 f9 t9 : Int} (hT : ok_T T) (hI : IC_ N T) (hR : IR_ T) : Cw_ yX11_register zX11_register T [vR 111 0, vI p9, vI c9, vI f9, vI t9] (qm_register N T p9 c9 f9 t9) := by
  refine ⟨_, ct_X11_register_e , fun T1 r q => ?_⟩
  obtain ⟨x, rfl, f, h⟩ := q
  have g := (ir_register hR (qm_o ⟨x, rfl, f, h⟩))
  exact ⟨x, rfl, ic_g hI (fr_s f (by decide +kernel)), g, f, h⟩
def qm_official (N : Int) (T : Zt) (s9 c9 : Int) (T' : Zt) (r : Option Zv) : Prop := ∃ x : Int, r = some (vI x) ∧ IC_ N T' ∧ IR_ T' ∧ fr_ [(111, [21]), (222, []), (223, [])] T T' ∧ ((((x = -3 ∧ ¬ (0 ≤ s9 ∧ s9 ≤ 11 ∧ 0 ≤ c9 ∧ c9 ≤ 7) ∧ T' 111 0 21 = T 111 0 21) ∨ ((0 ≤ s9 ∧ s9 ≤ 11 ∧ 0 ≤ c9 ∧ c9 ≤ 7) ∧ T 111 0 21 = 8 ∧ x = -5 ∧ T' 111 0 21 = T 111 0 21) ∨ ((0 ≤ s9 ∧ s9 ≤ 11 ∧ 0 ≤ c9 ∧ c9 ≤ 7) ∧ T 111 0 21 < 8 ∧ x = T 111 0 21 ∧ T' 111 0 21 = T 111 0 21 + 1)) ∧ TG9_ 111 21 8 222 223 T T' s9 c9 x))
set_option maxRecDepth 100000 in
theorem cm_official {N : Int} {T : Zt} {s9 c9 : Int} (hT : ok_T T) (hI : IC_ N T) (hR : IR_ T) : Cw_ yX11_official zX11_official T [vR 111 0, vI s9, vI c9] (qm_official N T s9 c9) := by
  refine ⟨_, ct_X11_official_e , fun T1 r q => ?_⟩
  obtain ⟨x, rfl, f, h⟩ := q
  have g := (ir_official hR (show po_X11_official T s9 c9 T1 (some (vI x)) from ⟨x, rfl, f, h.1⟩))
  exact ⟨x, rfl, ic_g hI (fr_s f (by decide +kernel)), g, f, h⟩
def qm_day (N : Int) (T : Zt) (d9 : Int) (T' : Zt) (r : Option Zv) : Prop := ∃ x : Int, r = some (vI x) ∧ IC_ N T' ∧ IR_ T' ∧ fr_ [(111, [3])] T T' ∧ (((x = -3 ∧ ¬ (T 111 0 3 < d9 ∧ d9 ≤ 999) ∧ T' 111 0 3 = T 111 0 3) ∨ (T 111 0 3 < d9 ∧ d9 ≤ 999 ∧ x = T 111 0 3 ∧ T' 111 0 3 = d9)))
set_option maxRecDepth 100000 in
theorem cm_day {N : Int} {T : Zt} {d9 : Int} (hT : ok_T T) (hI : IC_ N T) (hR : IR_ T) : Cw_ yX11_day zX11_day T [vR 111 0, vI d9] (qm_day N T d9) := by
  refine ⟨_, ct_X11_day , fun T1 r q => ?_⟩
  have g := (ir_day hR q)
  obtain ⟨x, rfl, f, h⟩ := q
  exact ⟨x, rfl, ic_g hI (fr_s f (by decide +kernel)), g, f, h⟩
def qm_enter (N : Int) (T : Zt) (c9 cl9 : Int) (T' : Zt) (r : Option Zv) : Prop := ∃ x : Int, r = some (vI x) ∧ IC_ N T' ∧ IR_ T' ∧ fr_ [(207, []), (208, [])] T T' ∧ ((EN_ T' ∧ ER9_ T T' c9 cl9 x))
set_option maxRecDepth 100000 in
theorem cm_enter {N : Int} {T : Zt} {c9 cl9 : Int} (hT : ok_T T) (hI : IC_ N T) (hR : IR_ T) : Cw_ yX11_enter zX11_enter T [vR 111 0, vI c9, vI cl9] (qm_enter N T c9 cl9) := by
  refine ⟨_, ct_X11_enter_e hR.2.2.2.1, fun T1 r q => ?_⟩
  obtain ⟨x, rfl, f, h⟩ := q
  have g := (ir_enter hR (show po_X11_enter T c9 cl9 T1 (some (vI x)) from ⟨x, rfl, f, h.1⟩))
  exact ⟨x, rfl, ic_g hI (fr_s f (by decide +kernel)), g, f, h⟩
def qm_plan (N : Int) (T : Zt) (c9 f9 : Int) (T' : Zt) (r : Option Zv) : Prop := ∃ x : Int, r = some (vI x) ∧ IC_ N T' ∧ IR_ T' ∧ fr_ [(230, []), (231, []), (232, []), (233, []), (234, []), (235, []), (238, []), (253, []), (255, []), (111, [29]), (209, []), (210, []), (211, [])] T T' ∧ (ok_T T ∧ ((((x < 0 ∧ T = T') ∨ (0 ≤ c9 ∧ c9 < T 111 0 6 ∧ am2_ T T' c9 ∧ T' 111 0 29 ≤ 400 ∧ T' 210 0 c9 = T 111 0 29 ∧ T' 211 0 c9 = T' 111 0 29 - T 111 0 29 ∧ (∀ z, z ≠ c9 → T' 210 0 z = T 210 0 z ∧ T' 211 0 z = T 211 0 z ∧ T' 209 0 z = T 209 0 z))) ∧ PR9_ T T' c9 f9 x)))
set_option maxRecDepth 100000 in
theorem cm_plan {N : Int} {T : Zt} {c9 f9 : Int} (hT : ok_T T) (hI : IC_ N T) (hR : IR_ T) : Cw_ yX11_plan zX11_plan T [vR 111 0, vI c9, vI f9] (qm_plan N T c9 f9) := by
  refine ⟨_, ct_X11_plan_e hR.2.1, fun T1 r q => ?_⟩
  obtain ⟨x, rfl, f, h⟩ := q
  have g := (ir_plan hT hR (show po_X11_plan_k T c9 f9 T1 (some (vI x)) from ⟨x, rfl, f, h.1⟩))
  exact ⟨x, rfl, ic_g hI (fr_s f (by decide +kernel)), g, f, ⟨hT, h⟩⟩
def qm_match (N : Int) (T : Zt) (m9 w9 : Int) (T' : Zt) (r : Option Zv) : Prop := ∃ x : Int, r = some (vI x) ∧ IC_ N T' ∧ IR_ T' ∧ fr_ [] T T' ∧ ((x = -2 ∧ ¬ (0 ≤ m9 ∧ m9 < T 111 0 29)) ∨ ((0 ≤ m9 ∧ m9 < T 111 0 29) ∧ ((w9 = 0 ∧ x = T 230 0 m9) ∨ (w9 = 1 ∧ x = T 231 0 m9) ∨ (w9 = 2 ∧ x = T 232 0 m9) ∨ (w9 = 3 ∧ x = T 233 0 m9) ∨ (w9 = 4 ∧ x = T 234 0 m9) ∨ (w9 = 5 ∧ x = T 235 0 m9) ∨ (w9 = 6 ∧ x = T 236 0 m9) ∨ (w9 = 7 ∧ x = T 237 0 m9) ∨ (¬ (0 ≤ w9 ∧ w9 ≤ 7) ∧ x = -3))))
set_option maxRecDepth 100000 in
theorem cm_match {N : Int} {T : Zt} {m9 w9 : Int} (hT : ok_T T) (hI : IC_ N T) (hR : IR_ T) : Cw_ yX11_match zX11_match T [vR 111 0, vI m9, vI w9] (qm_match N T m9 w9) := by
  refine ⟨_, ct_X11_match_e , fun T1 r q => ?_⟩
  obtain ⟨e, x, rfl, h⟩ := q
  subst e
  exact ⟨x, rfl, hI, hR, fr_0 _ _, h⟩
def qm_breaks (N : Int) (T : Zt) (c9 cl9 : Int) (T' : Zt) (r : Option Zv) : Prop := ∃ x : Int, r = some (vI x) ∧ IC_ N T' ∧ IR_ T' ∧ fr_ [] T T' ∧ (BR9_ T c9 cl9 x)
set_option maxRecDepth 100000 in
theorem cm_breaks {N : Int} {T : Zt} {c9 cl9 : Int} (hT : ok_T T) (hI : IC_ N T) (hR : IR_ T) : Cw_ yX11_breaks zX11_breaks T [vR 111 0, vI c9, vI cl9] (qm_breaks N T c9 cl9) := by
  refine ⟨_, ct_X11_breaks_e hR.2.2.2.2.1, fun T1 r q => ?_⟩
  obtain ⟨e, x, rfl, h⟩ := q
  subst e
  exact ⟨x, rfl, hI, hR, fr_0 _ _, h⟩
def qm_postpone (N : Int) (T : Zt) (m9 d9 : Int) (T' : Zt) (r : Option Zv) : Prop := ∃ x : Int, r = some (vI x) ∧ IC_ N T' ∧ IR_ T' ∧ fr_ [(234, []), (271, []), (272, []), (111, [73, 75]), (274, [])] T T' ∧ (((x = -2 ∧ ¬ (0 ≤ m9 ∧ m9 < T 111 0 29) ∧ T = T') ∨ ((0 ≤ m9 ∧ m9 < T 111 0 29) ∧ ((x = -3 ∧ ¬ (T 111 0 3 < d9 ∧ d9 ≤ 999 ∧ 0 ≤ d9) ∧ T = T') ∨ ((T 111 0 3 < d9 ∧ d9 ≤ 999 ∧ 0 ≤ d9) ∧ ((x = -4 ∧ ¬ (T 235 0 m9 = 0 ∧ T 234 0 m9 ≠ d9) ∧ T = T') ∨ ((T 235 0 m9 = 0 ∧ T 234 0 m9 ≠ d9) ∧ PTQ_ T T' m9 d9 x)))))))
set_option maxRecDepth 100000 in
theorem cm_postpone {N : Int} {T : Zt} {m9 d9 : Int} (hT : ok_T T) (hI : IC_ N T) (hR : IR_ T) : Cw_ yX11_postpone zX11_postpone T [vR 111 0, vI m9, vI d9] (qm_postpone N T m9 d9) := by
  refine ⟨_, ct_X11_postpone_f , fun T1 r q => ?_⟩
  obtain ⟨x, rfl, f, h⟩ := q
  have g := (ir_postpone hR (show po_X11_postpone T m9 d9 T1 (some (vI x)) from ⟨x, rfl, f, rfl⟩))
  exact ⟨x, rfl, ic_g hI (fr_s f (by decide +kernel)), g, f, h⟩
def qm_moved (N : Int) (T : Zt) (k9 : Int) (T' : Zt) (r : Option Zv) : Prop := ∃ x : Int, r = some (vI x) ∧ IC_ N T' ∧ IR_ T' ∧ fr_ [] T T' ∧ ((0 ≤ k9 ∧ k9 < T 111 0 75 ∧ x = T 274 0 k9) ∨ (¬ (0 ≤ k9 ∧ k9 < T 111 0 75) ∧ x = -1))
set_option maxRecDepth 100000 in
theorem cm_moved {N : Int} {T : Zt} {k9 : Int} (hT : ok_T T) (hI : IC_ N T) (hR : IR_ T) : Cw_ yX11_moved zX11_moved T [vR 111 0, vI k9] (qm_moved N T k9) := by
  refine ⟨_, ct_X11_moved_e , fun T1 r q => ?_⟩
  obtain ⟨e, x, rfl, h⟩ := q
  subst e
  exact ⟨x, rfl, hI, hR, fr_0 _ _, h⟩
def qm_deduct (N : Int) (T : Zt) (c9 cl9 p9 : Int) (T' : Zt) (r : Option Zv) : Prop := ∃ x : Int, r = some (vI x) ∧ IC_ N T' ∧ IR_ T' ∧ fr_ [(225, []), (226, []), (227, []), (228, []), (111, [24])] T T' ∧ ((DR9_ T T' c9 cl9 p9 x))
set_option maxRecDepth 100000 in
theorem cm_deduct {N : Int} {T : Zt} {c9 cl9 p9 : Int} (hT : ok_T T) (hI : IC_ N T) (hR : IR_ T) : Cw_ yX11_deduct zX11_deduct T [vR 111 0, vI c9, vI cl9, vI p9] (qm_deduct N T c9 cl9 p9) := by
  refine ⟨_, ct_X11_deduct_e , fun T1 r q => ?_⟩
  obtain ⟨x, rfl, f, h⟩ := q
  have g := (ir_deduct hR (show po_X11_deduct T c9 cl9 p9 T1 (some (vI x)) from ⟨x, rfl, f, rfl⟩))
  exact ⟨x, rfl, ic_g hI (fr_s f (by decide +kernel)), g, f, h⟩
def qm_eligible (N : Int) (T : Zt) (p9 m9 sd9 : Int) (T' : Zt) (r : Option Zv) : Prop := ∃ x : Int, r = some (vI x) ∧ IC_ N T' ∧ IR_ T' ∧ fr_ [] T T' ∧ ((x = -2 ∧ ¬ ((0 ≤ p9 ∧ p9 < T 111 0 15) ∧ 0 ≤ m9 ∧ m9 < T 111 0 29)) ∨ (((0 ≤ p9 ∧ p9 < T 111 0 15) ∧ 0 ≤ m9 ∧ m9 < T 111 0 29) ∧ ((x = -3 ∧ ¬ (0 ≤ sd9 ∧ sd9 ≤ 1)) ∨ ((0 ≤ sd9 ∧ sd9 ≤ 1) ∧ x = wyR_ T p9 m9 sd9))))
set_option maxRecDepth 100000 in
theorem cm_eligible {N : Int} {T : Zt} {p9 m9 sd9 : Int} (hT : ok_T T) (hI : IC_ N T) (hR : IR_ T) : Cw_ yX11_eligible zX11_eligible T [vR 111 0, vI p9, vI m9, vI sd9] (qm_eligible N T p9 m9 sd9) := by
  refine ⟨_, ct_X11_eligible_f hR.2.2.2.2.1 hR.2.2.2.2.2.1 hR.2.1, fun T1 r q => ?_⟩
  obtain ⟨e, x, rfl, h⟩ := q
  subst e
  exact ⟨x, rfl, hI, hR, fr_0 _ _, h⟩
def qm_lineUp (N : Int) (T : Zt) (p9 m9 sd9 : Int) (T' : Zt) (r : Option Zv) : Prop := ∃ x : Int, r = some (vI x) ∧ IC_ N T' ∧ IR_ T' ∧ fr_ [(239, []), (240, [])] T T' ∧ (((SH_ T' ∧ ∀ z, T 239 0 z ≤ T' 239 0 z) ∧ ((x = -2 ∧ ¬ ((0 ≤ p9 ∧ p9 < T 111 0 15) ∧ 0 ≤ m9 ∧ m9 < T 111 0 29) ∧ T = T') ∨ (((0 ≤ p9 ∧ p9 < T 111 0 15) ∧ 0 ≤ m9 ∧ m9 < T 111 0 29) ∧ ((x = -3 ∧ ¬ (0 ≤ sd9 ∧ sd9 ≤ 1) ∧ T = T') ∨ ((0 ≤ sd9 ∧ sd9 ≤ 1) ∧ ((x = -4 ∧ T 235 0 m9 ≠ 0 ∧ T = T') ∨ (T 235 0 m9 = 0 ∧ ((x = -5 ∧ T 239 0 (2 * m9 + sd9) = T 205 0 (23 * T 230 0 m9 + 9) + 4 ∧ T = T') ∨ (T 239 0 (2 * m9 + sd9) ≠ T 205 0 (23 * T 230 0 m9 + 9) + 4 ∧ ((wyR_ T p9 m9 sd9 ≠ 0 ∧ x = -10 - wyR_ T p9 m9 sd9 ∧ T = T') ∨ (wyR_ T p9 m9 sd9 = 0 ∧ x = T 239 0 (2 * m9 + sd9) + 1 ∧ SRR_ T T' m9 sd9 p9))))))))))))
set_option maxRecDepth 100000 in
theorem cm_lineUp {N : Int} {T : Zt} {p9 m9 sd9 : Int} (hT : ok_T T) (hI : IC_ N T) (hR : IR_ T) : Cw_ yX11_lineUp zX11_lineUp T [vR 111 0, vI p9, vI m9, vI sd9] (qm_lineUp N T p9 m9 sd9) := by
  refine ⟨_, ct_X11_lineUp_f hR.2.2.2.2.1 hR.2.2.2.2.2.1 hR.2.1 hR.2.2.2.2.2.2.1, fun T1 r q => ?_⟩
  obtain ⟨x, rfl, f, h⟩ := q
  have g := (ir_lineUp hR (show po_X11_lineUp_k T p9 m9 sd9 T1 (some (vI x)) from ⟨x, rfl, f, h.1⟩))
  exact ⟨x, rfl, ic_g hI (fr_s f (by decide +kernel)), g, f, h⟩
def qm_start (N : Int) (T : Zt) (m9 : Int) (T' : Zt) (r : Option Zv) : Prop := ∃ x : Int, r = some (vI x) ∧ IC_ N T' ∧ IR_ T' ∧ fr_ [(244, []), (241, []), (242, []), (243, []), (245, []), (246, []), (236, []), (237, []), (235, [])] T T' ∧ (((FM_ T' ∧ ZS_ T' ∧ GX_ T' (-1)) ∧ ((x = -2 ∧ ¬ (0 ≤ m9 ∧ m9 < T 111 0 29) ∧ T = T') ∨ ((0 ≤ m9 ∧ m9 < T 111 0 29) ∧ ((x = -4 ∧ ¬ (T 235 0 m9 = 0 ∧ T 234 0 m9 = T 111 0 3 ∧ T 205 0 (23 * T 230 0 m9 + 9) ≤ T 239 0 (2 * m9) ∧ T 205 0 (23 * T 230 0 m9 + 9) ≤ T 239 0 (2 * m9 + 1)) ∧ T = T') ∨ (x = 1 ∧ (T 235 0 m9 = 0 ∧ T 234 0 m9 = T 111 0 3 ∧ T 205 0 (23 * T 230 0 m9 + 9) ≤ T 239 0 (2 * m9) ∧ T 205 0 (23 * T 230 0 m9 + 9) ≤ T 239 0 (2 * m9 + 1)) ∧ BGR_ m9 (rlm_ (fun w => T 205 0 (23 * T 230 0 m9 + w))) (rp9_ T m9) (rp9_ T' m9) ∧ ro9_ T T' m9))))))
set_option maxRecDepth 100000 in
theorem cm_start {N : Int} {T : Zt} {m9 : Int} (hT : ok_T T) (hI : IC_ N T) (hR : IR_ T) : Cw_ yX11_start zX11_start T [vR 111 0, vI m9] (qm_start N T m9) := by
  refine ⟨_, ct_X11_start_e hR.2.2.2.2.2.1 hR.2.1 hR.2.2.2.2.2.2.2.1 hR.2.2.2.2.2.2.2.2.2.2.1 hR.2.2.2.2.2.2.2.2.2.2.2 rlm_r, fun T1 r q => ?_⟩
  obtain ⟨x, rfl, f, h⟩ := q
  have g := (ir_start hR (show po_X11_start T m9 T1 (some (vI x)) from ⟨x, rfl, f, h.1⟩))
  exact ⟨x, rfl, ic_g hI (fr_s f (by decide +kernel)), g, f, h⟩
def qm_walkOver (N : Int) (T : Zt) (m9 s9 : Int) (T' : Zt) (r : Option Zv) : Prop := ∃ x : Int, r = some (vI x) ∧ IC_ N T' ∧ IR_ T' ∧ fr_ [(235, []), (236, []), (237, [])] T T' ∧ (((FM_ T' ∧ ZS_ T' ∧ GX_ T' (-1)) ∧ ((x = -2 ∧ ¬ (0 ≤ m9 ∧ m9 < T 111 0 29) ∧ T = T') ∨ ((0 ≤ m9 ∧ m9 < T 111 0 29) ∧ ((x = -3 ∧ ¬ (0 ≤ s9 ∧ s9 ≤ 1) ∧ T = T') ∨ ((0 ≤ s9 ∧ s9 ≤ 1) ∧ ((x = -4 ∧ ¬ (T 235 0 m9 = 0 ∧ T 234 0 m9 ≤ T 111 0 3) ∧ T = T') ∨ (x = 1 ∧ (T 235 0 m9 = 0 ∧ T 234 0 m9 ≤ T 111 0 3) ∧ T' 235 0 m9 = 3 ∧ (s9 = 0 → T' 236 0 m9 = 0 ∧ T' 237 0 m9 = T 205 0 (23 * T 230 0 m9 + 12)) ∧ (s9 = 1 → T' 236 0 m9 = T 205 0 (23 * T 230 0 m9 + 12) ∧ T' 237 0 m9 = 0) ∧ ro9_ T T' m9))))))))
set_option maxRecDepth 100000 in
theorem cm_walkOver {N : Int} {T : Zt} {m9 s9 : Int} (hT : ok_T T) (hI : IC_ N T) (hR : IR_ T) : Cw_ yX11_walkOver zX11_walkOver T [vR 111 0, vI m9, vI s9] (qm_walkOver N T m9 s9) := by
  refine ⟨_, ct_X11_walkOver_e hR.2.2.2.2.2.1 hR.2.1 hR.2.2.2.2.2.2.2.1 hR.2.2.2.2.2.2.2.2.2.2.1 hR.2.2.2.2.2.2.2.2.2.2.2, fun T1 r q => ?_⟩
  obtain ⟨x, rfl, f, h⟩ := q
  have g := (ir_walkOver hR (show po_X11_walkOver T m9 s9 T1 (some (vI x)) from ⟨x, rfl, f, h.1⟩))
  exact ⟨x, rfl, ic_g hI (fr_s f (by decide +kernel)), g, f, h⟩
def qm_event (N : Int) (T : Zt) (m9 k9 s9 p9 q9 : Int) (T' : Zt) (r : Option Zv) : Prop := ∃ x : Int, r = some (vI x) ∧ IC_ N T' ∧ IR_ T' ∧ fr_ [(111, [47]), (248, []), (249, []), (250, []), (251, []), (252, []), (253, []), (254, []), (256, []), (244, []), (241, []), (242, []), (243, []), (245, []), (246, []), (236, []), (237, []), (235, [])] T T' ∧ ((FM_ T' ∧ RX_ T' [] ∧ ZS_ T' ∧ GX_ T' (-1) ∧ (∀ j, j ≠ m9 ∨ T 111 0 29 ≤ j → T' 254 0 j = T 254 0 j ∧ T' 256 0 j = T 256 0 j) ∧ ((x = -2 ∧ ¬ (0 ≤ m9 ∧ m9 < T 111 0 29) ∧ T = T') ∨ ((0 ≤ m9 ∧ m9 < T 111 0 29) ∧ ((lwR_ (rlm_ (fun w => T 205 0 (23 * T 230 0 m9 + w))) (rp9_ T m9) k9 s9 p9 q9 ≠ 0 ∧ x = -10 - lwR_ (rlm_ (fun w => T 205 0 (23 * T 230 0 m9 + w))) (rp9_ T m9) k9 s9 p9 q9 ∧ T = T') ∨ (lwR_ (rlm_ (fun w => T 205 0 (23 * T 230 0 m9 + w))) (rp9_ T m9) k9 s9 p9 q9 = 0 ∧ T 111 0 47 = 3000 ∧ x = -5 ∧ T = T') ∨ (lwR_ (rlm_ (fun w => T 205 0 (23 * T 230 0 m9 + w))) (rp9_ T m9) k9 s9 p9 q9 = 0 ∧ T 111 0 47 ≠ 3000 ∧ T' 111 0 47 = T 111 0 47 + 1 ∧ rp9_ T' m9 = plR_ (rlm_ (fun w => T 205 0 (23 * T 230 0 m9 + w))) (rp9_ T m9) m9 k9 s9 p9 q9 ∧ rw9_ T' m9 = rw9_ T m9 ++ [(k9, s9, p9, q9)] ∧ x = T' 254 0 m9 ∧ T' 256 0 m9 = T 256 0 m9 ∧ OMR_ T T' m9))))))
set_option maxRecDepth 100000 in
theorem cm_event {N : Int} {T : Zt} {m9 k9 s9 p9 q9 : Int} (hT : ok_T T) (hI : IC_ N T) (hR : IR_ T) : Cw_ yX11_event zX11_event T [vR 111 0, vI m9, vI k9, vI s9, vI p9, vI q9] (qm_event N T m9 k9 s9 p9 q9) := by
  refine ⟨_, ct_X11_event_e hR.2.2.2.2.2.1 hR.2.1 hR.2.2.2.2.2.2.2.1 hR.2.2.2.2.2.2.2.2.1 hR.2.2.2.2.2.2.2.2.2.2.1 hR.2.2.2.2.2.2.2.2.2.2.2 rlm_r, fun T1 r q => ?_⟩
  obtain ⟨x, rfl, f, h⟩ := q
  have g := (ir_event hR (show po_X11_event T m9 k9 s9 p9 q9 T1 (some (vI x)) from ⟨x, rfl, f, h.1, h.2.1, h.2.2.1, h.2.2.2.1, h.2.2.2.2.1⟩))
  exact ⟨x, rfl, ic_g hI (fr_s f (by decide +kernel)), g, f, h⟩
def qm_review (N : Int) (T : Zt) (m9 i9 k9 s9 p9 q9 : Int) (T' : Zt) (r : Option Zv) : Prop := ∃ x : Int, r = some (vI x) ∧ IC_ N T' ∧ IR_ T' ∧ fr_ [(252, []), (253, []), (255, []), (254, []), (256, []), (244, []), (241, []), (242, []), (243, []), (245, []), (246, []), (236, []), (237, []), (235, []), (248, []), (249, []), (250, []), (251, [])] T T' ∧ ((FM_ T' ∧ RX_ T' [] ∧ ZS_ T' ∧ GX_ T' (-1) ∧ (∀ j, j ≠ m9 ∨ T 111 0 29 ≤ j → T' 254 0 j = T 254 0 j ∧ T' 256 0 j = T 256 0 j) ∧ ((x = -2 ∧ ¬ ((0 ≤ m9 ∧ m9 < T 111 0 29) ∧ 0 ≤ i9 ∧ i9 < T 254 0 m9) ∧ T = T') ∨ (((0 ≤ m9 ∧ m9 < T 111 0 29) ∧ 0 ≤ i9 ∧ i9 < T 254 0 m9) ∧ OMR_ T T' m9 ∧ ((k9 = -1 ∧ RNR_ (rlm_ (fun w => T 205 0 (23 * T 230 0 m9 + w))) m9 x T T' ((rw9_ T m9).eraseIdx i9.toNat)) ∨ (k9 ≠ -1 ∧ ((¬ ((((rlm_ (fun w => T 205 0 (23 * T 230 0 m9 + w))) 0 = 0 ∧ 0 ≤ k9 ∧ k9 ≤ 5) ∨ ((rlm_ (fun w => T 205 0 (23 * T 230 0 m9 + w))) 0 = 1 ∧ (k9 = 1 ∨ k9 = 5)) ∨ ((rlm_ (fun w => T 205 0 (23 * T 230 0 m9 + w))) 0 = 2 ∧ (k9 = 1 ∨ k9 = 6)) ∨ (¬ (rlm_ (fun w => T 205 0 (23 * T 230 0 m9 + w))) 0 = 0 ∧ ¬ (rlm_ (fun w => T 205 0 (23 * T 230 0 m9 + w))) 0 = 1 ∧ ¬ (rlm_ (fun w => T 205 0 (23 * T 230 0 m9 + w))) 0 = 2 ∧ 1 ≤ k9 ∧ k9 ≤ 4)) ∧ (((rlm_ (fun w => T 205 0 (23 * T 230 0 m9 + w))) 0 = 0 ∧ k9 = 0) ∨ (0 ≤ s9 ∧ s9 ≤ 1))) ∧ x = -12 ∧ T = T') ∨ (((((rlm_ (fun w => T 205 0 (23 * T 230 0 m9 + w))) 0 = 0 ∧ 0 ≤ k9 ∧ k9 ≤ 5) ∨ ((rlm_ (fun w => T 205 0 (23 * T 230 0 m9 + w))) 0 = 1 ∧ (k9 = 1 ∨ k9 = 5)) ∨ ((rlm_ (fun w => T 205 0 (23 * T 230 0 m9 + w))) 0 = 2 ∧ (k9 = 1 ∨ k9 = 6)) ∨ (¬ (rlm_ (fun w => T 205 0 (23 * T 230 0 m9 + w))) 0 = 0 ∧ ¬ (rlm_ (fun w => T 205 0 (23 * T 230 0 m9 + w))) 0 = 1 ∧ ¬ (rlm_ (fun w => T 205 0 (23 * T 230 0 m9 + w))) 0 = 2 ∧ 1 ≤ k9 ∧ k9 ≤ 4)) ∧ (((rlm_ (fun w => T 205 0 (23 * T 230 0 m9 + w))) 0 = 0 ∧ k9 = 0) ∨ (0 ≤ s9 ∧ s9 ≤ 1))) ∧ ¬ ((rlm_ (fun w => T 205 0 (23 * T 230 0 m9 + w))) 0 ≠ 3 ∨ k9 ≠ 1 ∨ (1 ≤ q9 ∧ q9 ≤ 4)) ∧ x = -17 ∧ T = T') ∨ (((((rlm_ (fun w => T 205 0 (23 * T 230 0 m9 + w))) 0 = 0 ∧ 0 ≤ k9 ∧ k9 ≤ 5) ∨ ((rlm_ (fun w => T 205 0 (23 * T 230 0 m9 + w))) 0 = 1 ∧ (k9 = 1 ∨ k9 = 5)) ∨ ((rlm_ (fun w => T 205 0 (23 * T 230 0 m9 + w))) 0 = 2 ∧ (k9 = 1 ∨ k9 = 6)) ∨ (¬ (rlm_ (fun w => T 205 0 (23 * T 230 0 m9 + w))) 0 = 0 ∧ ¬ (rlm_ (fun w => T 205 0 (23 * T 230 0 m9 + w))) 0 = 1 ∧ ¬ (rlm_ (fun w => T 205 0 (23 * T 230 0 m9 + w))) 0 = 2 ∧ 1 ≤ k9 ∧ k9 ≤ 4)) ∧ (((rlm_ (fun w => T 205 0 (23 * T 230 0 m9 + w))) 0 = 0 ∧ k9 = 0) ∨ (0 ≤ s9 ∧ s9 ≤ 1))) ∧ ((rlm_ (fun w => T 205 0 (23 * T 230 0 m9 + w))) 0 ≠ 3 ∨ k9 ≠ 1 ∨ (1 ≤ q9 ∧ q9 ≤ 4)) ∧ (rw9_ T m9)[i9.toNat]? = some (k9, s9, p9, q9) ∧ x = -20 ∧ T = T') ∨ (((((rlm_ (fun w => T 205 0 (23 * T 230 0 m9 + w))) 0 = 0 ∧ 0 ≤ k9 ∧ k9 ≤ 5) ∨ ((rlm_ (fun w => T 205 0 (23 * T 230 0 m9 + w))) 0 = 1 ∧ (k9 = 1 ∨ k9 = 5)) ∨ ((rlm_ (fun w => T 205 0 (23 * T 230 0 m9 + w))) 0 = 2 ∧ (k9 = 1 ∨ k9 = 6)) ∨ (¬ (rlm_ (fun w => T 205 0 (23 * T 230 0 m9 + w))) 0 = 0 ∧ ¬ (rlm_ (fun w => T 205 0 (23 * T 230 0 m9 + w))) 0 = 1 ∧ ¬ (rlm_ (fun w => T 205 0 (23 * T 230 0 m9 + w))) 0 = 2 ∧ 1 ≤ k9 ∧ k9 ≤ 4)) ∧ (((rlm_ (fun w => T 205 0 (23 * T 230 0 m9 + w))) 0 = 0 ∧ k9 = 0) ∨ (0 ≤ s9 ∧ s9 ≤ 1))) ∧ ((rlm_ (fun w => T 205 0 (23 * T 230 0 m9 + w))) 0 ≠ 3 ∨ k9 ≠ 1 ∨ (1 ≤ q9 ∧ q9 ≤ 4)) ∧ ¬ ((rw9_ T m9)[i9.toNat]? = some (k9, s9, p9, q9)) ∧ RNR_ (rlm_ (fun w => T 205 0 (23 * T 230 0 m9 + w))) m9 x T T' ((rw9_ T m9).set i9.toNat (k9, s9, p9, q9))))))))))
set_option maxRecDepth 100000 in
theorem cm_review {N : Int} {T : Zt} {m9 i9 k9 s9 p9 q9 : Int} (hT : ok_T T) (hI : IC_ N T) (hR : IR_ T) : Cw_ yX11_review zX11_review T [vR 111 0, vI m9, vI i9, vI k9, vI s9, vI p9, vI q9] (qm_review N T m9 i9 k9 s9 p9 q9) := by
  refine ⟨_, ct_X11_review_e hR.2.2.2.2.2.1 hR.2.1 hR.2.2.2.2.2.2.2.1 hR.2.2.2.2.2.2.2.2.1 hR.2.2.2.2.2.2.2.2.2.2.1 hR.2.2.2.2.2.2.2.2.2.2.2 rlm_r, fun T1 r q => ?_⟩
  obtain ⟨x, rfl, f, h⟩ := q
  have g := (ir_review hR (show po_X11_review T m9 i9 k9 s9 p9 q9 T1 (some (vI x)) from ⟨x, rfl, f, h.1, h.2.1, h.2.2.1, h.2.2.2.1, h.2.2.2.2.1⟩))
  exact ⟨x, rfl, ic_g hI (fr_s f (by decide +kernel)), g, f, h⟩
def qm_rows (N : Int) (T : Zt) (m9 w9 : Int) (T' : Zt) (r : Option Zv) : Prop := ∃ x : Int, r = some (vI x) ∧ IC_ N T' ∧ IR_ T' ∧ fr_ [] T T' ∧ ((x = -2 ∧ ¬ (0 ≤ m9 ∧ m9 < T 111 0 29)) ∨ ((0 ≤ m9 ∧ m9 < T 111 0 29) ∧ ((¬ (0 ≤ w9 ∧ w9 ≤ 1) ∧ x = -3) ∨ (w9 = 0 ∧ x = T 254 0 m9) ∨ (w9 = 1 ∧ x = T 256 0 m9))))
set_option maxRecDepth 100000 in
theorem cm_rows {N : Int} {T : Zt} {m9 w9 : Int} (hT : ok_T T) (hI : IC_ N T) (hR : IR_ T) : Cw_ yX11_rows zX11_rows T [vR 111 0, vI m9, vI w9] (qm_rows N T m9 w9) := by
  refine ⟨_, ct_X11_rows_e , fun T1 r q => ?_⟩
  obtain ⟨e, x, rfl, h⟩ := q
  subst e
  exact ⟨x, rfl, hI, hR, fr_0 _ _, h⟩
def qm_row (N : Int) (T : Zt) (m9 i9 w9 : Int) (T' : Zt) (r : Option Zv) : Prop := ∃ x : Int, r = some (vI x) ∧ IC_ N T' ∧ IR_ T' ∧ fr_ [] T T' ∧ (True)
set_option maxRecDepth 100000 in
theorem cm_row {N : Int} {T : Zt} {m9 i9 w9 : Int} (hT : ok_T T) (hI : IC_ N T) (hR : IR_ T) : Cw_ yX11_row zX11_row T [vR 111 0, vI m9, vI i9, vI w9] (qm_row N T m9 i9 w9) := by
  refine ⟨_, ct_X11_row hR.2.2.2.2.2.2.2.2.1, fun T1 r q => ?_⟩
  obtain ⟨e, x, rfl, h⟩ := q
  subst e
  exact ⟨x, rfl, hI, hR, fr_0 _ _, trivial⟩
def qm_state (N : Int) (T : Zt) (m9 w9 : Int) (T' : Zt) (r : Option Zv) : Prop := ∃ x : Int, r = some (vI x) ∧ IC_ N T' ∧ IR_ T' ∧ fr_ [] T T' ∧ ((x = -2 ∧ ¬ (0 ≤ m9 ∧ m9 < T 111 0 29)) ∨ ((0 ≤ m9 ∧ m9 < T 111 0 29) ∧ ((¬ (0 ≤ w9 ∧ w9 ≤ 7) ∧ x = -3) ∨ ((0 ≤ w9 ∧ w9 ≤ 7) ∧ ((¬ (T 235 0 m9 = 1 ∨ T 235 0 m9 = 2) ∧ x = -4) ∨ ((T 235 0 m9 = 1 ∨ T 235 0 m9 = 2) ∧ x = T 246 0 (8 * m9 + w9)))))))
set_option maxRecDepth 100000 in
theorem cm_state {N : Int} {T : Zt} {m9 w9 : Int} (hT : ok_T T) (hI : IC_ N T) (hR : IR_ T) : Cw_ yX11_state zX11_state T [vR 111 0, vI m9, vI w9] (qm_state N T m9 w9) := by
  refine ⟨_, ct_X11_state_e , fun T1 r q => ?_⟩
  obtain ⟨e, x, rfl, h⟩ := q
  subst e
  exact ⟨x, rfl, hI, hR, fr_0 _ _, h⟩
def qm_onField (N : Int) (T : Zt) (m9 s9 i9 : Int) (T' : Zt) (r : Option Zv) : Prop := ∃ x : Int, r = some (vI x) ∧ IC_ N T' ∧ IR_ T' ∧ fr_ [] T T' ∧ ((x = -2 ∧ ¬ (0 ≤ m9 ∧ m9 < T 111 0 29)) ∨ ((0 ≤ m9 ∧ m9 < T 111 0 29) ∧ ((¬ (0 ≤ s9 ∧ s9 ≤ 1) ∧ x = -3) ∨ ((0 ≤ s9 ∧ s9 ≤ 1) ∧ ((¬ ((T 235 0 m9 = 1 ∨ T 235 0 m9 = 2) ∧ 0 ≤ i9 ∧ i9 < T 244 0 (2 * m9 + s9)) ∧ x = -1) ∨ ((T 235 0 m9 = 1 ∨ T 235 0 m9 = 2) ∧ (0 ≤ i9 ∧ i9 < T 244 0 (2 * m9 + s9)) ∧ x = T 240 0 (T 245 0 (6 * (2 * m9 + s9) + i9))))))))
set_option maxRecDepth 100000 in
theorem cm_onField {N : Int} {T : Zt} {m9 s9 i9 : Int} (hT : ok_T T) (hI : IC_ N T) (hR : IR_ T) : Cw_ yX11_onField zX11_onField T [vR 111 0, vI m9, vI s9, vI i9] (qm_onField N T m9 s9 i9) := by
  refine ⟨_, ct_X11_onField_e , fun T1 r q => ?_⟩
  obtain ⟨e, x, rfl, h⟩ := q
  subst e
  exact ⟨x, rfl, hI, hR, fr_0 _ _, h⟩
def qm_table (N : Int) (T : Zt) (c9 d9 cl9 w9 : Int) (T' : Zt) (r : Option Zv) : Prop := ∃ x : Int, r = some (vI x) ∧ IC_ N T' ∧ IR_ T' ∧ fr_ [(276, []), (284, []), (277, []), (286, []), (278, []), (111, [82, 83, 85, 87, 79])] T T' ∧ (ok_T T ∧ (((x = -2 ∧ ¬ ((0 ≤ c9 ∧ c9 < T 111 0 6) ∧ (0 ≤ cl9 ∧ cl9 < T 111 0 12))) ∨ (x = -3 ∧ ((0 ≤ c9 ∧ c9 < T 111 0 6) ∧ (0 ≤ cl9 ∧ cl9 < T 111 0 12)) ∧ ¬ ((0 ≤ d9 ∧ d9 ≤ 999) ∧ (0 ≤ w9 ∧ w9 ≤ 7))) ∨ (x = -4 ∧ ((0 ≤ c9 ∧ c9 < T 111 0 6) ∧ (0 ≤ cl9 ∧ cl9 < T 111 0 12)) ∧ ((0 ≤ d9 ∧ d9 ≤ 999) ∧ (0 ≤ w9 ∧ w9 ≤ 7)) ∧ ¬ HE_ T c9 cl9) ∨ (((0 ≤ c9 ∧ c9 < T 111 0 6) ∧ (0 ≤ cl9 ∧ cl9 < T 111 0 12)) ∧ ((0 ≤ d9 ∧ d9 ≤ 999) ∧ (0 ≤ w9 ∧ w9 ≤ 7)) ∧ HE_ T c9 cl9 ∧ TR_ T T' c9 d9 cl9 w9 x))))
set_option maxRecDepth 100000 in
theorem cm_table {N : Int} {T : Zt} {c9 d9 cl9 w9 : Int} (hT : ok_T T) (hI : IC_ N T) (hR : IR_ T) : Cw_ yX11_table zX11_table T [vR 111 0, vI c9, vI d9, vI cl9, vI w9] (qm_table N T c9 d9 cl9 w9) := by
  have hr4 : ∀ m, 0 ≤ m → m < 400 → T 254 0 m ≤ 3000 := fun m a _ => (bd_a hT 254 (by decide +kernel : ta_ 254 = some (1, some 400, 0, 3000)) 0 a).2
  refine ⟨_, ct_X11_table_e hR.2.1 hR.2.2.2.2.1 (sc_g hR.2.2.2.2.2.2.2.2.2.2.2 hr4) (yb_g hR.2.2.2.2.2.2.2.2.2.2.2 hr4) hR.2.2.2.1 (fun a b => gb_i hT hR.2.2.2.2.2.2.2.2.2.2.2 hR.2.2.2.2.2.2.2.2.1 (yb_g hR.2.2.2.2.2.2.2.2.2.2.2 hr4) hR.2.2.2.2.1 ⟨a, Int.lt_of_lt_of_le b (bd_f hT 111 6 tl_11_6 0).2⟩), fun T1 r q => ?_⟩
  obtain ⟨x, rfl, f, h⟩ := q
  have g := (ir_table hR (show po_X11_table T c9 d9 cl9 w9 T1 (some (vI x)) from ⟨x, rfl, f, trivial⟩))
  exact ⟨x, rfl, ic_g hI (fr_s f (by decide +kernel)), g, f, ⟨hT, h⟩⟩
def qm_standing (N : Int) (T : Zt) (c9 d9 k9 : Int) (T' : Zt) (r : Option Zv) : Prop := ∃ x : Int, r = some (vI x) ∧ IC_ N T' ∧ IR_ T' ∧ fr_ [(276, []), (284, []), (277, []), (286, []), (278, []), (111, [82, 83, 85, 87, 79])] T T' ∧ (((x = -2 ∧ ¬ (0 ≤ c9 ∧ c9 < T 111 0 6)) ∨ (x = -3 ∧ (0 ≤ c9 ∧ c9 < T 111 0 6) ∧ ¬ (0 ≤ d9 ∧ d9 ≤ 999)) ∨ ((0 ≤ c9 ∧ c9 < T 111 0 6) ∧ (0 ≤ d9 ∧ d9 ≤ 999) ∧ ((0 ≤ k9 ∧ k9 < T 208 0 c9) → x = (RKm_ T' c9 d9 (T 208 0 c9)).1 k9) ∧ (¬ (0 ≤ k9 ∧ k9 < T 208 0 c9) → x = -1) ∧ TD_ T T' (fun w => T 205 0 (23 * c9 + w)) (fun k9 => vR_ T d9 (T 210 0 c9 + k9)) (T 211 0 c9).toNat c9 d9 (T 111 0 24).toNat)))
set_option maxRecDepth 100000 in
theorem cm_standing {N : Int} {T : Zt} {c9 d9 k9 : Int} (hT : ok_T T) (hI : IC_ N T) (hR : IR_ T) : Cw_ yX11_standing zX11_standing T [vR 111 0, vI c9, vI d9, vI k9] (qm_standing N T c9 d9 k9) := by
  have hr4 : ∀ m, 0 ≤ m → m < 400 → T 254 0 m ≤ 3000 := fun m a _ => (bd_a hT 254 (by decide +kernel : ta_ 254 = some (1, some 400, 0, 3000)) 0 a).2
  refine ⟨_, ct_X11_standing_e hR.2.1 hR.2.2.2.2.1 (sc_g hR.2.2.2.2.2.2.2.2.2.2.2 hr4) (yb_g hR.2.2.2.2.2.2.2.2.2.2.2 hr4) hR.2.2.2.1 (fun a b => gb_i hT hR.2.2.2.2.2.2.2.2.2.2.2 hR.2.2.2.2.2.2.2.2.1 (yb_g hR.2.2.2.2.2.2.2.2.2.2.2 hr4) hR.2.2.2.2.1 ⟨a, Int.lt_of_lt_of_le b (bd_f hT 111 6 tl_11_6 0).2⟩), fun T1 r q => ?_⟩
  obtain ⟨x, rfl, f, h⟩ := q
  have g := (ir_standing hR (show po_X11_standing T c9 d9 k9 T1 (some (vI x)) from ⟨x, rfl, f, trivial⟩))
  exact ⟨x, rfl, ic_g hI (fr_s f (by decide +kernel)), g, f, h⟩
def qm_parted (N : Int) (T : Zt) (c9 d9 k9 : Int) (T' : Zt) (r : Option Zv) : Prop := ∃ x : Int, r = some (vI x) ∧ IC_ N T' ∧ IR_ T' ∧ fr_ [(276, []), (284, []), (277, []), (286, []), (278, []), (111, [82, 83, 85, 87, 79])] T T' ∧ (((x = -2 ∧ ¬ (0 ≤ c9 ∧ c9 < T 111 0 6)) ∨ (x = -3 ∧ (0 ≤ c9 ∧ c9 < T 111 0 6) ∧ ¬ (0 ≤ d9 ∧ d9 ≤ 999)) ∨ ((0 ≤ c9 ∧ c9 < T 111 0 6) ∧ (0 ≤ d9 ∧ d9 ≤ 999) ∧ ((0 ≤ k9 ∧ k9 < T 208 0 c9 - 1) → x = (RKm_ T' c9 d9 (T 208 0 c9)).2 k9) ∧ (¬ (0 ≤ k9 ∧ k9 < T 208 0 c9 - 1) → x = -1) ∧ TD_ T T' (fun w => T 205 0 (23 * c9 + w)) (fun k9 => vR_ T d9 (T 210 0 c9 + k9)) (T 211 0 c9).toNat c9 d9 (T 111 0 24).toNat)))
set_option maxRecDepth 100000 in
theorem cm_parted {N : Int} {T : Zt} {c9 d9 k9 : Int} (hT : ok_T T) (hI : IC_ N T) (hR : IR_ T) : Cw_ yX11_parted zX11_parted T [vR 111 0, vI c9, vI d9, vI k9] (qm_parted N T c9 d9 k9) := by
  have hr4 : ∀ m, 0 ≤ m → m < 400 → T 254 0 m ≤ 3000 := fun m a _ => (bd_a hT 254 (by decide +kernel : ta_ 254 = some (1, some 400, 0, 3000)) 0 a).2
  refine ⟨_, ct_X11_parted_e hR.2.1 hR.2.2.2.2.1 (sc_g hR.2.2.2.2.2.2.2.2.2.2.2 hr4) (yb_g hR.2.2.2.2.2.2.2.2.2.2.2 hr4) hR.2.2.2.1 (fun a b => gb_i hT hR.2.2.2.2.2.2.2.2.2.2.2 hR.2.2.2.2.2.2.2.2.1 (yb_g hR.2.2.2.2.2.2.2.2.2.2.2 hr4) hR.2.2.2.2.1 ⟨a, Int.lt_of_lt_of_le b (bd_f hT 111 6 tl_11_6 0).2⟩), fun T1 r q => ?_⟩
  obtain ⟨x, rfl, f, h⟩ := q
  have g := (ir_parted hR (show po_X11_parted T c9 d9 k9 T1 (some (vI x)) from ⟨x, rfl, f, trivial⟩))
  exact ⟨x, rfl, ic_g hI (fr_s f (by decide +kernel)), g, f, h⟩
def qm_can (N : Int) (T : Zt) (c9 cl9 : Int) (T' : Zt) (r : Option Zv) : Prop := ∃ x : Int, r = some (vI x) ∧ IC_ N T' ∧ IR_ T' ∧ fr_ [(276, []), (291, []), (292, []), (293, []), (294, []), (296, []), (289, []), (297, []), (111, [80, 82, 83, 90, 95, 88])] T T' ∧ ((T 111 0 80 = 0 → T' 111 0 80 = 0))
set_option maxRecDepth 100000 in
theorem cm_can {N : Int} {T : Zt} {c9 cl9 : Int} (hT : ok_T T) (hI : IC_ N T) (hR : IR_ T) : Cw_ yX11_can zX11_can T [vR 111 0, vI c9, vI cl9] (qm_can N T c9 cl9) := by
  have hr4 : ∀ m, 0 ≤ m → m < 400 → T 254 0 m ≤ 3000 := fun m a _ => (bd_a hT 254 (by decide +kernel : ta_ 254 = some (1, some 400, 0, 3000)) 0 a).2
  refine ⟨_, ct_X11_can_e hR.2.1 hR.2.2.1 hR.2.2.2.2.1 (sc_g hR.2.2.2.2.2.2.2.2.2.2.2 hr4) (yb_g hR.2.2.2.2.2.2.2.2.2.2.2 hr4), fun T1 r q => ?_⟩
  obtain ⟨x, rfl, f, h⟩ := q
  have g := (ir_can hR (show po_X11_can T c9 cl9 T1 (some (vI x)) from ⟨x, rfl, f, trivial⟩))
  exact ⟨x, rfl, ic_g hI (fr_s f (by decide +kernel)), g, f, h⟩
