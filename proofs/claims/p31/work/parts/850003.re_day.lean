def qm_witness (N : Int) (T : Zt) (m9 : Int) (T' : Zt) (r : Option Zv) : Prop := ∃ x : Int, r = some (vI x) ∧ IC_ N T' ∧ IR_ T' ∧ fr_ [] T T' ∧ (True)
set_option maxRecDepth 100000 in
theorem cm_witness {N : Int} {T : Zt} {m9 : Int} (hT : ok_T T) (hI : IC_ N T) (hR : IR_ T) : Cw_ yX11_witness zX11_witness T [vR 111 0, vI m9] (qm_witness N T m9) := by
  refine ⟨_, ct_X11_witness , fun T1 r q => ?_⟩
  obtain ⟨e, x, rfl, h⟩ := q
  subst e
  exact ⟨x, rfl, hI, hR, fr_0 _ _, trivial⟩
def qm_cut (N : Int) (T : Zt) (T' : Zt) (r : Option Zv) : Prop := ∃ x : Int, r = some (vI x) ∧ IC_ N T' ∧ IR_ T' ∧ fr_ [] T T' ∧ (True)
set_option maxRecDepth 100000 in
theorem cm_cut {N : Int} {T : Zt} (hT : ok_T T) (hI : IC_ N T) (hR : IR_ T) : Cw_ yX11_cut zX11_cut T [vR 111 0] (qm_cut N T) := by
  refine ⟨_, ct_X11_cut , fun T1 r q => ?_⟩
  obtain ⟨e, x, rfl, h⟩ := q
  subst e
  exact ⟨x, rfl, hI, hR, fr_0 _ _, trivial⟩
def qm_firsts (N : Int) (T : Zt) (c9 cl9 : Int) (T' : Zt) (r : Option Zv) : Prop := ∃ x : Int, r = some (vI x) ∧ IC_ N T' ∧ IR_ T' ∧ fr_ [(276, []), (284, []), (277, []), (286, []), (278, []), (297, []), (281, []), (111, [82, 83, 85, 87, 79, 80])] T T' ∧ ((T 111 0 80 = 0 → T' 111 0 80 = 0))
set_option maxRecDepth 100000 in
theorem cm_firsts {N : Int} {T : Zt} {c9 cl9 : Int} (hT : ok_T T) (hI : IC_ N T) (hR : IR_ T) : Cw_ yX11_firsts zX11_firsts T [vR 111 0, vI c9, vI cl9] (qm_firsts N T c9 cl9) := by
  have hr4 : ∀ m, 0 ≤ m → m < 400 → T 254 0 m ≤ 3000 := fun m a _ => (bd_a hT 254 (by decide +kernel : ta_ 254 = some (1, some 400, 0, 3000)) 0 a).2
  refine ⟨_, ct_X11_firsts_e hR.2.1 hR.2.2.2.2.1 (sc_g hR.2.2.2.2.2.2.2.2.2.2.2 hr4) (yb_g hR.2.2.2.2.2.2.2.2.2.2.2 hr4), fun T1 r q => ?_⟩
  obtain ⟨x, rfl, f, h⟩ := q
  have g := (ir_firsts hR (show po_X11_firsts T c9 cl9 T1 (some (vI x)) from ⟨x, rfl, f, trivial⟩))
  exact ⟨x, rfl, ic_g hI (fr_s f (by decide +kernel)), g, f, h⟩
def qm_drawing (N : Int) (T : Zt) (g9 l9 : Int) (T' : Zt) (r : Option Zv) : Prop := ∃ x : Int, r = some (vI x) ∧ IC_ N T' ∧ IR_ T' ∧ fr_ [(111, [98, 99, 100]), (301, []), (302, [])] T T' ∧ ((((x = -3 ∧ ¬ (1 ≤ g9 ∧ g9 ≤ 4 ∧ 1 ≤ l9 ∧ l9 ≤ 3)) ∨ (x = 1 ∧ 1 ≤ g9 ∧ g9 ≤ 4 ∧ 1 ≤ l9 ∧ l9 ≤ 3)) ∧ NDR_ T T' g9 l9 x))
set_option maxRecDepth 100000 in
theorem cm_drawing {N : Int} {T : Zt} {g9 l9 : Int} (hT : ok_T T) (hI : IC_ N T) (hR : IR_ T) : Cw_ yX11_drawing zX11_drawing T [vR 111 0, vI g9, vI l9] (qm_drawing N T g9 l9) := by
  refine ⟨_, ct_X11_drawing_e , fun T1 r q => ?_⟩
  obtain ⟨x, rfl, f, h⟩ := q
  have g := (ir_drawing hR (show po_X11_drawing T g9 l9 T1 (some (vI x)) from ⟨x, rfl, f, h.1⟩))
  exact ⟨x, rfl, ic_g hI (fr_s f (by decide +kernel)), g, f, h⟩
def qm_pot (N : Int) (T : Zt) (cl9 p9 : Int) (T' : Zt) (r : Option Zv) : Prop := ∃ x : Int, r = some (vI x) ∧ IC_ N T' ∧ IR_ T' ∧ fr_ [(301, [])] T T' ∧ ((x = x ∧ PTR_ T T' cl9 p9 x))
set_option maxRecDepth 100000 in
theorem cm_pot {N : Int} {T : Zt} {cl9 p9 : Int} (hT : ok_T T) (hI : IC_ N T) (hR : IR_ T) : Cw_ yX11_pot zX11_pot T [vR 111 0, vI cl9, vI p9] (qm_pot N T cl9 p9) := by
  refine ⟨_, ct_X11_pot_e , fun T1 r q => ?_⟩
  obtain ⟨x, rfl, f, h⟩ := q
  have g := (ir_pot hR (show po_X11_pot T cl9 p9 T1 (some (vI x)) from ⟨x, rfl, f, rfl⟩))
  exact ⟨x, rfl, ic_g hI (fr_s f (by decide +kernel)), g, f, h⟩
def qm_ways (N : Int) (T : Zt) (T' : Zt) (r : Option Zv) : Prop := ∃ x : Int, r = some (vI x) ∧ IC_ N T' ∧ IR_ T' ∧ fr_ [(304, []), (305, []), (302, [])] T T' ∧ ((x = x ∧ WYR_ T T' x))
set_option maxRecDepth 100000 in
theorem cm_ways {N : Int} {T : Zt} (hT : ok_T T) (hI : IC_ N T) (hR : IR_ T) : Cw_ yX11_ways zX11_ways T [vR 111 0] (qm_ways N T) := by
  refine ⟨_, ct_X11_ways_e , fun T1 r q => ?_⟩
  obtain ⟨x, rfl, f, h⟩ := q
  have g := (ir_ways hR (show po_X11_ways T  T1 (some (vI x)) from ⟨x, rfl, f, rfl⟩))
  exact ⟨x, rfl, ic_g hI (fr_s f (by decide +kernel)), g, f, h⟩
def qm_chance (N : Int) (T : Zt) (cl9 g9 : Int) (T' : Zt) (r : Option Zv) : Prop := ∃ x : Int, r = some (vI x) ∧ IC_ N T' ∧ IR_ T' ∧ fr_ [(304, []), (305, []), (302, [])] T T' ∧ ((x = x ∧ CHR_ T T' cl9 g9 x))
set_option maxRecDepth 100000 in
theorem cm_chance {N : Int} {T : Zt} {cl9 g9 : Int} (hT : ok_T T) (hI : IC_ N T) (hR : IR_ T) : Cw_ yX11_chance zX11_chance T [vR 111 0, vI cl9, vI g9] (qm_chance N T cl9 g9) := by
  refine ⟨_, ct_X11_chance_e , fun T1 r q => ?_⟩
  obtain ⟨x, rfl, f, h⟩ := q
  have g := (ir_chance hR (show po_X11_chance T cl9 g9 T1 (some (vI x)) from ⟨x, rfl, f, rfl⟩))
  exact ⟨x, rfl, ic_g hI (fr_s f (by decide +kernel)), g, f, h⟩
def qm_ball (N : Int) (T : Zt) (ta9 fi9 : Int) (T' : Zt) (r : Option Zv) : Prop := ∃ x : Int, r = some (vI x) ∧ IC_ N T' ∧ IR_ T' ∧ fr_ [(304, []), (305, []), (302, []), (111, [103])] T T' ∧ ((x = x ∧ BLR_ T T' ta9 fi9 x))
set_option maxRecDepth 100000 in
theorem cm_ball {N : Int} {T : Zt} {ta9 fi9 : Int} (hT : ok_T T) (hI : IC_ N T) (hR : IR_ T) : Cw_ yX11_ball zX11_ball T [vR 111 0, vI ta9, vI fi9] (qm_ball N T ta9 fi9) := by
  refine ⟨_, ct_X11_ball_e , fun T1 r q => ?_⟩
  obtain ⟨x, rfl, f, h⟩ := q
  have g := (ir_ball hR (show po_X11_ball T ta9 fi9 T1 (some (vI x)) from ⟨x, rfl, f, rfl⟩))
  exact ⟨x, rfl, ic_g hI (fr_s f (by decide +kernel)), g, f, h⟩
def qm_drawn (N : Int) (T : Zt) (c9 : Int) (T' : Zt) (r : Option Zv) : Prop := ∃ x : Int, r = some (vI x) ∧ IC_ N T' ∧ IR_ T' ∧ fr_ [] T T' ∧ (DWR_ T c9 x)
set_option maxRecDepth 100000 in
theorem cm_drawn {N : Int} {T : Zt} {c9 : Int} (hT : ok_T T) (hI : IC_ N T) (hR : IR_ T) : Cw_ yX11_drawn zX11_drawn T [vR 111 0, vI c9] (qm_drawn N T c9) := by
  refine ⟨_, ct_X11_drawn_e , fun T1 r q => ?_⟩
  obtain ⟨e, x, rfl, h⟩ := q
  subst e
  exact ⟨x, rfl, hI, hR, fr_0 _ _, h⟩
def qm_assign (N : Int) (T : Zt) (d9 : Int) (T' : Zt) (r : Option Zv) : Prop := ∃ x : Int, r = some (vI x) ∧ IC_ N T' ∧ IR_ T' ∧ fr_ [(306, []), (308, []), (311, []), (309, []), (310, []), (238, []), (111, [107, 112, 113])] T T' ∧ (True)
set_option maxRecDepth 100000 in
theorem cm_assign {N : Int} {T : Zt} {d9 : Int} (hT : ok_T T) (hI : IC_ N T) (hR : IR_ T) : Cw_ yX11_assign zX11_assign T [vR 111 0, vI d9] (qm_assign N T d9) := by
  refine ⟨_, ct_X11_assign , fun T1 r q => ?_⟩
  have g := (ir_assign hR q)
  obtain ⟨x, rfl, f, h⟩ := q
  exact ⟨x, rfl, ic_g hI (fr_s f (by decide +kernel)), g, f, trivial⟩
def qm_officialOf (N : Int) (T : Zt) (m9 : Int) (T' : Zt) (r : Option Zv) : Prop := ∃ x : Int, r = some (vI x) ∧ IC_ N T' ∧ IR_ T' ∧ fr_ [] T T' ∧ (True)
set_option maxRecDepth 100000 in
theorem cm_officialOf {N : Int} {T : Zt} {m9 : Int} (hT : ok_T T) (hI : IC_ N T) (hR : IR_ T) : Cw_ yX11_officialOf zX11_officialOf T [vR 111 0, vI m9] (qm_officialOf N T m9) := by
  refine ⟨_, ct_X11_officialOf , fun T1 r q => ?_⟩
  obtain ⟨e, x, rfl, h⟩ := q
  subst e
  exact ⟨x, rfl, hI, hR, fr_0 _ _, trivial⟩
def qm_count (N : Int) (T : Zt) (w9 : Int) (T' : Zt) (r : Option Zv) : Prop := ∃ x : Int, r = some (vI x) ∧ IC_ N T' ∧ IR_ T' ∧ fr_ [] T T' ∧ ((w9 = 0 ∧ x = T 111 0 12) ∨ (w9 = 1 ∧ x = T 111 0 15) ∨ (w9 = 2 ∧ x = T 111 0 16) ∨ (w9 = 3 ∧ x = T 111 0 21) ∨ (w9 = 4 ∧ x = T 111 0 6) ∨ (w9 = 5 ∧ x = T 111 0 29) ∨ (w9 = 6 ∧ x = T 111 0 47) ∨ (w9 = 7 ∧ x = T 111 0 3) ∨ (¬ (0 ≤ w9 ∧ w9 ≤ 7) ∧ x = -3))
set_option maxRecDepth 100000 in
theorem cm_count {N : Int} {T : Zt} {w9 : Int} (hT : ok_T T) (hI : IC_ N T) (hR : IR_ T) : Cw_ yX11_count zX11_count T [vR 111 0, vI w9] (qm_count N T w9) := by
  refine ⟨_, ct_X11_count_e , fun T1 r q => ?_⟩
  obtain ⟨e, x, rfl, h⟩ := q
  subst e
  exact ⟨x, rfl, hI, hR, fr_0 _ _, h⟩
theorem fzq_ {T T' : Zt} (f : fr_ [] T T') : T' = T := funext (fun k => funext (fun i => funext (fun j => f k i j rfl)))
set_option maxRecDepth 100000 in
theorem re_sign {N : Int} {T T1 T2 : Zt} {c9 : Int} {r1 r2 : Option Zv} (hT : ok_T T) (hI : IC_ N T) (hR : IR_ T) (h : RE_ T) (a : qx_sign N T c9 T1 r1) (b : qm_sign (N + 1) T1 c9 T2 r2) : LQo_ N T2 r1 r2 := by
  obtain ⟨x1, e1, -, -, f1, d1⟩ := a
  obtain ⟨x2, e2, i2, j2, f2, d2⟩ := b
  obtain ⟨hCNR, hTHR, hSPR, hTXR, hENR, hMAR, hDER, hLOR, hPLR, hLDR, hRCR, hDAR, hMVR, hCNO, hCLM, hSUP, hKNK⟩ := h
  obtain ⟨ex, ht2⟩ := txr_s hTXR (bd_f hT 105 1 tl_5_1 0).1 ⟨f1 105 0 3 rfl, f1 106 0 2 rfl, fun c j => f1 401 c j rfl, fun c j => f1 402 c j rfl⟩ d1 (⟨f1 111 0 1 rfl, f1 111 0 2 rfl, f1 111 0 6 rfl, fun j => f1 200 0 j rfl, fun j => f1 205 0 j rfl⟩) ⟨f2 111 0 2 rfl, f2 111 0 6 rfl, fun j => f2 205 0 j rfl⟩ d2 (⟨f2 105 0 1 rfl, f2 105 0 3 rfl, f2 106 0 2 rfl, fun j => f2 500 0 j rfl, fun c j => f2 401 c j rfl, fun c j => f2 402 c j rfl⟩)
  subst ex
  exact ⟨_, e1, e2, i2, j2, CNR_q hCNR (ks_t (ks_f f1 (by decide +kernel)) (ks_f f2 (by decide +kernel))), THR_q hTHR (ks_t (ks_f f1 (by decide +kernel)) (ks_f f2 (by decide +kernel))), SPR_q hSPR (ks_t (ks_f f1 (by decide +kernel)) (ks_f f2 (by decide +kernel))), ht2, ENR_q hENR (ks_t (ks_f f1 (by decide +kernel)) (ks_f f2 (by decide +kernel))), MAR_q hMAR (ks_t (ks_f f1 (by decide +kernel)) (ks_f f2 (by decide +kernel))), DER_q hDER (ks_t (ks_f f1 (by decide +kernel)) (ks_f f2 (by decide +kernel))), LOR_q hLOR (ks_t (ks_f f1 (by decide +kernel)) (ks_f f2 (by decide +kernel))), PLR_q hPLR (ks_t (ks_f f1 (by decide +kernel)) (ks_f f2 (by decide +kernel))), LDR_q hLDR (ks_t (ks_f f1 (by decide +kernel)) (ks_f f2 (by decide +kernel))), RCR_q hRCR (ks_t (ks_f f1 (by decide +kernel)) (ks_f f2 (by decide +kernel))), DAR_q hDAR (ks_t (ks_f f1 (by decide +kernel)) (ks_f f2 (by decide +kernel))), MVR_q hMVR (ks_t (ks_f f1 (by decide +kernel)) (ks_f f2 (by decide +kernel))), CNO_q hCNO (ks_t (ks_f f1 (by decide +kernel)) (ks_f f2 (by decide +kernel))), CLM_q hCLM (ks_t (ks_f f1 (by decide +kernel)) (ks_f f2 (by decide +kernel))), SUP_q hSUP (ks_t (ks_f f1 (by decide +kernel)) (ks_f f2 (by decide +kernel))), KNK_q hKNK (ks_t (ks_f f1 (by decide +kernel)) (ks_f f2 (by decide +kernel)))⟩
set_option maxRecDepth 100000 in
theorem re_wipe {N : Int} {T T1 T2 : Zt} {r1 r2 : Option Zv} (hT : ok_T T) (hI : IC_ N T) (hR : IR_ T) (h : RE_ T) (a : qx_wipe N T T1 r1) (b : qm_wipe (N + 1) T1 T2 r2) : LQo_ N T2 r1 r2 := by
  obtain ⟨x1, e1, -, -, f1, d1⟩ := a
  obtain ⟨x2, e2, i2, j2, f2, d2⟩ := b
  obtain ⟨hCNR, hTHR, hSPR, hTXR, hENR, hMAR, hDER, hLOR, hPLR, hLDR, hRCR, hDAR, hMVR, hCNO, hCLM, hSUP, hKNK⟩ := h
  obtain ⟨ex, ht2⟩ := txr_w hTXR ⟨f1 105 0 3 rfl, f1 106 0 2 rfl, fun j => f1 500 0 j rfl, fun c j => f1 401 c j rfl, fun c j => f1 402 c j rfl⟩ d1 (⟨f1 111 0 1 rfl, f1 111 0 2 rfl, f1 111 0 6 rfl, fun j => f1 200 0 j rfl, fun j => f1 205 0 j rfl⟩) ⟨f2 111 0 2 rfl, f2 111 0 6 rfl, fun j => f2 200 0 j rfl, fun j => f2 205 0 j rfl⟩ d2 (⟨f2 105 0 1 rfl, f2 105 0 3 rfl, f2 106 0 2 rfl, fun j => f2 500 0 j rfl, fun c j => f2 401 c j rfl, fun c j => f2 402 c j rfl⟩)
  subst ex
  exact ⟨_, e1, e2, i2, j2, CNR_q hCNR (ks_t (ks_f f1 (by decide +kernel)) (ks_f f2 (by decide +kernel))), THR_q hTHR (ks_t (ks_f f1 (by decide +kernel)) (ks_f f2 (by decide +kernel))), SPR_q hSPR (ks_t (ks_f f1 (by decide +kernel)) (ks_f f2 (by decide +kernel))), ht2, ENR_q hENR (ks_t (ks_f f1 (by decide +kernel)) (ks_f f2 (by decide +kernel))), MAR_q hMAR (ks_t (ks_f f1 (by decide +kernel)) (ks_f f2 (by decide +kernel))), DER_q hDER (ks_t (ks_f f1 (by decide +kernel)) (ks_f f2 (by decide +kernel))), LOR_q hLOR (ks_t (ks_f f1 (by decide +kernel)) (ks_f f2 (by decide +kernel))), PLR_q hPLR (ks_t (ks_f f1 (by decide +kernel)) (ks_f f2 (by decide +kernel))), LDR_q hLDR (ks_t (ks_f f1 (by decide +kernel)) (ks_f f2 (by decide +kernel))), RCR_q hRCR (ks_t (ks_f f1 (by decide +kernel)) (ks_f f2 (by decide +kernel))), DAR_q hDAR (ks_t (ks_f f1 (by decide +kernel)) (ks_f f2 (by decide +kernel))), MVR_q hMVR (ks_t (ks_f f1 (by decide +kernel)) (ks_f f2 (by decide +kernel))), CNO_q hCNO (ks_t (ks_f f1 (by decide +kernel)) (ks_f f2 (by decide +kernel))), CLM_q hCLM (ks_t (ks_f f1 (by decide +kernel)) (ks_f f2 (by decide +kernel))), SUP_q hSUP (ks_t (ks_f f1 (by decide +kernel)) (ks_f f2 (by decide +kernel))), KNK_q hKNK (ks_t (ks_f f1 (by decide +kernel)) (ks_f f2 (by decide +kernel)))⟩
set_option maxRecDepth 100000 in
theorem re_competition {N : Int} {T T1 T2 : Zt} {r1 r2 : Option Zv} (hT : ok_T T) (hI : IC_ N T) (hR : IR_ T) (h : RE_ T) (a : qx_competition N T T1 r1) (b : qm_competition (N + 1) T1 T2 r2) : LQo_ N T2 r1 r2 := by
  obtain ⟨x1, e1, -, -, f1, d1⟩ := a
  obtain ⟨x2, e2, i2, j2, f2, d2⟩ := b
  obtain ⟨hCNR, hTHR, hSPR, hTXR, hENR, hMAR, hDER, hLOR, hPLR, hLDR, hRCR, hDAR, hMVR, hCNO, hCLM, hSUP, hKNK⟩ := h
  have axt : (∀ j, T1 500 0 j = T 500 0 j) ∧ (∀ i j, i ≠ T 106 0 2 → T1 401 i j = T 401 i j) ∧ (T1 106 0 2 = T 106 0 2 → ∀ i j, T1 402 i j = T 402 i j) := ⟨fun j => f1 500 0 j rfl, fun i j hi => d1.1.elim (fun z => z 401 i j rfl) (fun n => n.2.2.1 401 i j (Or.inr (Or.inr (Or.inl rfl))) hi), fun e i j => d1.1.elim (fun z => z 402 i j rfl) (fun n => absurd e (by have := n.2.1; omega))⟩
  have axn : (T1 106 0 2 = T 106 0 2 ∧ ken_ T T1) ∨ nc_ T T1 := d1.1.elim (fun z => Or.inl ⟨z 106 0 2 rfl, ⟨fun c => ⟨z 100 c 5 rfl, z 100 c 6 rfl, z 100 c 7 rfl, z 100 c 8 rfl⟩, fun c j => z 403 c j rfl, fun c j => z 404 c j rfl⟩⟩) Or.inr
  obtain ⟨ex, ht2⟩ := txr_c hTXR (bd_f hT 105 1 tl_5_1 0).2 (bd_f hT 106 2 tl_6_2 0).1 axt d1.2.1 (⟨f1 111 0 1 rfl, f1 111 0 2 rfl, f1 111 0 6 rfl, fun j => f1 200 0 j rfl, fun j => f1 205 0 j rfl⟩) ⟨fun j => f2 200 0 j rfl, d2.2.2.2.1⟩ d2.2.2.2.2 (⟨f2 105 0 1 rfl, f2 105 0 3 rfl, f2 106 0 2 rfl, fun j => f2 500 0 j rfl, fun c j => f2 401 c j rfl, fun c j => f2 402 c j rfl⟩)
  have en := enr_c hENR (bd_f hT 106 2 tl_6_2 0).1 (axn.imp id (fun n => ⟨n, ch9_s d1.2.1 n⟩)) (⟨fun j => f1 207 0 j rfl, fun j => ⟨f1 208 0 j rfl, f1 209 0 j rfl, f1 210 0 j rfl, f1 211 0 j rfl⟩⟩) (⟨fun c => ⟨f2 100 c 5 rfl, f2 100 c 6 rfl, f2 100 c 7 rfl, f2 100 c 8 rfl⟩, fun c j => f2 403 c j rfl, fun c j => f2 404 c j rfl⟩) (⟨fun j => f2 207 0 j rfl, fun j => ⟨f2 208 0 j rfl, f2 209 0 j rfl, f2 210 0 j rfl, f2 211 0 j rfl⟩⟩) (f2 106 0 2 rfl)
  have cp : ∀ i j, i ≠ T 106 0 2 → T1 401 i j = T 401 i j := axt.2.1
  have pl1 := pl_comp hI hPLR (ks_f f1 (by decide +kernel)) (ks_f f1 (by decide +kernel)) (f1 106 0 4 rfl) (f1 111 0 29 rfl) cp
  have cno : CNO_ T2 := fun c a b => by
    rw [f2 106 0 2 rfl] at b
    rw [f2 100 c 0 rfl]
    rcases d1.1 with z | n
    · rw [z 106 0 2 rfl] at b
      rw [z 100 c 0 rfl]
      exact hCNO c a b
    · by_cases y : c = T 106 0 2
      · rw [y]
        rcases d1.2.2 with u | u
        · exfalso; have := n.2.1; omega
        · exact u
      · rw [n.2.2.1 100 c 0 (Or.inl rfl) y]
        exact hCNO c a (by have := n.2.1; omega)
  subst ex
  exact ⟨_, e1, e2, i2, j2, CNR_q hCNR (ks_t (ks_f f1 (by decide +kernel)) (ks_f f2 (by decide +kernel))), THR_q hTHR (ks_t (ks_f f1 (by decide +kernel)) (ks_f f2 (by decide +kernel))), SPR_q hSPR (ks_t (ks_f f1 (by decide +kernel)) (ks_f f2 (by decide +kernel))), ht2, en, MAR_q hMAR (ks_t (ks_f f1 (by decide +kernel)) (ks_f f2 (by decide +kernel))), DER_q hDER (ks_t (ks_f f1 (by decide +kernel)) (ks_f f2 (by decide +kernel))), LOR_q hLOR (ks_t (ks_f f1 (by decide +kernel)) (ks_f f2 (by decide +kernel))), PLR_q pl1 (ks_f f2 (by decide +kernel)), LDR_q hLDR (ks_t (ks_f f1 (by decide +kernel)) (ks_f f2 (by decide +kernel))), RCR_q hRCR (ks_t (ks_f f1 (by decide +kernel)) (ks_f f2 (by decide +kernel))), DAR_q hDAR (ks_t (ks_f f1 (by decide +kernel)) (ks_f f2 (by decide +kernel))), MVR_q hMVR (ks_t (ks_f f1 (by decide +kernel)) (ks_f f2 (by decide +kernel))), cno, CLM_q hCLM (ks_t (ks_f f1 (by decide +kernel)) (ks_f f2 (by decide +kernel))), SUP_q hSUP (ks_t (ks_f f1 (by decide +kernel)) (ks_f f2 (by decide +kernel))), KNK_q (knk_c hKNK (bd_f hT 106 2 tl_6_2 0).1 ⟨axt.2.1, axt.2.2⟩ d1.2.1) (ks_f f2 (by decide +kernel))⟩
set_option maxRecDepth 100000 in
theorem re_fault {N : Int} {T T1 T2 : Zt} {r1 r2 : Option Zv} (hT : ok_T T) (hI : IC_ N T) (hR : IR_ T) (h : RE_ T) (a : qx_fault N T T1 r1) (b : qm_fault (N + 1) T1 T2 r2) : LQo_ N T2 r1 r2 := by
  obtain ⟨x1, e1, -, -, f1, d1⟩ := a
  obtain ⟨x2, e2, i2, j2, f2, d2⟩ := b
  have hR2 := RE_q h (ks_t (ks_f f1 (by decide +kernel)) (ks_f f2 (by decide +kernel)))
  obtain ⟨hCNR, hTHR, hSPR, hTXR, hENR, hMAR, hDER, hLOR, hPLR, hLDR, hRCR, hDAR, hMVR, hCNO, hCLM, hSUP, hKNK⟩ := h
  have ex : x1 = x2 := by have := hTXR.2.1; have := f1 111 0 2 rfl; omega
  subst ex
  exact ⟨_, e1, e2, i2, j2, hR2⟩
set_option maxRecDepth 100000 in
theorem re_rule {N : Int} {T T1 T2 : Zt} {c9 w9 : Int} {r1 r2 : Option Zv} (hT : ok_T T) (hI : IC_ N T) (hR : IR_ T) (h : RE_ T) (a : qx_rule N T c9 w9 T1 r1) (b : qm_rule (N + 1) T1 c9 w9 T2 r2) : LQo_ N T2 r1 r2 := by
  obtain ⟨x1, e1, -, -, f1, d1⟩ := a
  obtain ⟨x2, e2, i2, j2, f2, d2⟩ := b
  have hR2 := RE_q h (ks_t (ks_f f1 (by decide +kernel)) (ks_f f2 (by decide +kernel)))
  obtain ⟨hCNR, hTHR, hSPR, hTXR, hENR, hMAR, hDER, hLOR, hPLR, hLDR, hRCR, hDAR, hMVR, hCNO, hCLM, hSUP, hKNK⟩ := h
  rw [fzq_ f1] at d2
  have ex : x1 = x2 := txr_r hTXR d1 d2
  subst ex
  exact ⟨_, e1, e2, i2, j2, hR2⟩
set_option maxRecDepth 100000 in
theorem re_club {N : Int} {T T1 T2 : Zt} {s9 c9 : Int} {r1 r2 : Option Zv} (hT : ok_T T) (hI : IC_ N T) (hR : IR_ T) (h : RE_ T) (a : qx_club N T s9 c9 T1 r1) (b : qm_club (N + 1) T1 s9 c9 T2 r2) : LQo_ N T2 r1 r2 := by
  obtain ⟨x1, e1, -, -, f1, d1⟩ := a
  obtain ⟨x2, e2, i2, j2, f2, d2⟩ := b
  obtain ⟨hCNR, hTHR, hSPR, hTXR, hENR, hMAR, hDER, hLOR, hPLR, hLDR, hRCR, hDAR, hMVR, hCNO, hCLM, hSUP, hKNK⟩ := h
  obtain ⟨ex, ec, et⟩ := tg9_e hTHR.1 hCNR.1 d1.2 (f1 111 0 12 rfl) (fun j => f1 213 0 j rfl) (fun j => f1 214 0 j rfl) d2.2 (f2 108 0 2 rfl) (fun j => f2 560 0 j rfl) (fun j => f2 561 0 j rfl)
  have lg : T 108 0 2 ≤ T2 108 0 2 ∧ ∀ j, j ≠ T 108 0 2 → T2 561 0 j = T 561 0 j := by
    rw [f2 108 0 2 rfl]
    rcases d1.2 with ⟨z, -⟩ | ⟨-, -, -, z, -, z2⟩
    · rw [z]; exact ⟨Int.le_refl _, fun j _ => by rw [f2 561 0 j rfl, z]⟩
    · exact ⟨by omega, fun j hj => (f2 561 0 j rfl).trans (z2.2 j hj)⟩
  have clm : CLM_ T2 := fun m a b => by
    rw [f2 106 0 4 rfl, f1 106 0 4 rfl] at b
    rw [f2 102 m 3 rfl, f1 102 m 3 rfl, f2 102 m 4 rfl, f1 102 m 4 rfl]
    have y := hCLM m a b
    have z := lg.1
    omega
  subst ex
  exact ⟨_, e1, e2, i2, j2, ⟨ec, (f2 108 0 3 rfl).trans ((f1 108 0 3 rfl).trans (hCNR.2.1.trans ((f1 111 0 15 rfl).symm.trans (f2 111 0 15 rfl).symm))), (f2 108 0 12 rfl).trans ((f1 108 0 12 rfl).trans (hCNR.2.2.1.trans ((f1 111 0 21 rfl).symm.trans (f2 111 0 21 rfl).symm))), (f2 108 0 13 rfl).trans ((f1 108 0 13 rfl).trans (hCNR.2.2.2.trans ((f1 111 0 3 rfl).symm.trans (f2 111 0 3 rfl).symm)))⟩, ⟨et, fun j a b => by rw [f2 108 0 12 rfl, f1 108 0 12 rfl] at b; rw [f2 570 0 j rfl, f1 570 0 j rfl, f2 571 0 j rfl, f1 571 0 j rfl, f2 222 0 j rfl, f1 222 0 j rfl, f2 223 0 j rfl, f1 223 0 j rfl]; exact hTHR.2 j a b⟩, SPR_q hSPR (ks_t (ks_f f1 (by decide +kernel)) (ks_f f2 (by decide +kernel))), TXR_q hTXR (ks_t (ks_f f1 (by decide +kernel)) (ks_f f2 (by decide +kernel))), ENR_q hENR (ks_t (ks_f f1 (by decide +kernel)) (ks_f f2 (by decide +kernel))), MAR_q hMAR (ks_t (ks_f f1 (by decide +kernel)) (ks_f f2 (by decide +kernel))), DER_q hDER (ks_t (ks_f f1 (by decide +kernel)) (ks_f f2 (by decide +kernel))), lor_c hLOR rfl (kz_o (ks_t (ks_f f1 (by decide +kernel)) (ks_f f2 (by decide +kernel)))) lg.1 lg.2 (bd_f hT 108 2 tl_8_2 0).1, PLR_q hPLR (ks_t (ks_f f1 (by decide +kernel)) (ks_f f2 (by decide +kernel))), LDR_q hLDR (ks_t (ks_f f1 (by decide +kernel)) (ks_f f2 (by decide +kernel))), RCR_q hRCR (ks_t (ks_f f1 (by decide +kernel)) (ks_f f2 (by decide +kernel))), DAR_q hDAR (ks_t (ks_f f1 (by decide +kernel)) (ks_f f2 (by decide +kernel))), MVR_q hMVR (ks_t (ks_f f1 (by decide +kernel)) (ks_f f2 (by decide +kernel))), CNO_q hCNO (ks_t (ks_f f1 (by decide +kernel)) (ks_f f2 (by decide +kernel))), clm, SUP_q hSUP (ks_t (ks_f f1 (by decide +kernel)) (ks_f f2 (by decide +kernel))), KNK_q hKNK (ks_t (ks_f f1 (by decide +kernel)) (ks_f f2 (by decide +kernel)))⟩
set_option maxRecDepth 100000 in
theorem re_person {N : Int} {T T1 T2 : Zt} {r1 r2 : Option Zv} (hT : ok_T T) (hI : IC_ N T) (hR : IR_ T) (h : RE_ T) (a : qx_person N T T1 r1) (b : qm_person (N + 1) T1 T2 r2) : LQo_ N T2 r1 r2 := by
  obtain ⟨x1, e1, -, -, f1, d1⟩ := a
  obtain ⟨x2, e2, i2, j2, f2, d2⟩ := b
  obtain ⟨hCNR, hTHR, hSPR, hTXR, hENR, hMAR, hDER, hLOR, hPLR, hLDR, hRCR, hDAR, hMVR, hCNO, hCLM, hSUP, hKNK⟩ := h
  have g2 : T2 108 0 2 = T2 111 0 12 := (f2 108 0 2 rfl).trans ((f1 108 0 2 rfl).trans (hCNR.1.trans ((f1 111 0 12 rfl).symm.trans (f2 111 0 12 rfl).symm)))
  have g12 : T2 108 0 12 = T2 111 0 21 := (f2 108 0 12 rfl).trans ((f1 108 0 12 rfl).trans (hCNR.2.2.1.trans ((f1 111 0 21 rfl).symm.trans (f2 111 0 21 rfl).symm)))
  have q := hCNR.2.1
  have q1 := f1 111 0 15 rfl
  have q2 := f2 108 0 3 rfl
  have g13 : T2 108 0 13 = T2 111 0 3 := (f2 108 0 13 rfl).trans ((f1 108 0 13 rfl).trans (hCNR.2.2.2.trans ((f1 111 0 3 rfl).symm.trans (f2 111 0 3 rfl).symm)))
  have hs2 := spr_p hSPR d1 (⟨f1 108 0 5 rfl, fun j => f1 566 0 j rfl, fun j => f1 567 0 j rfl, fun j => f1 568 0 j rfl, fun j => f1 569 0 j rfl⟩) (⟨f1 111 0 16 rfl, fun j => f1 217 0 j rfl, fun j => f1 218 0 j rfl, fun j => f1 219 0 j rfl, fun j => f1 220 0 j rfl⟩) (f2 108 0 3 rfl) (⟨f2 108 0 5 rfl, fun j => f2 566 0 j rfl, fun j => f2 567 0 j rfl, fun j => f2 568 0 j rfl, fun j => f2 569 0 j rfl⟩) ((fun j => f2 564 0 j rfl)) (⟨f2 111 0 16 rfl, fun j => f2 217 0 j rfl, fun j => f2 218 0 j rfl, fun j => f2 219 0 j rfl, fun j => f2 220 0 j rfl⟩)
  have d1 : (T 108 0 3 = 200 ∧ x1 = -5 ∧ T1 108 0 3 = T 108 0 3) ∨ (T 108 0 3 < 200 ∧ x1 = T 108 0 3 ∧ T1 108 0 3 = T 108 0 3 + 1) := d1.elim (fun z => Or.inl ⟨z.1, z.2.1, by rw [z.2.2]⟩) (fun z => Or.inr ⟨z.1, z.2.1, z.2.2.1⟩)
  have ex : x1 = x2 := by omega
  have g3 : T2 108 0 3 = T2 111 0 15 := by omega
  subst ex
  exact ⟨_, e1, e2, i2, j2, ⟨g2, g3, g12, g13⟩, THR_q hTHR (ks_t (ks_f f1 (by decide +kernel)) (ks_f f2 (by decide +kernel))), hs2, TXR_q hTXR (ks_t (ks_f f1 (by decide +kernel)) (ks_f f2 (by decide +kernel))), ENR_q hENR (ks_t (ks_f f1 (by decide +kernel)) (ks_f f2 (by decide +kernel))), MAR_q hMAR (ks_t (ks_f f1 (by decide +kernel)) (ks_f f2 (by decide +kernel))), DER_q hDER (ks_t (ks_f f1 (by decide +kernel)) (ks_f f2 (by decide +kernel))), LOR_q hLOR (ks_t (ks_f f1 (by decide +kernel)) (ks_f f2 (by decide +kernel))), PLR_q hPLR (ks_t (ks_f f1 (by decide +kernel)) (ks_f f2 (by decide +kernel))), LDR_q hLDR (ks_t (ks_f f1 (by decide +kernel)) (ks_f f2 (by decide +kernel))), RCR_q hRCR (ks_t (ks_f f1 (by decide +kernel)) (ks_f f2 (by decide +kernel))), DAR_q hDAR (ks_t (ks_f f1 (by decide +kernel)) (ks_f f2 (by decide +kernel))), MVR_q hMVR (ks_t (ks_f f1 (by decide +kernel)) (ks_f f2 (by decide +kernel))), CNO_q hCNO (ks_t (ks_f f1 (by decide +kernel)) (ks_f f2 (by decide +kernel))), CLM_q hCLM (ks_t (ks_f f1 (by decide +kernel)) (ks_f f2 (by decide +kernel))), SUP_q hSUP (ks_t (ks_f f1 (by decide +kernel)) (ks_f f2 (by decide +kernel))), KNK_q hKNK (ks_t (ks_f f1 (by decide +kernel)) (ks_f f2 (by decide +kernel)))⟩
set_option maxRecDepth 100000 in
theorem re_register {N : Int} {T T1 T2 : Zt} {p9 cl9 a9 b9 : Int} {r1 r2 : Option Zv} (hT : ok_T T) (hI : IC_ N T) (hR : IR_ T) (h : RE_ T) (a : qx_register N T p9 cl9 a9 b9 T1 r1) (b : qm_register (N + 1) T1 p9 cl9 a9 b9 T2 r2) : LQo_ N T2 r1 r2 := by
  obtain ⟨x1, e1, -, -, f1, d1⟩ := a
  obtain ⟨x2, e2, i2, j2, f2, d2⟩ := b
  obtain ⟨hCNR, hTHR, hSPR, hTXR, hENR, hMAR, hDER, hLOR, hPLR, hLDR, hRCR, hDAR, hMVR, hCNO, hCLM, hSUP, hKNK⟩ := h
  obtain ⟨ex, hs2⟩ := spr_r hSPR (bd_f hT 108 5 tl_8_5 0).1 hCNR.2.1 hCNR.1 d1 (⟨f1 111 0 16 rfl, fun j => f1 217 0 j rfl, fun j => f1 218 0 j rfl, fun j => f1 219 0 j rfl, fun j => f1 220 0 j rfl⟩) (f1 108 0 3 rfl) (f1 111 0 15 rfl) (f1 111 0 12 rfl) d2 (⟨f2 108 0 5 rfl, fun j => f2 566 0 j rfl, fun j => f2 567 0 j rfl, fun j => f2 568 0 j rfl, fun j => f2 569 0 j rfl⟩) ((fun j => f2 564 0 j rfl)) (f2 108 0 3 rfl)
  subst ex
  exact ⟨_, e1, e2, i2, j2, CNR_q hCNR (ks_t (ks_f f1 (by decide +kernel)) (ks_f f2 (by decide +kernel))), THR_q hTHR (ks_t (ks_f f1 (by decide +kernel)) (ks_f f2 (by decide +kernel))), hs2, TXR_q hTXR (ks_t (ks_f f1 (by decide +kernel)) (ks_f f2 (by decide +kernel))), ENR_q hENR (ks_t (ks_f f1 (by decide +kernel)) (ks_f f2 (by decide +kernel))), MAR_q hMAR (ks_t (ks_f f1 (by decide +kernel)) (ks_f f2 (by decide +kernel))), DER_q hDER (ks_t (ks_f f1 (by decide +kernel)) (ks_f f2 (by decide +kernel))), LOR_q hLOR (ks_t (ks_f f1 (by decide +kernel)) (ks_f f2 (by decide +kernel))), PLR_q hPLR (ks_t (ks_f f1 (by decide +kernel)) (ks_f f2 (by decide +kernel))), LDR_q hLDR (ks_t (ks_f f1 (by decide +kernel)) (ks_f f2 (by decide +kernel))), RCR_q hRCR (ks_t (ks_f f1 (by decide +kernel)) (ks_f f2 (by decide +kernel))), DAR_q hDAR (ks_t (ks_f f1 (by decide +kernel)) (ks_f f2 (by decide +kernel))), MVR_q hMVR (ks_t (ks_f f1 (by decide +kernel)) (ks_f f2 (by decide +kernel))), CNO_q hCNO (ks_t (ks_f f1 (by decide +kernel)) (ks_f f2 (by decide +kernel))), CLM_q hCLM (ks_t (ks_f f1 (by decide +kernel)) (ks_f f2 (by decide +kernel))), SUP_q hSUP (ks_t (ks_f f1 (by decide +kernel)) (ks_f f2 (by decide +kernel))), KNK_q hKNK (ks_t (ks_f f1 (by decide +kernel)) (ks_f f2 (by decide +kernel)))⟩
set_option maxRecDepth 100000 in
theorem re_official {N : Int} {T T1 T2 : Zt} {s9 c9 : Int} {r1 r2 : Option Zv} (hT : ok_T T) (hI : IC_ N T) (hR : IR_ T) (h : RE_ T) (a : qx_official N T s9 c9 T1 r1) (b : qm_official (N + 1) T1 s9 c9 T2 r2) : LQo_ N T2 r1 r2 := by
  obtain ⟨x1, e1, -, -, f1, d1⟩ := a
  obtain ⟨x2, e2, i2, j2, f2, d2⟩ := b
  obtain ⟨hCNR, hTHR, hSPR, hTXR, hENR, hMAR, hDER, hLOR, hPLR, hLDR, hRCR, hDAR, hMVR, hCNO, hCLM, hSUP, hKNK⟩ := h
  obtain ⟨ex, ec, et⟩ := tg9_e hTHR.2 hCNR.2.2.1 d1.2 (f1 111 0 21 rfl) (fun j => f1 222 0 j rfl) (fun j => f1 223 0 j rfl) d2.2 (f2 108 0 12 rfl) (fun j => f2 570 0 j rfl) (fun j => f2 571 0 j rfl)
  subst ex
  exact ⟨_, e1, e2, i2, j2, ⟨(f2 108 0 2 rfl).trans ((f1 108 0 2 rfl).trans (hCNR.1.trans ((f1 111 0 12 rfl).symm.trans (f2 111 0 12 rfl).symm))), (f2 108 0 3 rfl).trans ((f1 108 0 3 rfl).trans (hCNR.2.1.trans ((f1 111 0 15 rfl).symm.trans (f2 111 0 15 rfl).symm))), ec, (f2 108 0 13 rfl).trans ((f1 108 0 13 rfl).trans (hCNR.2.2.2.trans ((f1 111 0 3 rfl).symm.trans (f2 111 0 3 rfl).symm)))⟩, ⟨fun j a b => by rw [f2 108 0 2 rfl, f1 108 0 2 rfl] at b; rw [f2 560 0 j rfl, f1 560 0 j rfl, f2 561 0 j rfl, f1 561 0 j rfl, f2 213 0 j rfl, f1 213 0 j rfl, f2 214 0 j rfl, f1 214 0 j rfl]; exact hTHR.1 j a b, et⟩, SPR_q hSPR (ks_t (ks_f f1 (by decide +kernel)) (ks_f f2 (by decide +kernel))), TXR_q hTXR (ks_t (ks_f f1 (by decide +kernel)) (ks_f f2 (by decide +kernel))), ENR_q hENR (ks_t (ks_f f1 (by decide +kernel)) (ks_f f2 (by decide +kernel))), MAR_q hMAR (ks_t (ks_f f1 (by decide +kernel)) (ks_f f2 (by decide +kernel))), DER_q hDER (ks_t (ks_f f1 (by decide +kernel)) (ks_f f2 (by decide +kernel))), LOR_q hLOR (ks_t (ks_f f1 (by decide +kernel)) (ks_f f2 (by decide +kernel))), PLR_q hPLR (ks_t (ks_f f1 (by decide +kernel)) (ks_f f2 (by decide +kernel))), LDR_q hLDR (ks_t (ks_f f1 (by decide +kernel)) (ks_f f2 (by decide +kernel))), RCR_q hRCR (ks_t (ks_f f1 (by decide +kernel)) (ks_f f2 (by decide +kernel))), DAR_q hDAR (ks_t (ks_f f1 (by decide +kernel)) (ks_f f2 (by decide +kernel))), MVR_q hMVR (ks_t (ks_f f1 (by decide +kernel)) (ks_f f2 (by decide +kernel))), CNO_q hCNO (ks_t (ks_f f1 (by decide +kernel)) (ks_f f2 (by decide +kernel))), CLM_q hCLM (ks_t (ks_f f1 (by decide +kernel)) (ks_f f2 (by decide +kernel))), SUP_q hSUP (ks_t (ks_f f1 (by decide +kernel)) (ks_f f2 (by decide +kernel))), KNK_q hKNK (ks_t (ks_f f1 (by decide +kernel)) (ks_f f2 (by decide +kernel)))⟩
set_option maxRecDepth 100000 in
theorem re_day {N : Int} {T T1 T2 : Zt} {d9 : Int} {r1 r2 : Option Zv} (hT : ok_T T) (hI : IC_ N T) (hR : IR_ T) (h : RE_ T) (a : qx_day N T d9 T1 r1) (b : qm_day (N + 1) T1 d9 T2 r2) : LQo_ N T2 r1 r2 := by
  obtain ⟨x1, e1, -, -, f1, d1⟩ := a
  obtain ⟨x2, e2, i2, j2, f2, d2⟩ := b
  obtain ⟨hCNR, hTHR, hSPR, hTXR, hENR, hMAR, hDER, hLOR, hPLR, hLDR, hRCR, hDAR, hMVR, hCNO, hCLM, hSUP, hKNK⟩ := h
  have g2 : T2 108 0 2 = T2 111 0 12 := (f2 108 0 2 rfl).trans ((f1 108 0 2 rfl).trans (hCNR.1.trans ((f1 111 0 12 rfl).symm.trans (f2 111 0 12 rfl).symm)))
  have g12 : T2 108 0 12 = T2 111 0 21 := (f2 108 0 12 rfl).trans ((f1 108 0 12 rfl).trans (hCNR.2.2.1.trans ((f1 111 0 21 rfl).symm.trans (f2 111 0 21 rfl).symm)))
  have q := hCNR.2.2.2
  have q1 := f1 111 0 3 rfl
  have q2 := f2 108 0 13 rfl
  have g3 : T2 108 0 3 = T2 111 0 15 := (f2 108 0 3 rfl).trans ((f1 108 0 3 rfl).trans (hCNR.2.1.trans ((f1 111 0 15 rfl).symm.trans (f2 111 0 15 rfl).symm)))
  have ex : x1 = x2 := by omega
  have g13 : T2 108 0 13 = T2 111 0 3 := by omega
  subst ex
  exact ⟨_, e1, e2, i2, j2, ⟨g2, g3, g12, g13⟩, THR_q hTHR (ks_t (ks_f f1 (by decide +kernel)) (ks_f f2 (by decide +kernel))), SPR_q hSPR (ks_t (ks_f f1 (by decide +kernel)) (ks_f f2 (by decide +kernel))), TXR_q hTXR (ks_t (ks_f f1 (by decide +kernel)) (ks_f f2 (by decide +kernel))), ENR_q hENR (ks_t (ks_f f1 (by decide +kernel)) (ks_f f2 (by decide +kernel))), MAR_q hMAR (ks_t (ks_f f1 (by decide +kernel)) (ks_f f2 (by decide +kernel))), DER_q hDER (ks_t (ks_f f1 (by decide +kernel)) (ks_f f2 (by decide +kernel))), LOR_q hLOR (ks_t (ks_f f1 (by decide +kernel)) (ks_f f2 (by decide +kernel))), PLR_q hPLR (ks_t (ks_f f1 (by decide +kernel)) (ks_f f2 (by decide +kernel))), LDR_q hLDR (ks_t (ks_f f1 (by decide +kernel)) (ks_f f2 (by decide +kernel))), RCR_q hRCR (ks_t (ks_f f1 (by decide +kernel)) (ks_f f2 (by decide +kernel))), DAR_q hDAR (ks_t (ks_f f1 (by decide +kernel)) (ks_f f2 (by decide +kernel))), MVR_q hMVR (ks_t (ks_f f1 (by decide +kernel)) (ks_f f2 (by decide +kernel))), CNO_q hCNO (ks_t (ks_f f1 (by decide +kernel)) (ks_f f2 (by decide +kernel))), CLM_q hCLM (ks_t (ks_f f1 (by decide +kernel)) (ks_f f2 (by decide +kernel))), SUP_q hSUP (ks_t (ks_f f1 (by decide +kernel)) (ks_f f2 (by decide +kernel))), KNK_q hKNK (ks_t (ks_f f1 (by decide +kernel)) (ks_f f2 (by decide +kernel)))⟩
