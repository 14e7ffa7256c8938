set_option maxRecDepth 100000 in
theorem re_drawing {N : Int} {T T1 T2 : Zt} {g9 l9 : Int} {r1 r2 : Option Zv} (hT : ok_T T) (hI : IC_ N T) (hR : IR_ T) (h : RE_ T) (a : qx_drawing N T g9 l9 T1 r1) (b : qm_drawing (N + 1) T1 g9 l9 T2 r2) : LQo_ N T2 r1 r2 := by
  obtain ⟨x1, e1, -, -, f1, d1⟩ := a
  obtain ⟨x2, e2, i2, j2, f2, d2⟩ := b
  obtain ⟨hCNR, hTHR, hSPR, hTXR, hENR, hMAR, hDER, hLOR, hPLR, hLDR, hRCR, hDAR, hMVR, hCNO, hCLM, hSUP, hKNK⟩ := h
  obtain ⟨ex, lo⟩ := lor_d hLOR (bd_f hT 108 2 tl_8_2 0).1 d1.2 f1 d2.2 f2
  subst ex
  exact ⟨_, e1, e2, i2, j2, CNR_q hCNR (ks_t (ks_f f1 (by decide +kernel)) (ks_f f2 (by decide +kernel))), THR_q hTHR (ks_t (ks_f f1 (by decide +kernel)) (ks_f f2 (by decide +kernel))), SPR_q hSPR (ks_t (ks_f f1 (by decide +kernel)) (ks_f f2 (by decide +kernel))), TXR_q hTXR (ks_t (ks_f f1 (by decide +kernel)) (ks_f f2 (by decide +kernel))), ENR_q hENR (ks_t (ks_f f1 (by decide +kernel)) (ks_f f2 (by decide +kernel))), MAR_q hMAR (ks_t (ks_f f1 (by decide +kernel)) (ks_f f2 (by decide +kernel))), DER_q hDER (ks_t (ks_f f1 (by decide +kernel)) (ks_f f2 (by decide +kernel))), lo, PLR_q hPLR (ks_t (ks_f f1 (by decide +kernel)) (ks_f f2 (by decide +kernel))), LDR_q hLDR (ks_t (ks_f f1 (by decide +kernel)) (ks_f f2 (by decide +kernel))), RCR_q hRCR (ks_t (ks_f f1 (by decide +kernel)) (ks_f f2 (by decide +kernel))), DAR_q hDAR (ks_t (ks_f f1 (by decide +kernel)) (ks_f f2 (by decide +kernel))), MVR_q hMVR (ks_t (ks_f f1 (by decide +kernel)) (ks_f f2 (by decide +kernel))), CNO_q hCNO (ks_t (ks_f f1 (by decide +kernel)) (ks_f f2 (by decide +kernel))), CLM_q hCLM (ks_t (ks_f f1 (by decide +kernel)) (ks_f f2 (by decide +kernel))), SUP_q hSUP (ks_t (ks_f f1 (by decide +kernel)) (ks_f f2 (by decide +kernel))), KNK_q hKNK (ks_t (ks_f f1 (by decide +kernel)) (ks_f f2 (by decide +kernel)))⟩
set_option maxRecDepth 100000 in
theorem re_pot {N : Int} {T T1 T2 : Zt} {c9 k9 : Int} {r1 r2 : Option Zv} (hT : ok_T T) (hI : IC_ N T) (hR : IR_ T) (h : RE_ T) (a : qx_pot N T c9 k9 T1 r1) (b : qm_pot (N + 1) T1 c9 k9 T2 r2) : LQo_ N T2 r1 r2 := by
  obtain ⟨x1, e1, -, -, f1, d1⟩ := a
  obtain ⟨x2, e2, i2, j2, f2, d2⟩ := b
  obtain ⟨hCNR, hTHR, hSPR, hTXR, hENR, hMAR, hDER, hLOR, hPLR, hLDR, hRCR, hDAR, hMVR, hCNO, hCLM, hSUP, hKNK⟩ := h
  obtain ⟨ex, lo⟩ := lor_p hLOR hCNR.1 (bd_f hT 108 2 tl_8_2 0).2 d1.2 f1 d2.2 f2
  subst ex
  exact ⟨_, e1, e2, i2, j2, CNR_q hCNR (ks_t (ks_f f1 (by decide +kernel)) (ks_f f2 (by decide +kernel))), THR_q hTHR (ks_t (ks_f f1 (by decide +kernel)) (ks_f f2 (by decide +kernel))), SPR_q hSPR (ks_t (ks_f f1 (by decide +kernel)) (ks_f f2 (by decide +kernel))), TXR_q hTXR (ks_t (ks_f f1 (by decide +kernel)) (ks_f f2 (by decide +kernel))), ENR_q hENR (ks_t (ks_f f1 (by decide +kernel)) (ks_f f2 (by decide +kernel))), MAR_q hMAR (ks_t (ks_f f1 (by decide +kernel)) (ks_f f2 (by decide +kernel))), DER_q hDER (ks_t (ks_f f1 (by decide +kernel)) (ks_f f2 (by decide +kernel))), lo, PLR_q hPLR (ks_t (ks_f f1 (by decide +kernel)) (ks_f f2 (by decide +kernel))), LDR_q hLDR (ks_t (ks_f f1 (by decide +kernel)) (ks_f f2 (by decide +kernel))), RCR_q hRCR (ks_t (ks_f f1 (by decide +kernel)) (ks_f f2 (by decide +kernel))), DAR_q hDAR (ks_t (ks_f f1 (by decide +kernel)) (ks_f f2 (by decide +kernel))), MVR_q hMVR (ks_t (ks_f f1 (by decide +kernel)) (ks_f f2 (by decide +kernel))), CNO_q hCNO (ks_t (ks_f f1 (by decide +kernel)) (ks_f f2 (by decide +kernel))), CLM_q hCLM (ks_t (ks_f f1 (by decide +kernel)) (ks_f f2 (by decide +kernel))), SUP_q hSUP (ks_t (ks_f f1 (by decide +kernel)) (ks_f f2 (by decide +kernel))), KNK_q hKNK (ks_t (ks_f f1 (by decide +kernel)) (ks_f f2 (by decide +kernel)))⟩
set_option maxRecDepth 100000 in
theorem re_ways {N : Int} {T T1 T2 : Zt} {r1 r2 : Option Zv} (hT : ok_T T) (hI : IC_ N T) (hR : IR_ T) (h : RE_ T) (a : qx_ways N T T1 r1) (b : qm_ways (N + 1) T1 T2 r2) : LQo_ N T2 r1 r2 := by
  obtain ⟨x1, e1, -, -, f1, d1⟩ := a
  obtain ⟨x2, e2, i2, j2, f2, d2⟩ := b
  obtain ⟨hCNR, hTHR, hSPR, hTXR, hENR, hMAR, hDER, hLOR, hPLR, hLDR, hRCR, hDAR, hMVR, hCNO, hCLM, hSUP, hKNK⟩ := h
  obtain ⟨ex, lo⟩ := lor_w hLOR hCNR.1 (bd_f hT 108 2 tl_8_2 0) d1.2 f1 (THR_q hTHR (ks_f f1 (by decide +kernel))) d2.2 f2
  subst ex
  exact ⟨_, e1, e2, i2, j2, CNR_q hCNR (ks_t (ks_f f1 (by decide +kernel)) (ks_f f2 (by decide +kernel))), THR_q hTHR (ks_t (ks_f f1 (by decide +kernel)) (ks_f f2 (by decide +kernel))), SPR_q hSPR (ks_t (ks_f f1 (by decide +kernel)) (ks_f f2 (by decide +kernel))), TXR_q hTXR (ks_t (ks_f f1 (by decide +kernel)) (ks_f f2 (by decide +kernel))), ENR_q hENR (ks_t (ks_f f1 (by decide +kernel)) (ks_f f2 (by decide +kernel))), MAR_q hMAR (ks_t (ks_f f1 (by decide +kernel)) (ks_f f2 (by decide +kernel))), DER_q hDER (ks_t (ks_f f1 (by decide +kernel)) (ks_f f2 (by decide +kernel))), lo, PLR_q hPLR (ks_t (ks_f f1 (by decide +kernel)) (ks_f f2 (by decide +kernel))), LDR_q hLDR (ks_t (ks_f f1 (by decide +kernel)) (ks_f f2 (by decide +kernel))), RCR_q hRCR (ks_t (ks_f f1 (by decide +kernel)) (ks_f f2 (by decide +kernel))), DAR_q hDAR (ks_t (ks_f f1 (by decide +kernel)) (ks_f f2 (by decide +kernel))), MVR_q hMVR (ks_t (ks_f f1 (by decide +kernel)) (ks_f f2 (by decide +kernel))), CNO_q hCNO (ks_t (ks_f f1 (by decide +kernel)) (ks_f f2 (by decide +kernel))), CLM_q hCLM (ks_t (ks_f f1 (by decide +kernel)) (ks_f f2 (by decide +kernel))), SUP_q hSUP (ks_t (ks_f f1 (by decide +kernel)) (ks_f f2 (by decide +kernel))), KNK_q hKNK (ks_t (ks_f f1 (by decide +kernel)) (ks_f f2 (by decide +kernel)))⟩
set_option maxRecDepth 100000 in
theorem re_chance {N : Int} {T T1 T2 : Zt} {c9 g9 : Int} {r1 r2 : Option Zv} (hT : ok_T T) (hI : IC_ N T) (hR : IR_ T) (h : RE_ T) (a : qx_chance N T c9 g9 T1 r1) (b : qm_chance (N + 1) T1 c9 g9 T2 r2) : LQo_ N T2 r1 r2 := by
  obtain ⟨x1, e1, -, -, f1, d1⟩ := a
  obtain ⟨x2, e2, i2, j2, f2, d2⟩ := b
  obtain ⟨hCNR, hTHR, hSPR, hTXR, hENR, hMAR, hDER, hLOR, hPLR, hLDR, hRCR, hDAR, hMVR, hCNO, hCLM, hSUP, hKNK⟩ := h
  obtain ⟨ex, lo⟩ := lor_h hLOR hCNR.1 (bd_f hT 108 2 tl_8_2 0) (fun j a => bd_a hT 428 (by decide +kernel : ta_ 428 = some (1, some 12, -1, 2)) 0 a) (bd_f hT 101 1 tl_1_1 0).2 d1.2 f1 (THR_q hTHR (ks_f f1 (by decide +kernel))) d2.2 f2
  subst ex
  exact ⟨_, e1, e2, i2, j2, CNR_q hCNR (ks_t (ks_f f1 (by decide +kernel)) (ks_f f2 (by decide +kernel))), THR_q hTHR (ks_t (ks_f f1 (by decide +kernel)) (ks_f f2 (by decide +kernel))), SPR_q hSPR (ks_t (ks_f f1 (by decide +kernel)) (ks_f f2 (by decide +kernel))), TXR_q hTXR (ks_t (ks_f f1 (by decide +kernel)) (ks_f f2 (by decide +kernel))), ENR_q hENR (ks_t (ks_f f1 (by decide +kernel)) (ks_f f2 (by decide +kernel))), MAR_q hMAR (ks_t (ks_f f1 (by decide +kernel)) (ks_f f2 (by decide +kernel))), DER_q hDER (ks_t (ks_f f1 (by decide +kernel)) (ks_f f2 (by decide +kernel))), lo, PLR_q hPLR (ks_t (ks_f f1 (by decide +kernel)) (ks_f f2 (by decide +kernel))), LDR_q hLDR (ks_t (ks_f f1 (by decide +kernel)) (ks_f f2 (by decide +kernel))), RCR_q hRCR (ks_t (ks_f f1 (by decide +kernel)) (ks_f f2 (by decide +kernel))), DAR_q hDAR (ks_t (ks_f f1 (by decide +kernel)) (ks_f f2 (by decide +kernel))), MVR_q hMVR (ks_t (ks_f f1 (by decide +kernel)) (ks_f f2 (by decide +kernel))), CNO_q hCNO (ks_t (ks_f f1 (by decide +kernel)) (ks_f f2 (by decide +kernel))), CLM_q hCLM (ks_t (ks_f f1 (by decide +kernel)) (ks_f f2 (by decide +kernel))), SUP_q hSUP (ks_t (ks_f f1 (by decide +kernel)) (ks_f f2 (by decide +kernel))), KNK_q hKNK (ks_t (ks_f f1 (by decide +kernel)) (ks_f f2 (by decide +kernel)))⟩
set_option maxRecDepth 100000 in
theorem re_ball {N : Int} {T T1 T2 : Zt} {s9 b9 : Int} {r1 r2 : Option Zv} (hT : ok_T T) (hI : IC_ N T) (hR : IR_ T) (h : RE_ T) (a : qx_ball N T s9 b9 T1 r1) (b : qm_ball (N + 1) T1 s9 b9 T2 r2) : LQo_ N T2 r1 r2 := by
  obtain ⟨x1, e1, -, -, f1, d1⟩ := a
  obtain ⟨x2, e2, i2, j2, f2, d2⟩ := b
  obtain ⟨hCNR, hTHR, hSPR, hTXR, hENR, hMAR, hDER, hLOR, hPLR, hLDR, hRCR, hDAR, hMVR, hCNO, hCLM, hSUP, hKNK⟩ := h
  obtain ⟨ex, lo⟩ := lor_b hLOR hCNR.1 (bd_f hT 108 2 tl_8_2 0) (fun j a => bd_a hT 428 (by decide +kernel : ta_ 428 = some (1, some 12, -1, 2)) 0 a) (fun j a => bd_a hT 561 (by decide +kernel : ta_ 561 = some (1, some 12, 0, 7)) 0 a) (bd_f hT 101 1 tl_1_1 0) hTHR d1.2 f1 d2.2 f2
  subst ex
  exact ⟨_, e1, e2, i2, j2, CNR_q hCNR (ks_t (ks_f f1 (by decide +kernel)) (ks_f f2 (by decide +kernel))), THR_q hTHR (ks_t (ks_f f1 (by decide +kernel)) (ks_f f2 (by decide +kernel))), SPR_q hSPR (ks_t (ks_f f1 (by decide +kernel)) (ks_f f2 (by decide +kernel))), TXR_q hTXR (ks_t (ks_f f1 (by decide +kernel)) (ks_f f2 (by decide +kernel))), ENR_q hENR (ks_t (ks_f f1 (by decide +kernel)) (ks_f f2 (by decide +kernel))), MAR_q hMAR (ks_t (ks_f f1 (by decide +kernel)) (ks_f f2 (by decide +kernel))), DER_q hDER (ks_t (ks_f f1 (by decide +kernel)) (ks_f f2 (by decide +kernel))), lo, PLR_q hPLR (ks_t (ks_f f1 (by decide +kernel)) (ks_f f2 (by decide +kernel))), LDR_q hLDR (ks_t (ks_f f1 (by decide +kernel)) (ks_f f2 (by decide +kernel))), RCR_q hRCR (ks_t (ks_f f1 (by decide +kernel)) (ks_f f2 (by decide +kernel))), DAR_q hDAR (ks_t (ks_f f1 (by decide +kernel)) (ks_f f2 (by decide +kernel))), MVR_q hMVR (ks_t (ks_f f1 (by decide +kernel)) (ks_f f2 (by decide +kernel))), CNO_q hCNO (ks_t (ks_f f1 (by decide +kernel)) (ks_f f2 (by decide +kernel))), CLM_q hCLM (ks_t (ks_f f1 (by decide +kernel)) (ks_f f2 (by decide +kernel))), SUP_q hSUP (ks_t (ks_f f1 (by decide +kernel)) (ks_f f2 (by decide +kernel))), KNK_q hKNK (ks_t (ks_f f1 (by decide +kernel)) (ks_f f2 (by decide +kernel)))⟩
set_option maxRecDepth 100000 in
theorem re_drawn {N : Int} {T T1 T2 : Zt} {c9 : Int} {r1 r2 : Option Zv} (hT : ok_T T) (hI : IC_ N T) (hR : IR_ T) (h : RE_ T) (a : qx_drawn N T c9 T1 r1) (b : qm_drawn (N + 1) T1 c9 T2 r2) : LQo_ N T2 r1 r2 := by
  obtain ⟨x1, e1, -, -, f1, d1⟩ := a
  obtain ⟨x2, e2, i2, j2, f2, d2⟩ := b
  have hR2 := RE_q h (ks_t (ks_f f1 (by decide +kernel)) (ks_f f2 (by decide +kernel)))
  obtain ⟨hCNR, hTHR, hSPR, hTXR, hENR, hMAR, hDER, hLOR, hPLR, hLDR, hRCR, hDAR, hMVR, hCNO, hCLM, hSUP, hKNK⟩ := h
  rw [fzq_ f1] at d2
  have ex : x1 = x2 := lor_q hLOR hCNR.1 (bd_f hT 108 2 tl_8_2 0).2 d1 d2
  subst ex
  exact ⟨_, e1, e2, i2, j2, hR2⟩
set_option maxRecDepth 100000 in
theorem re_assign {N : Int} {T T1 T2 : Zt} {d9 : Int} {r1 r2 : Option Zv} (hT : ok_T T) (hI : IC_ N T) (hR : IR_ T) (h : RE_ T) (a : qx_assign N T d9 T1 r1) (b : qm_assign (N + 1) T1 d9 T2 r2) : LBo_ N T2 r1 r2 := by
  obtain ⟨x1, e1, -, -, f1, d1⟩ := a
  obtain ⟨x2, e2, i2, j2, f2, d2⟩ := b
  obtain ⟨hCNR, hTHR, hSPR, hTXR, hENR, hMAR, hDER, hLOR, hPLR, hLDR, hRCR, hDAR, hMVR, hCNO, hCLM, hSUP, hKNK⟩ := h
  have pl1 := pl_assign hI hPLR hLDR f1 d1.1 d1.2.1
  exact ⟨x1, x2, e1, e2, i2, j2, CNR_q hCNR (ks_t (ks_f f1 (by decide +kernel)) (ks_f f2 (by decide +kernel))), THR_q hTHR (ks_t (ks_f f1 (by decide +kernel)) (ks_f f2 (by decide +kernel))), SPR_q hSPR (ks_t (ks_f f1 (by decide +kernel)) (ks_f f2 (by decide +kernel))), TXR_q hTXR (ks_t (ks_f f1 (by decide +kernel)) (ks_f f2 (by decide +kernel))), ENR_q hENR (ks_t (ks_f f1 (by decide +kernel)) (ks_f f2 (by decide +kernel))), MAR_q hMAR (ks_t (ks_f f1 (by decide +kernel)) (ks_f f2 (by decide +kernel))), DER_q hDER (ks_t (ks_f f1 (by decide +kernel)) (ks_f f2 (by decide +kernel))), LOR_q hLOR (ks_t (ks_f f1 (by decide +kernel)) (ks_f f2 (by decide +kernel))), PLR_q pl1.1 (ks_f f2 (by decide +kernel)), LDR_q pl1.2 (ks_f f2 (by decide +kernel)), RCR_q hRCR (ks_t (ks_f f1 (by decide +kernel)) (ks_f f2 (by decide +kernel))), DAR_q hDAR (ks_t (ks_f f1 (by decide +kernel)) (ks_f f2 (by decide +kernel))), MVR_q hMVR (ks_t (ks_f f1 (by decide +kernel)) (ks_f f2 (by decide +kernel))), CNO_q hCNO (ks_t (ks_f f1 (by decide +kernel)) (ks_f f2 (by decide +kernel))), CLM_q hCLM (ks_t (ks_f f1 (by decide +kernel)) (ks_f f2 (by decide +kernel))), SUP_q hSUP (ks_t (ks_f f1 (by decide +kernel)) (ks_f f2 (by decide +kernel))), KNK_q hKNK (ks_t (ks_f f1 (by decide +kernel)) (ks_f f2 (by decide +kernel)))⟩
set_option maxRecDepth 100000 in
theorem re_officialOf {N : Int} {T T1 T2 : Zt} {m9 : Int} {r1 r2 : Option Zv} (hT : ok_T T) (hI : IC_ N T) (hR : IR_ T) (h : RE_ T) (a : qx_officialOf N T m9 T1 r1) (b : qm_officialOf (N + 1) T1 m9 T2 r2) : LBo_ N T2 r1 r2 := by
  obtain ⟨x1, e1, -, -, f1, d1⟩ := a
  obtain ⟨x2, e2, i2, j2, f2, d2⟩ := b
  have hR2 := RE_q h (ks_t (ks_f f1 (by decide +kernel)) (ks_f f2 (by decide +kernel)))
  exact ⟨x1, x2, e1, e2, i2, j2, hR2⟩
set_option maxRecDepth 100000 in
theorem re_count {N : Int} {T T1 T2 : Zt} {w9 : Int} {r1 r2 : Option Zv} (hT : ok_T T) (hI : IC_ N T) (hR : IR_ T) (h : RE_ T) (a : qx_count N T w9 T1 r1) (b : qm_count (N + 1) T1 w9 T2 r2) : LQo_ N T2 r1 r2 := by
  obtain ⟨x1, e1, -, -, f1, d1⟩ := a
  obtain ⟨x2, e2, i2, j2, f2, d2⟩ := b
  have hR2 := RE_q h (ks_t (ks_f f1 (by decide +kernel)) (ks_f f2 (by decide +kernel)))
  obtain ⟨hCNR, hTHR, hSPR, hTXR, hENR, hMAR, hDER, hLOR, hPLR, hLDR, hRCR, hDAR, hMVR, hCNO, hCLM, hSUP, hKNK⟩ := h
  rw [fzq_ f1] at d2
  have ex : x1 = x2 := pl_count hCNR hSPR hTXR hMAR hRCR d1 d2
  subst ex
  exact ⟨_, e1, e2, i2, j2, hR2⟩
