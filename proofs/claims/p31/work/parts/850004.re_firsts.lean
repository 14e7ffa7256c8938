set_option maxRecDepth 100000 in
theorem re_enter {N : Int} {T T1 T2 : Zt} {c9 b9 : Int} {r1 r2 : Option Zv} (hT : ok_T T) (hI : IC_ N T) (hR : IR_ T) (h : RE_ T) (a : qx_enter N T c9 b9 T1 r1) (b : qm_enter (N + 1) T1 c9 b9 T2 r2) : LQo_ N T2 r1 r2 := by
  obtain ⟨x1, e1, -, -, f1, d1⟩ := a
  obtain ⟨x2, e2, i2, j2, f2, d2⟩ := b
  obtain ⟨hCNR, hTHR, hSPR, hTXR, hENR, hMAR, hDER, hLOR, hPLR, hLDR, hRCR, hDAR, hMVR, hCNO, hCLM, hSUP, hKNK⟩ := h
  obtain ⟨ex, en⟩ := enr_e hENR hI.1.2.2.2.2.2.2.1 hTXR.2.2.1 hCNR.1 (bd_f hT 108 2 tl_8_2 0).2 (bd_f hT 106 2 tl_6_2 0) ⟨f1 106 0 2 rfl, f1 111 0 6 rfl, f1 111 0 12 rfl, fun d => ⟨f1 100 d 6 rfl, f1 100 d 7 rfl, f1 100 d 8 rfl⟩⟩ d1.2.2 (⟨fun j => f1 207 0 j rfl, fun j => ⟨f1 208 0 j rfl, f1 209 0 j rfl, f1 210 0 j rfl, f1 211 0 j rfl⟩⟩) ⟨f2 106 0 2 rfl, fun j => ⟨f2 209 0 j rfl, f2 210 0 j rfl, f2 211 0 j rfl⟩⟩ d2.2 (⟨fun c => ⟨f2 100 c 5 rfl, f2 100 c 6 rfl, f2 100 c 7 rfl, f2 100 c 8 rfl⟩, fun c j => f2 403 c j rfl, fun c j => f2 404 c j rfl⟩) (fun d => (bd_f hT 100 5 tl_0_5 d))
  subst ex
  exact ⟨_, e1, e2, i2, j2, CNR_q hCNR (ks_t (ks_f f1 (by decide +kernel)) (ks_f f2 (by decide +kernel))), THR_q hTHR (ks_t (ks_f f1 (by decide +kernel)) (ks_f f2 (by decide +kernel))), SPR_q hSPR (ks_t (ks_f f1 (by decide +kernel)) (ks_f f2 (by decide +kernel))), TXR_q hTXR (ks_t (ks_f f1 (by decide +kernel)) (ks_f f2 (by decide +kernel))), en, MAR_q hMAR (ks_t (ks_f f1 (by decide +kernel)) (ks_f f2 (by decide +kernel))), DER_q hDER (ks_t (ks_f f1 (by decide +kernel)) (ks_f f2 (by decide +kernel))), LOR_q hLOR (ks_t (ks_f f1 (by decide +kernel)) (ks_f f2 (by decide +kernel))), PLR_q hPLR (ks_t (ks_f f1 (by decide +kernel)) (ks_f f2 (by decide +kernel))), LDR_q hLDR (ks_t (ks_f f1 (by decide +kernel)) (ks_f f2 (by decide +kernel))), RCR_q hRCR (ks_t (ks_f f1 (by decide +kernel)) (ks_f f2 (by decide +kernel))), DAR_q hDAR (ks_t (ks_f f1 (by decide +kernel)) (ks_f f2 (by decide +kernel))), MVR_q hMVR (ks_t (ks_f f1 (by decide +kernel)) (ks_f f2 (by decide +kernel))), CNO_q hCNO (ks_t (ks_f f1 (by decide +kernel)) (ks_f f2 (by decide +kernel))), CLM_q hCLM (ks_t (ks_f f1 (by decide +kernel)) (ks_f f2 (by decide +kernel))), SUP_q hSUP (ks_t (ks_f f1 (by decide +kernel)) (ks_f f2 (by decide +kernel))), KNK_q hKNK (ks_t (ks_f f1 (by decide +kernel)) (ks_f f2 (by decide +kernel)))⟩
set_option maxRecDepth 100000 in
theorem re_plan {N : Int} {T T1 T2 : Zt} {c9 b9 : Int} {r1 r2 : Option Zv} (hT : ok_T T) (hI : IC_ N T) (hR : IR_ T) (h : RE_ T) (a : qx_plan N T c9 b9 T1 r1) (b : qm_plan (N + 1) T1 c9 b9 T2 r2) : LQo_ N T2 r1 r2 := by
  obtain ⟨x1, e1, -, -, f1, d1⟩ := a
  obtain ⟨x2, e2, i2, j2, f2, d2⟩ := b
  obtain ⟨hCNR, hTHR, hSPR, hTXR, hENR, hMAR, hDER, hLOR, hPLR, hLDR, hRCR, hDAR, hMVR, hCNO, hCLM, hSUP, hKNK⟩ := h
  obtain ⟨hT1, d2⟩ := d2
  have s2 : (x2 < 0 ∧ T2 = T1) ∨ PQ9_ T1 T2 c9 := d2.1.imp (fun z => ⟨z.1, z.2.symm⟩) (fun z => ⟨z.2.2.1, z.2.2.2.2.1, z.2.2.2.2.2.1, z.2.2.2.2.2.2, fun j => f2 207 0 j rfl, fun j => f2 208 0 j rfl⟩)
  obtain ⟨ex, en, ma⟩ := enr_p hENR hMAR hTXR hCNR.2.2.2 (bd_f hT 108 13 tl_8_13 0).1 (bd_f hT 106 4 tl_6_4 0).1 (bd_f hT 106 2 tl_6_2 0).2 (fun d => (bd_f hT 100 5 tl_0_5 d)) d1.2.1 (⟨fun j => f1 207 0 j rfl, fun j => ⟨f1 208 0 j rfl, f1 209 0 j rfl, f1 210 0 j rfl, f1 211 0 j rfl⟩⟩) (⟨f1 111 0 29 rfl, fun m => ⟨f1 230 0 m rfl, f1 231 0 m rfl, f1 232 0 m rfl, f1 233 0 m rfl⟩⟩) (⟨f1 111 0 1 rfl, f1 111 0 2 rfl, f1 111 0 6 rfl, fun j => f1 200 0 j rfl, fun j => f1 205 0 j rfl⟩) (f1 111 0 3 rfl) (f1 106 0 2 rfl) d2.2 s2 (⟨fun c => ⟨f2 100 c 5 rfl, f2 100 c 6 rfl, f2 100 c 7 rfl, f2 100 c 8 rfl⟩, fun c j => f2 403 c j rfl, fun c j => f2 404 c j rfl⟩) (⟨f2 106 0 4 rfl, fun m => ⟨f2 102 m 0 rfl, f2 102 m 2 rfl, f2 102 m 3 rfl, f2 102 m 4 rfl⟩⟩) (f2 106 0 2 rfl)
  have bo := enr_b hENR hMAR hTXR hCNR.2.2.2 (bd_f hT 108 13 tl_8_13 0).1 (bd_f hT 106 4 tl_6_4 0).1 (fun d => (bd_f hT 100 5 tl_0_5 d)) d1.2.1 (⟨fun j => f1 207 0 j rfl, fun j => ⟨f1 208 0 j rfl, f1 209 0 j rfl, f1 210 0 j rfl, f1 211 0 j rfl⟩⟩) (⟨f1 111 0 29 rfl, fun m => ⟨f1 230 0 m rfl, f1 231 0 m rfl, f1 232 0 m rfl, f1 233 0 m rfl⟩⟩) (⟨f1 111 0 1 rfl, f1 111 0 2 rfl, f1 111 0 6 rfl, fun j => f1 200 0 j rfl, fun j => f1 205 0 j rfl⟩) (f1 111 0 3 rfl) d2.2 s2
  have cn2 : CNR_ T2 := CNR_q hCNR (ks_t (ks_f f1 (by decide +kernel)) (ks_f f2 (by decide +kernel)))
  have b40 : T2 111 0 29 ≤ 400 := by
    have y := ma.1
    have y2 : T2 106 0 4 = T1 106 0 4 := f2 106 0 4 rfl
    have y3 := (bd_f hT1 106 4 tl_6_4 0).2
    exact Int.le_trans (Int.le_of_eq (y.symm.trans y2)) y3
  have c3 : ∀ i, 0 ≤ T2 102 i 3 ∧ T2 102 i 3 < 12 := fun i => by
    rw [f2 102 i 3 rfl]
    have y := bd_f hT1 102 3 tl_2_3 i
    exact ⟨y.1, Int.lt_of_le_of_lt y.2 (by decide)⟩
  have c4 : ∀ i, 0 ≤ T2 102 i 4 ∧ T2 102 i 4 < 12 := fun i => by
    rw [f2 102 i 4 rfl]
    have y := bd_f hT1 102 4 tl_2_4 i
    exact ⟨y.1, Int.lt_of_le_of_lt y.2 (by decide)⟩
  obtain ⟨pl, ld, da, cm⟩ := pl_plan hI hR hPLR hLDR hMAR hDAR hCLM i2 j2 en cn2 (bd_f hT 106 2 tl_6_2 0).2 c3 c4 b40 d1.2.2 bo f2
  subst ex
  exact ⟨_, e1, e2, i2, j2, CNR_q hCNR (ks_t (ks_f f1 (by decide +kernel)) (ks_f f2 (by decide +kernel))), THR_q hTHR (ks_t (ks_f f1 (by decide +kernel)) (ks_f f2 (by decide +kernel))), SPR_q hSPR (ks_t (ks_f f1 (by decide +kernel)) (ks_f f2 (by decide +kernel))), TXR_q hTXR (ks_t (ks_f f1 (by decide +kernel)) (ks_f f2 (by decide +kernel))), en, ma, DER_q hDER (ks_t (ks_f f1 (by decide +kernel)) (ks_f f2 (by decide +kernel))), LOR_q hLOR (ks_t (ks_f f1 (by decide +kernel)) (ks_f f2 (by decide +kernel))), pl, ld, RCR_q hRCR (ks_t (ks_f f1 (by decide +kernel)) (ks_f f2 (by decide +kernel))), da, MVR_q hMVR (ks_t (ks_f f1 (by decide +kernel)) (ks_f f2 (by decide +kernel))), CNO_q hCNO (ks_t (ks_f f1 (by decide +kernel)) (ks_f f2 (by decide +kernel))), cm, SUP_q hSUP (ks_t (ks_f f1 (by decide +kernel)) (ks_f f2 (by decide +kernel))), KNK_q hKNK (ks_t (ks_f f1 (by decide +kernel)) (ks_f f2 (by decide +kernel)))⟩
set_option maxRecDepth 100000 in
theorem re_match {N : Int} {T T1 T2 : Zt} {m9 w9 : Int} {r1 r2 : Option Zv} (hT : ok_T T) (hI : IC_ N T) (hR : IR_ T) (h : RE_ T) (a : qx_match N T m9 w9 T1 r1) (b : qm_match (N + 1) T1 m9 w9 T2 r2) : LQo_ N T2 r1 r2 := by
  obtain ⟨x1, e1, -, -, f1, d1⟩ := a
  obtain ⟨x2, e2, i2, j2, f2, d2⟩ := b
  have hR2 := RE_q h (ks_t (ks_f f1 (by decide +kernel)) (ks_f f2 (by decide +kernel)))
  obtain ⟨hCNR, hTHR, hSPR, hTXR, hENR, hMAR, hDER, hLOR, hPLR, hLDR, hRCR, hDAR, hMVR, hCNO, hCLM, hSUP, hKNK⟩ := h
  rw [fzq_ f1] at d2
  have ex : x1 = x2 := pl_match hI hPLR hMAR hDAR hCNO d1 d2
  subst ex
  exact ⟨_, e1, e2, i2, j2, hR2⟩
set_option maxRecDepth 100000 in
theorem re_breaks {N : Int} {T T1 T2 : Zt} {c9 cl9 : Int} {r1 r2 : Option Zv} (hT : ok_T T) (hI : IC_ N T) (hR : IR_ T) (h : RE_ T) (a : qx_breaks N T c9 cl9 T1 r1) (b : qm_breaks (N + 1) T1 c9 cl9 T2 r2) : LQo_ N T2 r1 r2 := by
  obtain ⟨x1, e1, -, -, f1, d1⟩ := a
  obtain ⟨x2, e2, i2, j2, f2, d2⟩ := b
  have hR2 := RE_q h (ks_t (ks_f f1 (by decide +kernel)) (ks_f f2 (by decide +kernel)))
  obtain ⟨hCNR, hTHR, hSPR, hTXR, hENR, hMAR, hDER, hLOR, hPLR, hLDR, hRCR, hDAR, hMVR, hCNO, hCLM, hSUP, hKNK⟩ := h
  rw [fzq_ f1] at d2
  have ex : x1 = x2 := brk_e hENR hMAR hI.1.2.2.2.2.2.2.1 hI.1.2.2.1 hTXR.2.2.1 hCNR.1 (bd_f hT 108 2 tl_8_2 0).2 (fun d => ⟨(bd_f hT 100 7 tl_0_7 d).1, (bd_f hT 100 8 tl_0_8 d).1⟩) d1 d2
  subst ex
  exact ⟨_, e1, e2, i2, j2, hR2⟩
set_option maxRecDepth 100000 in
theorem re_postpone {N : Int} {T T1 T2 : Zt} {m9 d9 : Int} {r1 r2 : Option Zv} (hT : ok_T T) (hI : IC_ N T) (hR : IR_ T) (h : RE_ T) (a : qx_postpone N T m9 d9 T1 r1) (b : qm_postpone (N + 1) T1 m9 d9 T2 r2) : LQo_ N T2 r1 r2 := by
  obtain ⟨x1, e1, -, -, f1, d1⟩ := a
  obtain ⟨x2, e2, i2, j2, f2, d2⟩ := b
  obtain ⟨hCNR, hTHR, hSPR, hTXR, hENR, hMAR, hDER, hLOR, hPLR, hLDR, hRCR, hDAR, hMVR, hCNO, hCLM, hSUP, hKNK⟩ := h
  obtain ⟨ex, da, mv⟩ := pl_post hT hI hPLR hTXR hMAR hTHR hCLM hDAR hMVR hCNR f1 d1 f2 d2
  subst ex
  exact ⟨_, e1, e2, i2, j2, CNR_q hCNR (ks_t (ks_f f1 (by decide +kernel)) (ks_f f2 (by decide +kernel))), THR_q hTHR (ks_t (ks_f f1 (by decide +kernel)) (ks_f f2 (by decide +kernel))), SPR_q hSPR (ks_t (ks_f f1 (by decide +kernel)) (ks_f f2 (by decide +kernel))), TXR_q hTXR (ks_t (ks_f f1 (by decide +kernel)) (ks_f f2 (by decide +kernel))), ENR_q hENR (ks_t (ks_f f1 (by decide +kernel)) (ks_f f2 (by decide +kernel))), MAR_q hMAR (ks_t (ks_f f1 (by decide +kernel)) (ks_f f2 (by decide +kernel))), DER_q hDER (ks_t (ks_f f1 (by decide +kernel)) (ks_f f2 (by decide +kernel))), LOR_q hLOR (ks_t (ks_f f1 (by decide +kernel)) (ks_f f2 (by decide +kernel))), PLR_q hPLR (ks_t (ks_f f1 (by decide +kernel)) (ks_f f2 (by decide +kernel))), LDR_q hLDR (ks_t (ks_f f1 (by decide +kernel)) (ks_f f2 (by decide +kernel))), RCR_q hRCR (ks_t (ks_f f1 (by decide +kernel)) (ks_f f2 (by decide +kernel))), da, mv, CNO_q hCNO (ks_t (ks_f f1 (by decide +kernel)) (ks_f f2 (by decide +kernel))), CLM_q hCLM (ks_t (ks_f f1 (by decide +kernel)) (ks_f f2 (by decide +kernel))), SUP_q hSUP (ks_t (ks_f f1 (by decide +kernel)) (ks_f f2 (by decide +kernel))), KNK_q hKNK (ks_t (ks_f f1 (by decide +kernel)) (ks_f f2 (by decide +kernel)))⟩
set_option maxRecDepth 100000 in
theorem re_moved {N : Int} {T T1 T2 : Zt} {k9 : Int} {r1 r2 : Option Zv} (hT : ok_T T) (hI : IC_ N T) (hR : IR_ T) (h : RE_ T) (a : qx_moved N T k9 T1 r1) (b : qm_moved (N + 1) T1 k9 T2 r2) : LQo_ N T2 r1 r2 := by
  obtain ⟨x1, e1, -, -, f1, d1⟩ := a
  obtain ⟨x2, e2, i2, j2, f2, d2⟩ := b
  have hR2 := RE_q h (ks_t (ks_f f1 (by decide +kernel)) (ks_f f2 (by decide +kernel)))
  obtain ⟨hCNR, hTHR, hSPR, hTXR, hENR, hMAR, hDER, hLOR, hPLR, hLDR, hRCR, hDAR, hMVR, hCNO, hCLM, hSUP, hKNK⟩ := h
  rw [fzq_ f1] at d2
  have ex : x1 = x2 := pl_moved hMVR d1 d2
  subst ex
  exact ⟨_, e1, e2, i2, j2, hR2⟩
set_option maxRecDepth 100000 in
theorem re_deduct {N : Int} {T T1 T2 : Zt} {c9 cl9 p9 : Int} {r1 r2 : Option Zv} (hT : ok_T T) (hI : IC_ N T) (hR : IR_ T) (h : RE_ T) (a : qx_deduct N T c9 cl9 p9 T1 r1) (b : qm_deduct (N + 1) T1 c9 cl9 p9 T2 r2) : LQo_ N T2 r1 r2 := by
  obtain ⟨x1, e1, -, -, f1, d1⟩ := a
  obtain ⟨x2, e2, i2, j2, f2, d2⟩ := b
  obtain ⟨hCNR, hTHR, hSPR, hTXR, hENR, hMAR, hDER, hLOR, hPLR, hLDR, hRCR, hDAR, hMVR, hCNO, hCLM, hSUP, hKNK⟩ := h
  obtain ⟨ex, de⟩ := der_d hDER hENR hI.1.2.2.2.2.2.2.1 hTXR.2.2.1 hCNR.1 hCNR.2.2.2 (bd_f hT 108 2 tl_8_2 0).2 (bd_f hT 106 6 tl_6_6 0) ⟨f1 111 0 6 rfl, f1 111 0 12 rfl, f1 111 0 3 rfl⟩ d1 (⟨fun j => f1 207 0 j rfl, fun j => ⟨f1 208 0 j rfl, f1 209 0 j rfl, f1 210 0 j rfl, f1 211 0 j rfl⟩⟩) (⟨f1 111 0 24 rfl, fun j => f1 225 0 j rfl, fun j => f1 226 0 j rfl, fun j => f1 227 0 j rfl, fun j => f1 228 0 j rfl⟩) d2 (⟨f2 106 0 6 rfl, fun j => f2 527 0 j rfl, fun j => f2 528 0 j rfl, fun j => f2 529 0 j rfl, fun j => f2 530 0 j rfl⟩)
  subst ex
  exact ⟨_, e1, e2, i2, j2, CNR_q hCNR (ks_t (ks_f f1 (by decide +kernel)) (ks_f f2 (by decide +kernel))), THR_q hTHR (ks_t (ks_f f1 (by decide +kernel)) (ks_f f2 (by decide +kernel))), SPR_q hSPR (ks_t (ks_f f1 (by decide +kernel)) (ks_f f2 (by decide +kernel))), TXR_q hTXR (ks_t (ks_f f1 (by decide +kernel)) (ks_f f2 (by decide +kernel))), ENR_q hENR (ks_t (ks_f f1 (by decide +kernel)) (ks_f f2 (by decide +kernel))), MAR_q hMAR (ks_t (ks_f f1 (by decide +kernel)) (ks_f f2 (by decide +kernel))), de, LOR_q hLOR (ks_t (ks_f f1 (by decide +kernel)) (ks_f f2 (by decide +kernel))), PLR_q hPLR (ks_t (ks_f f1 (by decide +kernel)) (ks_f f2 (by decide +kernel))), LDR_q hLDR (ks_t (ks_f f1 (by decide +kernel)) (ks_f f2 (by decide +kernel))), RCR_q hRCR (ks_t (ks_f f1 (by decide +kernel)) (ks_f f2 (by decide +kernel))), DAR_q hDAR (ks_t (ks_f f1 (by decide +kernel)) (ks_f f2 (by decide +kernel))), MVR_q hMVR (ks_t (ks_f f1 (by decide +kernel)) (ks_f f2 (by decide +kernel))), CNO_q hCNO (ks_t (ks_f f1 (by decide +kernel)) (ks_f f2 (by decide +kernel))), CLM_q hCLM (ks_t (ks_f f1 (by decide +kernel)) (ks_f f2 (by decide +kernel))), SUP_q hSUP (ks_t (ks_f f1 (by decide +kernel)) (ks_f f2 (by decide +kernel))), KNK_q hKNK (ks_t (ks_f f1 (by decide +kernel)) (ks_f f2 (by decide +kernel)))⟩
set_option maxRecDepth 100000 in
theorem re_eligible {N : Int} {T T1 T2 : Zt} {q9 m9 d9 : Int} {r1 r2 : Option Zv} (hT : ok_T T) (hI : IC_ N T) (hR : IR_ T) (h : RE_ T) (a : qx_eligible N T q9 m9 d9 T1 r1) (b : qm_eligible (N + 1) T1 q9 m9 d9 T2 r2) : LQo_ N T2 r1 r2 := by
  obtain ⟨x1, e1, -, -, f1, d1⟩ := a
  obtain ⟨x2, e2, i2, j2, f2, d2⟩ := b
  have hR2 := RE_q h (ks_t (ks_f f1 (by decide +kernel)) (ks_f f2 (by decide +kernel)))
  obtain ⟨hCNR, hTHR, hSPR, hTXR, hENR, hMAR, hDER, hLOR, hPLR, hLDR, hRCR, hDAR, hMVR, hCNO, hCLM, hSUP, hKNK⟩ := h
  have ex : x1 = x2 := pl_elig hT hI hPLR hTXR hMAR hENR hDAR hCNR f1 d1 d2
  subst ex
  exact ⟨_, e1, e2, i2, j2, hR2⟩
set_option maxRecDepth 100000 in
theorem re_lineUp {N : Int} {T T1 T2 : Zt} {q9 b9 s9 : Int} {r1 r2 : Option Zv} (hT : ok_T T) (hI : IC_ N T) (hR : IR_ T) (h : RE_ T) (a : qx_lineUp N T q9 b9 s9 T1 r1) (b : qm_lineUp (N + 1) T1 q9 b9 s9 T2 r2) : LQo_ N T2 r1 r2 := by
  obtain ⟨x1, e1, -, -, f1, d1⟩ := a
  obtain ⟨x2, e2, i2, j2, f2, d2⟩ := b
  obtain ⟨hCNR, hTHR, hSPR, hTXR, hENR, hMAR, hDER, hLOR, hPLR, hLDR, hRCR, hDAR, hMVR, hCNO, hCLM, hSUP, hKNK⟩ := h
  obtain ⟨ex, pl⟩ := pl_line hT hI hR hPLR hLDR hTXR hMAR hENR hDAR hCNR f1 d1 f2 d2
  subst ex
  exact ⟨_, e1, e2, i2, j2, CNR_q hCNR (ks_t (ks_f f1 (by decide +kernel)) (ks_f f2 (by decide +kernel))), THR_q hTHR (ks_t (ks_f f1 (by decide +kernel)) (ks_f f2 (by decide +kernel))), SPR_q hSPR (ks_t (ks_f f1 (by decide +kernel)) (ks_f f2 (by decide +kernel))), TXR_q hTXR (ks_t (ks_f f1 (by decide +kernel)) (ks_f f2 (by decide +kernel))), ENR_q hENR (ks_t (ks_f f1 (by decide +kernel)) (ks_f f2 (by decide +kernel))), MAR_q hMAR (ks_t (ks_f f1 (by decide +kernel)) (ks_f f2 (by decide +kernel))), DER_q hDER (ks_t (ks_f f1 (by decide +kernel)) (ks_f f2 (by decide +kernel))), LOR_q hLOR (ks_t (ks_f f1 (by decide +kernel)) (ks_f f2 (by decide +kernel))), pl, LDR_q hLDR (ks_t (ks_f f1 (by decide +kernel)) (ks_f f2 (by decide +kernel))), RCR_q hRCR (ks_t (ks_f f1 (by decide +kernel)) (ks_f f2 (by decide +kernel))), DAR_q hDAR (ks_t (ks_f f1 (by decide +kernel)) (ks_f f2 (by decide +kernel))), MVR_q hMVR (ks_t (ks_f f1 (by decide +kernel)) (ks_f f2 (by decide +kernel))), CNO_q hCNO (ks_t (ks_f f1 (by decide +kernel)) (ks_f f2 (by decide +kernel))), CLM_q hCLM (ks_t (ks_f f1 (by decide +kernel)) (ks_f f2 (by decide +kernel))), SUP_q hSUP (ks_t (ks_f f1 (by decide +kernel)) (ks_f f2 (by decide +kernel))), KNK_q hKNK (ks_t (ks_f f1 (by decide +kernel)) (ks_f f2 (by decide +kernel)))⟩
set_option maxRecDepth 100000 in
theorem re_start {N : Int} {T T1 T2 : Zt} {m9 : Int} {r1 r2 : Option Zv} (hT : ok_T T) (hI : IC_ N T) (hR : IR_ T) (h : RE_ T) (a : qx_start N T m9 T1 r1) (b : qm_start (N + 1) T1 m9 T2 r2) : LQo_ N T2 r1 r2 := by
  obtain ⟨x1, e1, -, -, f1, d1⟩ := a
  obtain ⟨x2, e2, i2, j2, f2, d2⟩ := b
  obtain ⟨hCNR, hTHR, hSPR, hTXR, hENR, hMAR, hDER, hLOR, hPLR, hLDR, hRCR, hDAR, hMVR, hCNO, hCLM, hSUP, hKNK⟩ := h
  obtain ⟨ex, pl, ld⟩ := pl_start hI hR hPLR hLDR hTXR hMAR hDAR hCNR f1 d1 f2 d2
  subst ex
  exact ⟨_, e1, e2, i2, j2, CNR_q hCNR (ks_t (ks_f f1 (by decide +kernel)) (ks_f f2 (by decide +kernel))), THR_q hTHR (ks_t (ks_f f1 (by decide +kernel)) (ks_f f2 (by decide +kernel))), SPR_q hSPR (ks_t (ks_f f1 (by decide +kernel)) (ks_f f2 (by decide +kernel))), TXR_q hTXR (ks_t (ks_f f1 (by decide +kernel)) (ks_f f2 (by decide +kernel))), ENR_q hENR (ks_t (ks_f f1 (by decide +kernel)) (ks_f f2 (by decide +kernel))), MAR_q hMAR (ks_t (ks_f f1 (by decide +kernel)) (ks_f f2 (by decide +kernel))), DER_q hDER (ks_t (ks_f f1 (by decide +kernel)) (ks_f f2 (by decide +kernel))), LOR_q hLOR (ks_t (ks_f f1 (by decide +kernel)) (ks_f f2 (by decide +kernel))), pl, ld, RCR_q hRCR (ks_t (ks_f f1 (by decide +kernel)) (ks_f f2 (by decide +kernel))), DAR_q hDAR (ks_t (ks_f f1 (by decide +kernel)) (ks_f f2 (by decide +kernel))), MVR_q hMVR (ks_t (ks_f f1 (by decide +kernel)) (ks_f f2 (by decide +kernel))), CNO_q hCNO (ks_t (ks_f f1 (by decide +kernel)) (ks_f f2 (by decide +kernel))), CLM_q hCLM (ks_t (ks_f f1 (by decide +kernel)) (ks_f f2 (by decide +kernel))), SUP_q hSUP (ks_t (ks_f f1 (by decide +kernel)) (ks_f f2 (by decide +kernel))), KNK_q hKNK (ks_t (ks_f f1 (by decide +kernel)) (ks_f f2 (by decide +kernel)))⟩
set_option maxRecDepth 100000 in
theorem re_walkOver {N : Int} {T T1 T2 : Zt} {m9 d9 : Int} {r1 r2 : Option Zv} (hT : ok_T T) (hI : IC_ N T) (hR : IR_ T) (h : RE_ T) (a : qx_walkOver N T m9 d9 T1 r1) (b : qm_walkOver (N + 1) T1 m9 d9 T2 r2) : LQo_ N T2 r1 r2 := by
  obtain ⟨x1, e1, -, -, f1, d1⟩ := a
  obtain ⟨x2, e2, i2, j2, f2, d2⟩ := b
  obtain ⟨hCNR, hTHR, hSPR, hTXR, hENR, hMAR, hDER, hLOR, hPLR, hLDR, hRCR, hDAR, hMVR, hCNO, hCLM, hSUP, hKNK⟩ := h
  obtain ⟨ex, pl, -⟩ := pl_walk hI hPLR hLDR hTXR hMAR hDAR hCNR f1 d1 f2 d2
  subst ex
  exact ⟨_, e1, e2, i2, j2, CNR_q hCNR (ks_t (ks_f f1 (by decide +kernel)) (ks_f f2 (by decide +kernel))), THR_q hTHR (ks_t (ks_f f1 (by decide +kernel)) (ks_f f2 (by decide +kernel))), SPR_q hSPR (ks_t (ks_f f1 (by decide +kernel)) (ks_f f2 (by decide +kernel))), TXR_q hTXR (ks_t (ks_f f1 (by decide +kernel)) (ks_f f2 (by decide +kernel))), ENR_q hENR (ks_t (ks_f f1 (by decide +kernel)) (ks_f f2 (by decide +kernel))), MAR_q hMAR (ks_t (ks_f f1 (by decide +kernel)) (ks_f f2 (by decide +kernel))), DER_q hDER (ks_t (ks_f f1 (by decide +kernel)) (ks_f f2 (by decide +kernel))), LOR_q hLOR (ks_t (ks_f f1 (by decide +kernel)) (ks_f f2 (by decide +kernel))), pl, LDR_q hLDR (ks_t (ks_f f1 (by decide +kernel)) (ks_f f2 (by decide +kernel))), RCR_q hRCR (ks_t (ks_f f1 (by decide +kernel)) (ks_f f2 (by decide +kernel))), DAR_q hDAR (ks_t (ks_f f1 (by decide +kernel)) (ks_f f2 (by decide +kernel))), MVR_q hMVR (ks_t (ks_f f1 (by decide +kernel)) (ks_f f2 (by decide +kernel))), CNO_q hCNO (ks_t (ks_f f1 (by decide +kernel)) (ks_f f2 (by decide +kernel))), CLM_q hCLM (ks_t (ks_f f1 (by decide +kernel)) (ks_f f2 (by decide +kernel))), SUP_q hSUP (ks_t (ks_f f1 (by decide +kernel)) (ks_f f2 (by decide +kernel))), KNK_q hKNK (ks_t (ks_f f1 (by decide +kernel)) (ks_f f2 (by decide +kernel)))⟩
set_option maxRecDepth 100000 in
theorem re_event {N : Int} {T T1 T2 : Zt} {m9 k9 s9 a9 b9 : Int} {r1 r2 : Option Zv} (hT : ok_T T) (hI : IC_ N T) (hR : IR_ T) (h : RE_ T) (a : qx_event N T m9 k9 s9 a9 b9 T1 r1) (b : qm_event (N + 1) T1 m9 k9 s9 a9 b9 T2 r2) : LQo_ N T2 r1 r2 := by
  obtain ⟨x1, e1, -, -, f1, d1⟩ := a
  obtain ⟨x2, e2, i2, j2, f2, d2⟩ := b
  obtain ⟨hCNR, hTHR, hSPR, hTXR, hENR, hMAR, hDER, hLOR, hPLR, hLDR, hRCR, hDAR, hMVR, hCNO, hCLM, hSUP, hKNK⟩ := h
  obtain ⟨ex, pl, ld, rc⟩ := pl_event hI hR (bd_f hT 106 5 tl_6_5 0).2 hPLR hLDR hRCR hTXR hMAR i2 j2 f1 d1 f2 d2
  subst ex
  exact ⟨_, e1, e2, i2, j2, CNR_q hCNR (ks_t (ks_f f1 (by decide +kernel)) (ks_f f2 (by decide +kernel))), THR_q hTHR (ks_t (ks_f f1 (by decide +kernel)) (ks_f f2 (by decide +kernel))), SPR_q hSPR (ks_t (ks_f f1 (by decide +kernel)) (ks_f f2 (by decide +kernel))), TXR_q hTXR (ks_t (ks_f f1 (by decide +kernel)) (ks_f f2 (by decide +kernel))), ENR_q hENR (ks_t (ks_f f1 (by decide +kernel)) (ks_f f2 (by decide +kernel))), MAR_q hMAR (ks_t (ks_f f1 (by decide +kernel)) (ks_f f2 (by decide +kernel))), DER_q hDER (ks_t (ks_f f1 (by decide +kernel)) (ks_f f2 (by decide +kernel))), LOR_q hLOR (ks_t (ks_f f1 (by decide +kernel)) (ks_f f2 (by decide +kernel))), pl, ld, rc, DAR_q hDAR (ks_t (ks_f f1 (by decide +kernel)) (ks_f f2 (by decide +kernel))), MVR_q hMVR (ks_t (ks_f f1 (by decide +kernel)) (ks_f f2 (by decide +kernel))), CNO_q hCNO (ks_t (ks_f f1 (by decide +kernel)) (ks_f f2 (by decide +kernel))), CLM_q hCLM (ks_t (ks_f f1 (by decide +kernel)) (ks_f f2 (by decide +kernel))), SUP_q hSUP (ks_t (ks_f f1 (by decide +kernel)) (ks_f f2 (by decide +kernel))), KNK_q hKNK (ks_t (ks_f f1 (by decide +kernel)) (ks_f f2 (by decide +kernel)))⟩
set_option maxRecDepth 100000 in
theorem re_review {N : Int} {T T1 T2 : Zt} {m9 i9 k9 s9 a9 b9 : Int} {r1 r2 : Option Zv} (hT : ok_T T) (hI : IC_ N T) (hR : IR_ T) (h : RE_ T) (a : qx_review N T m9 i9 k9 s9 a9 b9 T1 r1) (b : qm_review (N + 1) T1 m9 i9 k9 s9 a9 b9 T2 r2) : LQo_ N T2 r1 r2 := by
  obtain ⟨x1, e1, -, -, f1, d1⟩ := a
  obtain ⟨x2, e2, i2, j2, f2, d2⟩ := b
  obtain ⟨hCNR, hTHR, hSPR, hTXR, hENR, hMAR, hDER, hLOR, hPLR, hLDR, hRCR, hDAR, hMVR, hCNO, hCLM, hSUP, hKNK⟩ := h
  obtain ⟨ex, pl, ld, -⟩ := pl_review hI hR hPLR hLDR hRCR hTXR hMAR i2 j2 f1 d1 f2 d2
  subst ex
  exact ⟨_, e1, e2, i2, j2, CNR_q hCNR (ks_t (ks_f f1 (by decide +kernel)) (ks_f f2 (by decide +kernel))), THR_q hTHR (ks_t (ks_f f1 (by decide +kernel)) (ks_f f2 (by decide +kernel))), SPR_q hSPR (ks_t (ks_f f1 (by decide +kernel)) (ks_f f2 (by decide +kernel))), TXR_q hTXR (ks_t (ks_f f1 (by decide +kernel)) (ks_f f2 (by decide +kernel))), ENR_q hENR (ks_t (ks_f f1 (by decide +kernel)) (ks_f f2 (by decide +kernel))), MAR_q hMAR (ks_t (ks_f f1 (by decide +kernel)) (ks_f f2 (by decide +kernel))), DER_q hDER (ks_t (ks_f f1 (by decide +kernel)) (ks_f f2 (by decide +kernel))), LOR_q hLOR (ks_t (ks_f f1 (by decide +kernel)) (ks_f f2 (by decide +kernel))), pl, ld, RCR_q hRCR (ks_t (ks_f f1 (by decide +kernel)) (ks_f f2 (by decide +kernel))), DAR_q hDAR (ks_t (ks_f f1 (by decide +kernel)) (ks_f f2 (by decide +kernel))), MVR_q hMVR (ks_t (ks_f f1 (by decide +kernel)) (ks_f f2 (by decide +kernel))), CNO_q hCNO (ks_t (ks_f f1 (by decide +kernel)) (ks_f f2 (by decide +kernel))), CLM_q hCLM (ks_t (ks_f f1 (by decide +kernel)) (ks_f f2 (by decide +kernel))), SUP_q hSUP (ks_t (ks_f f1 (by decide +kernel)) (ks_f f2 (by decide +kernel))), KNK_q hKNK (ks_t (ks_f f1 (by decide +kernel)) (ks_f f2 (by decide +kernel)))⟩
set_option maxRecDepth 100000 in
theorem re_rows {N : Int} {T T1 T2 : Zt} {m9 w9 : Int} {r1 r2 : Option Zv} (hT : ok_T T) (hI : IC_ N T) (hR : IR_ T) (h : RE_ T) (a : qx_rows N T m9 w9 T1 r1) (b : qm_rows (N + 1) T1 m9 w9 T2 r2) : LQo_ N T2 r1 r2 := by
  obtain ⟨x1, e1, -, -, f1, d1⟩ := a
  obtain ⟨x2, e2, i2, j2, f2, d2⟩ := b
  have hR2 := RE_q h (ks_t (ks_f f1 (by decide +kernel)) (ks_f f2 (by decide +kernel)))
  obtain ⟨hCNR, hTHR, hSPR, hTXR, hENR, hMAR, hDER, hLOR, hPLR, hLDR, hRCR, hDAR, hMVR, hCNO, hCLM, hSUP, hKNK⟩ := h
  rw [fzq_ f1] at d2
  have ex : x1 = x2 := pl_rows hI hR hPLR hMAR d1 d2
  subst ex
  exact ⟨_, e1, e2, i2, j2, hR2⟩
set_option maxRecDepth 100000 in
theorem re_row {N : Int} {T T1 T2 : Zt} {m9 i9 w9 : Int} {r1 r2 : Option Zv} (hT : ok_T T) (hI : IC_ N T) (hR : IR_ T) (h : RE_ T) (a : qx_row N T m9 i9 w9 T1 r1) (b : qm_row (N + 1) T1 m9 i9 w9 T2 r2) : LBo_ N T2 r1 r2 := by
  obtain ⟨x1, e1, -, -, f1, d1⟩ := a
  obtain ⟨x2, e2, i2, j2, f2, d2⟩ := b
  have hR2 := RE_q h (ks_t (ks_f f1 (by decide +kernel)) (ks_f f2 (by decide +kernel)))
  exact ⟨x1, x2, e1, e2, i2, j2, hR2⟩
set_option maxRecDepth 100000 in
theorem re_state {N : Int} {T T1 T2 : Zt} {m9 w9 : Int} {r1 r2 : Option Zv} (hT : ok_T T) (hI : IC_ N T) (hR : IR_ T) (h : RE_ T) (a : qx_state N T m9 w9 T1 r1) (b : qm_state (N + 1) T1 m9 w9 T2 r2) : LQo_ N T2 r1 r2 := by
  obtain ⟨x1, e1, -, -, f1, d1⟩ := a
  obtain ⟨x2, e2, i2, j2, f2, d2⟩ := b
  have hR2 := RE_q h (ks_t (ks_f f1 (by decide +kernel)) (ks_f f2 (by decide +kernel)))
  obtain ⟨hCNR, hTHR, hSPR, hTXR, hENR, hMAR, hDER, hLOR, hPLR, hLDR, hRCR, hDAR, hMVR, hCNO, hCLM, hSUP, hKNK⟩ := h
  rw [fzq_ f1] at d2
  have ex : x1 = x2 := pl_state hPLR hMAR d1 d2
  subst ex
  exact ⟨_, e1, e2, i2, j2, hR2⟩
set_option maxRecDepth 100000 in
theorem re_onField {N : Int} {T T1 T2 : Zt} {m9 d9 k9 : Int} {r1 r2 : Option Zv} (hT : ok_T T) (hI : IC_ N T) (hR : IR_ T) (h : RE_ T) (a : qx_onField N T m9 d9 k9 T1 r1) (b : qm_onField (N + 1) T1 m9 d9 k9 T2 r2) : LQo_ N T2 r1 r2 := by
  obtain ⟨x1, e1, -, -, f1, d1⟩ := a
  obtain ⟨x2, e2, i2, j2, f2, d2⟩ := b
  have hR2 := RE_q h (ks_t (ks_f f1 (by decide +kernel)) (ks_f f2 (by decide +kernel)))
  obtain ⟨hCNR, hTHR, hSPR, hTXR, hENR, hMAR, hDER, hLOR, hPLR, hLDR, hRCR, hDAR, hMVR, hCNO, hCLM, hSUP, hKNK⟩ := h
  rw [fzq_ f1] at d2
  have ex : x1 = x2 := pl_field hPLR hMAR d1 d2
  subst ex
  exact ⟨_, e1, e2, i2, j2, hR2⟩
set_option maxRecDepth 100000 in
theorem re_table {N : Int} {T T1 T2 : Zt} {c9 d9 b9 w9 : Int} {r1 r2 : Option Zv} (hT : ok_T T) (hI : IC_ N T) (hR : IR_ T) (h : RE_ T) (a : qx_table N T c9 d9 b9 w9 T1 r1) (b : qm_table (N + 1) T1 c9 d9 b9 w9 T2 r2) : LQo_ N T2 r1 r2 := by
  obtain ⟨x1, e1, -, -, f1, d1⟩ := a
  obtain ⟨x2, e2, i2, j2, f2, d2⟩ := b
  have hR2 := RE_q h (ks_t (ks_f f1 (by decide +kernel)) (ks_f f2 (by decide +kernel)))
  obtain ⟨hCNR, hTHR, hSPR, hTXR, hENR, hMAR, hDER, hLOR, hPLR, hLDR, hRCR, hDAR, hMVR, hCNO, hCLM, hSUP, hKNK⟩ := h
  have hr4 : ∀ m, 0 ≤ m → m < 400 → T 254 0 m ≤ 3000 := fun m a _ => (bd_a hT 254 (by decide +kernel : ta_ 254 = some (1, some 400, 0, 3000)) 0 a).2
  have ex : x1 = x2 := tab_x hT d2.1 (fun a b => tq_i hT hTXR hR.2.1 hENR hMAR hDER hDAR hPLR hSUP hKNK hR.2.2.2.2.2.2.2.2.2.2.2 hR.2.2.2.2.2.2.2.2.1 (yb_g hR.2.2.2.2.2.2.2.2.2.2.2 hr4) hI.1.2.2.2.2.1 hI.1.2.2.2.2.2.2.1 hI.1.2.2.1 ⟨a, b⟩) hTXR.2.2.1 hCNR.1 f1 d1 f2 d2.2
  subst ex
  exact ⟨_, e1, e2, i2, j2, hR2⟩
set_option maxRecDepth 100000 in
theorem re_standing {N : Int} {T T1 T2 : Zt} {c9 d9 k9 : Int} {r1 r2 : Option Zv} (hT : ok_T T) (hI : IC_ N T) (hR : IR_ T) (h : RE_ T) (a : qx_standing N T c9 d9 k9 T1 r1) (b : qm_standing (N + 1) T1 c9 d9 k9 T2 r2) : LQo_ N T2 r1 r2 := by
  obtain ⟨x1, e1, -, -, f1, d1⟩ := a
  obtain ⟨x2, e2, i2, j2, f2, d2⟩ := b
  have hR2 := RE_q h (ks_t (ks_f f1 (by decide +kernel)) (ks_f f2 (by decide +kernel)))
  obtain ⟨hCNR, hTHR, hSPR, hTXR, hENR, hMAR, hDER, hLOR, hPLR, hLDR, hRCR, hDAR, hMVR, hCNO, hCLM, hSUP, hKNK⟩ := h
  have hr4 : ∀ m, 0 ≤ m → m < 400 → T 254 0 m ≤ 3000 := fun m a _ => (bd_a hT 254 (by decide +kernel : ta_ 254 = some (1, some 400, 0, 3000)) 0 a).2
  have ex : x1 = x2 := sta_x (fun a b => tq_i hT hTXR hR.2.1 hENR hMAR hDER hDAR hPLR hSUP hKNK hR.2.2.2.2.2.2.2.2.2.2.2 hR.2.2.2.2.2.2.2.2.1 (yb_g hR.2.2.2.2.2.2.2.2.2.2.2 hr4) hI.1.2.2.2.2.1 hI.1.2.2.2.2.2.2.1 hI.1.2.2.1 ⟨a, b⟩) hTXR.2.2.1 f1 d1 f2 d2
  subst ex
  exact ⟨_, e1, e2, i2, j2, hR2⟩
set_option maxRecDepth 100000 in
theorem re_parted {N : Int} {T T1 T2 : Zt} {c9 d9 k9 : Int} {r1 r2 : Option Zv} (hT : ok_T T) (hI : IC_ N T) (hR : IR_ T) (h : RE_ T) (a : qx_parted N T c9 d9 k9 T1 r1) (b : qm_parted (N + 1) T1 c9 d9 k9 T2 r2) : LQo_ N T2 r1 r2 := by
  obtain ⟨x1, e1, -, -, f1, d1⟩ := a
  obtain ⟨x2, e2, i2, j2, f2, d2⟩ := b
  have hR2 := RE_q h (ks_t (ks_f f1 (by decide +kernel)) (ks_f f2 (by decide +kernel)))
  obtain ⟨hCNR, hTHR, hSPR, hTXR, hENR, hMAR, hDER, hLOR, hPLR, hLDR, hRCR, hDAR, hMVR, hCNO, hCLM, hSUP, hKNK⟩ := h
  have hr4 : ∀ m, 0 ≤ m → m < 400 → T 254 0 m ≤ 3000 := fun m a _ => (bd_a hT 254 (by decide +kernel : ta_ 254 = some (1, some 400, 0, 3000)) 0 a).2
  have ex : x1 = x2 := par_x (fun a b => tq_i hT hTXR hR.2.1 hENR hMAR hDER hDAR hPLR hSUP hKNK hR.2.2.2.2.2.2.2.2.2.2.2 hR.2.2.2.2.2.2.2.2.1 (yb_g hR.2.2.2.2.2.2.2.2.2.2.2 hr4) hI.1.2.2.2.2.1 hI.1.2.2.2.2.2.2.1 hI.1.2.2.1 ⟨a, b⟩) hTXR.2.2.1 f1 d1 f2 d2
  subst ex
  exact ⟨_, e1, e2, i2, j2, hR2⟩
set_option maxRecDepth 100000 in
theorem re_can {N : Int} {T T1 T2 : Zt} {c9 b9 : Int} {r1 r2 : Option Zv} (hT : ok_T T) (hI : IC_ N T) (hR : IR_ T) (h : RE_ T) (a : qx_can N T c9 b9 T1 r1) (b : qm_can (N + 1) T1 c9 b9 T2 r2) : LBo_ N T2 r1 r2 := by
  obtain ⟨x1, e1, -, -, f1, d1⟩ := a
  obtain ⟨x2, e2, i2, j2, f2, d2⟩ := b
  obtain ⟨hCNR, hTHR, hSPR, hTXR, hENR, hMAR, hDER, hLOR, hPLR, hLDR, hRCR, hDAR, hMVR, hCNO, hCLM, hSUP, hKNK⟩ := h
  have pl1 := pl_can hI hPLR hLDR f1 d1.2.1 d1.2.2.1
  exact ⟨x1, x2, e1, e2, i2, j2, CNR_q hCNR (ks_t (ks_f f1 (by decide +kernel)) (ks_f f2 (by decide +kernel))), THR_q hTHR (ks_t (ks_f f1 (by decide +kernel)) (ks_f f2 (by decide +kernel))), SPR_q hSPR (ks_t (ks_f f1 (by decide +kernel)) (ks_f f2 (by decide +kernel))), TXR_q hTXR (ks_t (ks_f f1 (by decide +kernel)) (ks_f f2 (by decide +kernel))), ENR_q hENR (ks_t (ks_f f1 (by decide +kernel)) (ks_f f2 (by decide +kernel))), MAR_q hMAR (ks_t (ks_f f1 (by decide +kernel)) (ks_f f2 (by decide +kernel))), DER_q hDER (ks_t (ks_f f1 (by decide +kernel)) (ks_f f2 (by decide +kernel))), LOR_q hLOR (ks_t (ks_f f1 (by decide +kernel)) (ks_f f2 (by decide +kernel))), PLR_q pl1.1 (ks_f f2 (by decide +kernel)), LDR_q pl1.2 (ks_f f2 (by decide +kernel)), RCR_q hRCR (ks_t (ks_f f1 (by decide +kernel)) (ks_f f2 (by decide +kernel))), DAR_q hDAR (ks_t (ks_f f1 (by decide +kernel)) (ks_f f2 (by decide +kernel))), MVR_q hMVR (ks_t (ks_f f1 (by decide +kernel)) (ks_f f2 (by decide +kernel))), CNO_q hCNO (ks_t (ks_f f1 (by decide +kernel)) (ks_f f2 (by decide +kernel))), CLM_q hCLM (ks_t (ks_f f1 (by decide +kernel)) (ks_f f2 (by decide +kernel))), d2 ((f1 111 0 80 rfl).trans hSUP), KNK_q hKNK (ks_t (ks_f f1 (by decide +kernel)) (ks_f f2 (by decide +kernel)))⟩
set_option maxRecDepth 100000 in
theorem re_witness {N : Int} {T T1 T2 : Zt} {m9 : Int} {r1 r2 : Option Zv} (hT : ok_T T) (hI : IC_ N T) (hR : IR_ T) (h : RE_ T) (a : qx_witness N T m9 T1 r1) (b : qm_witness (N + 1) T1 m9 T2 r2) : LBo_ N T2 r1 r2 := by
  obtain ⟨x1, e1, -, -, f1, d1⟩ := a
  obtain ⟨x2, e2, i2, j2, f2, d2⟩ := b
  have hR2 := RE_q h (ks_t (ks_f f1 (by decide +kernel)) (ks_f f2 (by decide +kernel)))
  exact ⟨x1, x2, e1, e2, i2, j2, hR2⟩
set_option maxRecDepth 100000 in
theorem re_cut {N : Int} {T T1 T2 : Zt} {r1 r2 : Option Zv} (hT : ok_T T) (hI : IC_ N T) (hR : IR_ T) (h : RE_ T) (a : qx_cut N T T1 r1) (b : qm_cut (N + 1) T1 T2 r2) : LBo_ N T2 r1 r2 := by
  obtain ⟨x1, e1, -, -, f1, d1⟩ := a
  obtain ⟨x2, e2, i2, j2, f2, d2⟩ := b
  have hR2 := RE_q h (ks_t (ks_f f1 (by decide +kernel)) (ks_f f2 (by decide +kernel)))
  exact ⟨x1, x2, e1, e2, i2, j2, hR2⟩
set_option maxRecDepth 100000 in
theorem re_firsts {N : Int} {T T1 T2 : Zt} {c9 b9 : Int} {r1 r2 : Option Zv} (hT : ok_T T) (hI : IC_ N T) (hR : IR_ T) (h : RE_ T) (a : qx_firsts N T c9 b9 T1 r1) (b : qm_firsts (N + 1) T1 c9 b9 T2 r2) : LBo_ N T2 r1 r2 := by
  obtain ⟨x1, e1, -, -, f1, d1⟩ := a
  obtain ⟨x2, e2, i2, j2, f2, d2⟩ := b
  obtain ⟨hCNR, hTHR, hSPR, hTXR, hENR, hMAR, hDER, hLOR, hPLR, hLDR, hRCR, hDAR, hMVR, hCNO, hCLM, hSUP, hKNK⟩ := h
  have su : SUP_ T2 := d2 ((f1 111 0 80 rfl).trans hSUP)
  exact ⟨x1, x2, e1, e2, i2, j2, CNR_q hCNR (ks_t (ks_f f1 (by decide +kernel)) (ks_f f2 (by decide +kernel))), THR_q hTHR (ks_t (ks_f f1 (by decide +kernel)) (ks_f f2 (by decide +kernel))), SPR_q hSPR (ks_t (ks_f f1 (by decide +kernel)) (ks_f f2 (by decide +kernel))), TXR_q hTXR (ks_t (ks_f f1 (by decide +kernel)) (ks_f f2 (by decide +kernel))), ENR_q hENR (ks_t (ks_f f1 (by decide +kernel)) (ks_f f2 (by decide +kernel))), MAR_q hMAR (ks_t (ks_f f1 (by decide +kernel)) (ks_f f2 (by decide +kernel))), DER_q hDER (ks_t (ks_f f1 (by decide +kernel)) (ks_f f2 (by decide +kernel))), LOR_q hLOR (ks_t (ks_f f1 (by decide +kernel)) (ks_f f2 (by decide +kernel))), PLR_q hPLR (ks_t (ks_f f1 (by decide +kernel)) (ks_f f2 (by decide +kernel))), LDR_q hLDR (ks_t (ks_f f1 (by decide +kernel)) (ks_f f2 (by decide +kernel))), RCR_q hRCR (ks_t (ks_f f1 (by decide +kernel)) (ks_f f2 (by decide +kernel))), DAR_q hDAR (ks_t (ks_f f1 (by decide +kernel)) (ks_f f2 (by decide +kernel))), MVR_q hMVR (ks_t (ks_f f1 (by decide +kernel)) (ks_f f2 (by decide +kernel))), CNO_q hCNO (ks_t (ks_f f1 (by decide +kernel)) (ks_f f2 (by decide +kernel))), CLM_q hCLM (ks_t (ks_f f1 (by decide +kernel)) (ks_f f2 (by decide +kernel))), su, KNK_q hKNK (ks_t (ks_f f1 (by decide +kernel)) (ks_f f2 (by decide +kernel)))⟩
