set_option maxRecDepth 100000 in
set_option maxHeartbeats 4000000 in
theorem x10_go {dC : Nat → ClassId} {dI : Nat → Nat → Nat} {h0 : Nat} {A : Nat → Prop} {t : State} {cB : ClassId} (hcB : ArrOfT t cB .boolean ∧ va_RA t cB .boolean) (hB : ∃ (q1 : Nat) (q8 : Nat) (q27 : Nat) (q48 : Nat) (q71 : Nat) (q89 : Nat) (q104 : Nat) (q2 : Nat) (q3 : Nat) (q4 : Nat) (k5 : ClassId) (k6 : ClassId) (k7 : ClassId) (q9 : Nat) (q10 : Nat) (q11 : Nat) (q12 : Nat) (q13 : Nat) (q14 : Nat) (q15 : Nat) (q16 : Nat) (q17 : Nat) (k18 : ClassId) (k19 : ClassId) (k20 : ClassId) (k21 : ClassId) (k22 : ClassId) (k23 : ClassId) (k24 : ClassId) (k25 : ClassId) (k26 : ClassId) (q28 : Nat) (q29 : Nat) (q30 : Nat) (q31 : Nat) (q32 : Nat) (q33 : Nat) (q34 : Nat) (q35 : Nat) (q36 : Nat) (q37 : Nat) (k38 : ClassId) (k39 : ClassId) (k40 : ClassId) (k41 : ClassId) (k42 : ClassId) (k43 : ClassId) (k44 : ClassId) (k45 : ClassId) (k46 : ClassId) (k47 : ClassId) (q49 : Nat) (q50 : Nat) (q51 : Nat) (q52 : Nat) (q53 : Nat) (q54 : Nat) (q55 : Nat) (q56 : Nat) (q57 : Nat) (q58 : Nat) (q59 : Nat) (k60 : ClassId) (k61 : ClassId) (k62 : ClassId) (k63 : ClassId) (k64 : ClassId) (k65 : ClassId) (k66 : ClassId) (k67 : ClassId) (k68 : ClassId) (k69 : ClassId) (k70 : ClassId) (q72 : Nat) (q73 : Nat) (q74 : Nat) (q75 : Nat) (q76 : Nat) (q77 : Nat) (q78 : Nat) (q79 : Nat) (k80 : ClassId) (k81 : ClassId) (k82 : ClassId) (k83 : ClassId) (k84 : ClassId) (k85 : ClassId) (k86 : ClassId) (k87 : ClassId) (g88 : Nat → Int32) (q90 : Nat) (q91 : Nat) (q92 : Nat) (q93 : Nat) (q94 : Nat) (q95 : Nat) (q96 : Nat) (k97 : ClassId) (k98 : ClassId) (k99 : ClassId) (k100 : ClassId) (k101 : ClassId) (k102 : ClassId) (k103 : ClassId) (q105 : Nat) (q106 : Nat) (k107 : ClassId) (k108 : ClassId), x10p_ dC dI h0 A t q1 q8 q27 q48 q71 q89 q104 q2 q3 q4 k5 k6 k7 q9 q10 q11 q12 q13 q14 q15 q16 q17 k18 k19 k20 k21 k22 k23 k24 k25 k26 q28 q29 q30 q31 q32 q33 q34 q35 q36 q37 k38 k39 k40 k41 k42 k43 k44 k45 k46 k47 q49 q50 q51 q52 q53 q54 q55 q56 q57 q58 q59 k60 k61 k62 k63 k64 k65 k66 k67 k68 k69 k70 q72 q73 q74 q75 q76 q77 q78 q79 k80 k81 k82 k83 k84 k85 k86 k87 g88 q90 q91 q92 q93 q94 q95 q96 k97 k98 k99 k100 k101 k102 k103 q105 q106 k107 k108) : ∃ (w : va_W) (cA : Nat → ClassId) (g : Nat → Int32), va_P (dC, dI) vwCl w t.heap ∧ va_K (dC, dI) vwCl (ty_ cA) t ∧ va_D A w ∧ ∀ m0 : Nat, ∃ xa : Nat → Nat, w = stX cA xa g ∧ xa 111 = m0 ∧ xa 110 = h0 := by
  refine hB.elim (fun q1 gg0 => ?_)
  clear hB
  refine gg0.elim (fun q8 gg1 => ?_)
  clear gg0
  refine gg1.elim (fun q27 gg2 => ?_)
  clear gg1
  refine gg2.elim (fun q48 gg3 => ?_)
  clear gg2
  refine gg3.elim (fun q71 gg4 => ?_)
  clear gg3
  refine gg4.elim (fun q89 gg5 => ?_)
  clear gg4
  refine gg5.elim (fun q104 gg6 => ?_)
  clear gg5
  refine gg6.elim (fun q2 gg7 => ?_)
  clear gg6
  refine gg7.elim (fun q3 gg8 => ?_)
  clear gg7
  refine gg8.elim (fun q4 gg9 => ?_)
  clear gg8
  refine gg9.elim (fun k5 gg10 => ?_)
  clear gg9
  refine gg10.elim (fun k6 gg11 => ?_)
  clear gg10
  refine gg11.elim (fun k7 gg12 => ?_)
  clear gg11
  refine gg12.elim (fun q9 gg13 => ?_)
  clear gg12
  refine gg13.elim (fun q10 gg14 => ?_)
  clear gg13
  refine gg14.elim (fun q11 gg15 => ?_)
  clear gg14
  refine gg15.elim (fun q12 gg16 => ?_)
  clear gg15
  refine gg16.elim (fun q13 gg17 => ?_)
  clear gg16
  refine gg17.elim (fun q14 gg18 => ?_)
  clear gg17
  refine gg18.elim (fun q15 gg19 => ?_)
  clear gg18
  refine gg19.elim (fun q16 gg20 => ?_)
  clear gg19
  refine gg20.elim (fun q17 gg21 => ?_)
  clear gg20
  refine gg21.elim (fun k18 gg22 => ?_)
  clear gg21
  refine gg22.elim (fun k19 gg23 => ?_)
  clear gg22
  refine gg23.elim (fun k20 gg24 => ?_)
  clear gg23
  refine gg24.elim (fun k21 gg25 => ?_)
  clear gg24
  refine gg25.elim (fun k22 gg26 => ?_)
  clear gg25
  refine gg26.elim (fun k23 gg27 => ?_)
  clear gg26
  refine gg27.elim (fun k24 gg28 => ?_)
  clear gg27
  refine gg28.elim (fun k25 gg29 => ?_)
  clear gg28
  refine gg29.elim (fun k26 gg30 => ?_)
  clear gg29
  refine gg30.elim (fun q28 gg31 => ?_)
  clear gg30
  refine gg31.elim (fun q29 gg32 => ?_)
  clear gg31
  refine gg32.elim (fun q30 gg33 => ?_)
  clear gg32
  refine gg33.elim (fun q31 gg34 => ?_)
  clear gg33
  refine gg34.elim (fun q32 gg35 => ?_)
  clear gg34
  refine gg35.elim (fun q33 gg36 => ?_)
  clear gg35
  refine gg36.elim (fun q34 gg37 => ?_)
  clear gg36
  refine gg37.elim (fun q35 gg38 => ?_)
  clear gg37
  refine gg38.elim (fun q36 gg39 => ?_)
  clear gg38
  refine gg39.elim (fun q37 gg40 => ?_)
  clear gg39
  refine gg40.elim (fun k38 gg41 => ?_)
  clear gg40
  refine gg41.elim (fun k39 gg42 => ?_)
  clear gg41
  refine gg42.elim (fun k40 gg43 => ?_)
  clear gg42
  refine gg43.elim (fun k41 gg44 => ?_)
  clear gg43
  refine gg44.elim (fun k42 gg45 => ?_)
  clear gg44
  refine gg45.elim (fun k43 gg46 => ?_)
  clear gg45
  refine gg46.elim (fun k44 gg47 => ?_)
  clear gg46
  refine gg47.elim (fun k45 gg48 => ?_)
  clear gg47
  refine gg48.elim (fun k46 gg49 => ?_)
  clear gg48
  refine gg49.elim (fun k47 gg50 => ?_)
  clear gg49
  refine gg50.elim (fun q49 gg51 => ?_)
  clear gg50
  refine gg51.elim (fun q50 gg52 => ?_)
  clear gg51
  refine gg52.elim (fun q51 gg53 => ?_)
  clear gg52
  refine gg53.elim (fun q52 gg54 => ?_)
  clear gg53
  refine gg54.elim (fun q53 gg55 => ?_)
  clear gg54
  refine gg55.elim (fun q54 gg56 => ?_)
  clear gg55
  refine gg56.elim (fun q55 gg57 => ?_)
  clear gg56
  refine gg57.elim (fun q56 gg58 => ?_)
  clear gg57
  refine gg58.elim (fun q57 gg59 => ?_)
  clear gg58
  refine gg59.elim (fun q58 gg60 => ?_)
  clear gg59
  refine gg60.elim (fun q59 gg61 => ?_)
  clear gg60
  refine gg61.elim (fun k60 gg62 => ?_)
  clear gg61
  refine gg62.elim (fun k61 gg63 => ?_)
  clear gg62
  refine gg63.elim (fun k62 gg64 => ?_)
  clear gg63
  refine gg64.elim (fun k63 gg65 => ?_)
  clear gg64
  refine gg65.elim (fun k64 gg66 => ?_)
  clear gg65
  refine gg66.elim (fun k65 gg67 => ?_)
  clear gg66
  refine gg67.elim (fun k66 gg68 => ?_)
  clear gg67
  refine gg68.elim (fun k67 gg69 => ?_)
  clear gg68
  refine gg69.elim (fun k68 gg70 => ?_)
  clear gg69
  refine gg70.elim (fun k69 gg71 => ?_)
  clear gg70
  refine gg71.elim (fun k70 gg72 => ?_)
  clear gg71
  refine gg72.elim (fun q72 gg73 => ?_)
  clear gg72
  refine gg73.elim (fun q73 gg74 => ?_)
  clear gg73
  refine gg74.elim (fun q74 gg75 => ?_)
  clear gg74
  refine gg75.elim (fun q75 gg76 => ?_)
  clear gg75
  refine gg76.elim (fun q76 gg77 => ?_)
  clear gg76
  refine gg77.elim (fun q77 gg78 => ?_)
  clear gg77
  refine gg78.elim (fun q78 gg79 => ?_)
  clear gg78
  refine gg79.elim (fun q79 gg80 => ?_)
  clear gg79
  refine gg80.elim (fun k80 gg81 => ?_)
  clear gg80
  refine gg81.elim (fun k81 gg82 => ?_)
  clear gg81
  refine gg82.elim (fun k82 gg83 => ?_)
  clear gg82
  refine gg83.elim (fun k83 gg84 => ?_)
  clear gg83
  refine gg84.elim (fun k84 gg85 => ?_)
  clear gg84
  refine gg85.elim (fun k85 gg86 => ?_)
  clear gg85
  refine gg86.elim (fun k86 gg87 => ?_)
  clear gg86
  refine gg87.elim (fun k87 gg88 => ?_)
  clear gg87
  refine gg88.elim (fun g88 gg89 => ?_)
  clear gg88
  refine gg89.elim (fun q90 gg90 => ?_)
  clear gg89
  refine gg90.elim (fun q91 gg91 => ?_)
  clear gg90
  refine gg91.elim (fun q92 gg92 => ?_)
  clear gg91
  refine gg92.elim (fun q93 gg93 => ?_)
  clear gg92
  refine gg93.elim (fun q94 gg94 => ?_)
  clear gg93
  refine gg94.elim (fun q95 gg95 => ?_)
  clear gg94
  refine gg95.elim (fun q96 gg96 => ?_)
  clear gg95
  refine gg96.elim (fun k97 gg97 => ?_)
  clear gg96
  refine gg97.elim (fun k98 gg98 => ?_)
  clear gg97
  refine gg98.elim (fun k99 gg99 => ?_)
  clear gg98
  refine gg99.elim (fun k100 gg100 => ?_)
  clear gg99
  refine gg100.elim (fun k101 gg101 => ?_)
  clear gg100
  refine gg101.elim (fun k102 gg102 => ?_)
  clear gg101
  refine gg102.elim (fun k103 gg103 => ?_)
  clear gg102
  refine gg103.elim (fun q105 gg104 => ?_)
  clear gg103
  refine gg104.elim (fun q106 gg105 => ?_)
  clear gg104
  refine gg105.elim (fun k107 gg106 => ?_)
  clear gg105
  refine gg106.elim (fun k108 h => ?_)
  clear gg106
  obtain ⟨hP, hK, hD⟩ := h
  obtain ⟨cA, hK2, hst⟩ := st_cl (h0 := h0) (q1 := q1) (q8 := q8) (q27 := q27) (q48 := q48) (q71 := q71) (q89 := q89) (q104 := q104) (q2 := q2) (q3 := q3) (q4 := q4) (q9 := q9) (q10 := q10) (q11 := q11) (q12 := q12) (q13 := q13) (q14 := q14) (q15 := q15) (q16 := q16) (q17 := q17) (q28 := q28) (q29 := q29) (q30 := q30) (q31 := q31) (q32 := q32) (q33 := q33) (q34 := q34) (q35 := q35) (q36 := q36) (q37 := q37) (q49 := q49) (q50 := q50) (q51 := q51) (q52 := q52) (q53 := q53) (q54 := q54) (q55 := q55) (q56 := q56) (q57 := q57) (q58 := q58) (q59 := q59) (q72 := q72) (q73 := q73) (q74 := q74) (q75 := q75) (q76 := q76) (q77 := q77) (q78 := q78) (q79 := q79) (q90 := q90) (q91 := q91) (q92 := q92) (q93 := q93) (q94 := q94) (q95 := q95) (q96 := q96) (q105 := q105) (q106 := q106) (g88 := g88) hcB hK
  exact ⟨_, cA, g88, hP, hK2, hD, hst⟩
