-- the cells that the house's constructor leaves
def x10p_ (dC : Nat → ClassId) (dI : Nat → Nat → Nat) (h0 : Nat) (A : Nat → Prop) (t : State) (q1 : Nat) (q8 : Nat) (q27 : Nat) (q48 : Nat) (q71 : Nat) (q89 : Nat) (q104 : Nat) (q2 : Nat) (q3 : Nat) (q4 : Nat) (k5 : ClassId) (k6 : ClassId) (k7 : ClassId) (q9 : Nat) (q10 : Nat) (q11 : Nat) (q12 : Nat) (q13 : Nat) (q14 : Nat) (q15 : Nat) (q16 : Nat) (q17 : Nat) (k18 : ClassId) (k19 : ClassId) (k20 : ClassId) (k21 : ClassId) (k22 : ClassId) (k23 : ClassId) (k24 : ClassId) (k25 : ClassId) (k26 : ClassId) (q28 : Nat) (q29 : Nat) (q30 : Nat) (q31 : Nat) (q32 : Nat) (q33 : Nat) (q34 : Nat) (q35 : Nat) (q36 : Nat) (q37 : Nat) (k38 : ClassId) (k39 : ClassId) (k40 : ClassId) (k41 : ClassId) (k42 : ClassId) (k43 : ClassId) (k44 : ClassId) (k45 : ClassId) (k46 : ClassId) (k47 : ClassId) (q49 : Nat) (q50 : Nat) (q51 : Nat) (q52 : Nat) (q53 : Nat) (q54 : Nat) (q55 : Nat) (q56 : Nat) (q57 : Nat) (q58 : Nat) (q59 : Nat) (k60 : ClassId) (k61 : ClassId) (k62 : ClassId) (k63 : ClassId) (k64 : ClassId) (k65 : ClassId) (k66 : ClassId) (k67 : ClassId) (k68 : ClassId) (k69 : ClassId) (k70 : ClassId) (q72 : Nat) (q73 : Nat) (q74 : Nat) (q75 : Nat) (q76 : Nat) (q77 : Nat) (q78 : Nat) (q79 : Nat) (k80 : ClassId) (k81 : ClassId) (k82 : ClassId) (k83 : ClassId) (k84 : ClassId) (k85 : ClassId) (k86 : ClassId) (k87 : ClassId) (g88 : Nat → Int32) (q90 : Nat) (q91 : Nat) (q92 : Nat) (q93 : Nat) (q94 : Nat) (q95 : Nat) (q96 : Nat) (k97 : ClassId) (k98 : ClassId) (k99 : ClassId) (k100 : ClassId) (k101 : ClassId) (k102 : ClassId) (k103 : ClassId) (q105 : Nat) (q106 : Nat) (k107 : ClassId) (k108 : ClassId) : Prop := va_P (dC, dI) vwCl [(h0, .inr (10, [.ref q1, .ref q8, .ref q27, .ref q48, .ref q71, .ref q89, .ref q104])), (q1, .inr (5, [.ref q2, .int 0, .int 0, .int (-1), .ref q3, .ref q4, .int 0, .int 0, .int 0, .int 0])), (q2, .inl (k5, 400, .inl (fun _ => 0))), (q3, .inl (k6, 16, .inl (fun _ => 0))), (q4, .inl (k7, 7, .inl (fun _ => 0))), (q8, .inr (8, [.ref q9, .ref q10, .int 0, .int 0, .ref q11, .int 0, .ref q12, .ref q13, .ref q14, .ref q15, .ref q16, .ref q17, .int 0, .int 0])), (q9, .inl (k18, 12, .inl (fun _ => 0))), (q10, .inl (k19, 12, .inl (fun _ => 0))), (q11, .inl (k20, 200, .inl (fun _ => 0))), (q12, .inl (k21, 300, .inl (fun _ => 0))), (q13, .inl (k22, 300, .inl (fun _ => 0))), (q14, .inl (k23, 300, .inl (fun _ => 0))), (q15, .inl (k24, 300, .inl (fun _ => 0))), (q16, .inl (k25, 8, .inl (fun _ => 0))), (q17, .inl (k26, 8, .inl (fun _ => 0))), (q27, .inr (6, [.ref q8, .ref q28, .int 0, .ref q29, .int 0, .int 0, .int 0, .ref q30, .ref q31, .ref q32, .ref q33, .ref q34, .int 0, .ref q35, .ref q36, .ref q37])), (q28, .inl (k38, 4, .inr (.inr (.inr (.inr (fun _ => none)))))), (q29, .inl (k39, 400, .inr (.inr (.inr (.inr (fun _ => none)))))), (q30, .inl (k40, 50, .inl (fun _ => 0))), (q31, .inl (k41, 50, .inl (fun _ => 0))), (q32, .inl (k42, 50, .inl (fun _ => 0))), (q33, .inl (k43, 50, .inl (fun _ => 0))), (q34, .inl (k44, 400, .inl (fun _ => 0))), (q35, .inl (k45, 400, .inl (fun _ => 0))), (q36, .inl (k46, 400, .inl (fun _ => 0))), (q37, .inl (k47, 1000, .inl (fun _ => 0))), (q48, .inr (7, [.ref q27, .null, .ref q49, .ref q50, .ref q51, .ref q52, .ref q53, .ref q54, .ref q55, .ref q56, .ref q57, .ref q58, .ref q59, .int 0])), (q49, .inl (k60, 96, .inl (fun _ => 0))), (q50, .inl (k61, 12, .inl (fun _ => 0))), (q51, .inl (k62, 12, .inl (fun _ => 0))), (q52, .inl (k63, 144, .inl (fun _ => 0))), (q53, .inl (k64, 144, .inl (fun _ => 0))), (q54, .inl (k65, 12, .inl (fun _ => 0))), (q55, .inl (k66, 12, .inl (fun _ => 0))), (q56, .inl (k67, 12, .inr (.inl (fun _ => 0)))), (q57, .inl (k68, 16, .inl (fun _ => 0))), (q58, .inl (k69, 16, .inl (fun _ => 0))), (q59, .inl (k70, 16, .inl (fun _ => 0))), (q71, .inr (9, [.ref q27, .ref q48, .int (-1), .int 0, .ref q72, .null, .int 0, .ref q73, .ref q74, .int 0, .ref q75, .ref q76, .ref q77, .ref q78, .ref q79, .null])), (q73, .inl (k80, 12, .inl (fun _ => 0))), (q74, .inl (k81, 40, .inl (fun _ => 0))), (q75, .inl (k82, 40, .inl (fun _ => 0))), (q76, .inl (k83, 12, .inl (fun _ => 0))), (q77, .inl (k84, 12, .inl (fun _ => 0))), (q78, .inl (k85, 12, .inl (fun _ => 0))), (q79, .inl (k86, 12, .inl (fun _ => 0))), (q72, .inl (k87, 400, .inl g88)), (q89, .inr (1, [.ref q8, .int 0, .int 0, .int 0, .int 0, .int 0, .int 0, .int 0, .ref q90, .ref q91, .ref q92, .ref q93, .ref q94, .int 0, .ref q95, .ref q96])), (q90, .inl (k97, 12, .inl (fun _ => 0))), (q91, .inl (k98, 12, .inl (fun _ => 0))), (q92, .inl (k99, 3, .inl (fun _ => 0))), (q93, .inl (k100, 48, .inl (fun _ => 0))), (q94, .inl (k101, 12, .inl (fun _ => 0))), (q95, .inl (k102, 12, .inl (fun _ => 0))), (q96, .inl (k103, 32, .inl (fun _ => 0))), (q104, .inr (4, [.ref q27, .ref q8, .ref q105, .int 0, .ref q106])), (q105, .inl (k107, 400, .inl (fun _ => 0))), (q106, .inl (k108, 1, .inl (fun _ => 0)))] t.heap ∧ va_K (dC, dI) vwCl [(k5, .int), (k6, .int), (k7, .int), (k18, .int), (k19, .int), (k20, .int), (k21, .int), (k22, .int), (k23, .int), (k24, .int), (k25, .int), (k26, .int), (k38, .object RX0), (k39, .object RX2), (k40, .int), (k41, .int), (k42, .int), (k43, .int), (k44, .int), (k45, .int), (k46, .int), (k47, .int), (k60, .int), (k61, .int), (k62, .int), (k63, .int), (k64, .int), (k65, .int), (k66, .int), (k67, .long), (k68, .int), (k69, .int), (k70, .int), (k87, .int), (k80, .int), (k81, .int), (k82, .int), (k83, .int), (k84, .int), (k85, .int), (k86, .int), (k97, .int), (k98, .int), (k99, .int), (k100, .int), (k101, .int), (k102, .int), (k103, .int), (k107, .int), (k108, .int)] t ∧ va_D A [(h0, .inr (10, [.ref q1, .ref q8, .ref q27, .ref q48, .ref q71, .ref q89, .ref q104])), (q1, .inr (5, [.ref q2, .int 0, .int 0, .int (-1), .ref q3, .ref q4, .int 0, .int 0, .int 0, .int 0])), (q2, .inl (k5, 400, .inl (fun _ => 0))), (q3, .inl (k6, 16, .inl (fun _ => 0))), (q4, .inl (k7, 7, .inl (fun _ => 0))), (q8, .inr (8, [.ref q9, .ref q10, .int 0, .int 0, .ref q11, .int 0, .ref q12, .ref q13, .ref q14, .ref q15, .ref q16, .ref q17, .int 0, .int 0])), (q9, .inl (k18, 12, .inl (fun _ => 0))), (q10, .inl (k19, 12, .inl (fun _ => 0))), (q11, .inl (k20, 200, .inl (fun _ => 0))), (q12, .inl (k21, 300, .inl (fun _ => 0))), (q13, .inl (k22, 300, .inl (fun _ => 0))), (q14, .inl (k23, 300, .inl (fun _ => 0))), (q15, .inl (k24, 300, .inl (fun _ => 0))), (q16, .inl (k25, 8, .inl (fun _ => 0))), (q17, .inl (k26, 8, .inl (fun _ => 0))), (q27, .inr (6, [.ref q8, .ref q28, .int 0, .ref q29, .int 0, .int 0, .int 0, .ref q30, .ref q31, .ref q32, .ref q33, .ref q34, .int 0, .ref q35, .ref q36, .ref q37])), (q28, .inl (k38, 4, .inr (.inr (.inr (.inr (fun _ => none)))))), (q29, .inl (k39, 400, .inr (.inr (.inr (.inr (fun _ => none)))))), (q30, .inl (k40, 50, .inl (fun _ => 0))), (q31, .inl (k41, 50, .inl (fun _ => 0))), (q32, .inl (k42, 50, .inl (fun _ => 0))), (q33, .inl (k43, 50, .inl (fun _ => 0))), (q34, .inl (k44, 400, .inl (fun _ => 0))), (q35, .inl (k45, 400, .inl (fun _ => 0))), (q36, .inl (k46, 400, .inl (fun _ => 0))), (q37, .inl (k47, 1000, .inl (fun _ => 0))), (q48, .inr (7, [.ref q27, .null, .ref q49, .ref q50, .ref q51, .ref q52, .ref q53, .ref q54, .ref q55, .ref q56, .ref q57, .ref q58, .ref q59, .int 0])), (q49, .inl (k60, 96, .inl (fun _ => 0))), (q50, .inl (k61, 12, .inl (fun _ => 0))), (q51, .inl (k62, 12, .inl (fun _ => 0))), (q52, .inl (k63, 144, .inl (fun _ => 0))), (q53, .inl (k64, 144, .inl (fun _ => 0))), (q54, .inl (k65, 12, .inl (fun _ => 0))), (q55, .inl (k66, 12, .inl (fun _ => 0))), (q56, .inl (k67, 12, .inr (.inl (fun _ => 0)))), (q57, .inl (k68, 16, .inl (fun _ => 0))), (q58, .inl (k69, 16, .inl (fun _ => 0))), (q59, .inl (k70, 16, .inl (fun _ => 0))), (q71, .inr (9, [.ref q27, .ref q48, .int (-1), .int 0, .ref q72, .null, .int 0, .ref q73, .ref q74, .int 0, .ref q75, .ref q76, .ref q77, .ref q78, .ref q79, .null])), (q73, .inl (k80, 12, .inl (fun _ => 0))), (q74, .inl (k81, 40, .inl (fun _ => 0))), (q75, .inl (k82, 40, .inl (fun _ => 0))), (q76, .inl (k83, 12, .inl (fun _ => 0))), (q77, .inl (k84, 12, .inl (fun _ => 0))), (q78, .inl (k85, 12, .inl (fun _ => 0))), (q79, .inl (k86, 12, .inl (fun _ => 0))), (q72, .inl (k87, 400, .inl g88)), (q89, .inr (1, [.ref q8, .int 0, .int 0, .int 0, .int 0, .int 0, .int 0, .int 0, .ref q90, .ref q91, .ref q92, .ref q93, .ref q94, .int 0, .ref q95, .ref q96])), (q90, .inl (k97, 12, .inl (fun _ => 0))), (q91, .inl (k98, 12, .inl (fun _ => 0))), (q92, .inl (k99, 3, .inl (fun _ => 0))), (q93, .inl (k100, 48, .inl (fun _ => 0))), (q94, .inl (k101, 12, .inl (fun _ => 0))), (q95, .inl (k102, 12, .inl (fun _ => 0))), (q96, .inl (k103, 32, .inl (fun _ => 0))), (q104, .inr (4, [.ref q27, .ref q8, .ref q105, .int 0, .ref q106])), (q105, .inl (k107, 400, .inl (fun _ => 0))), (q106, .inl (k108, 1, .inl (fun _ => 0)))]
set_option maxRecDepth 100000 in
set_option maxHeartbeats 4000000 in
theorem x10_el {dC : Nat → ClassId} {dI : Nat → Nat → Nat} {h0 : Nat} {A : Nat → Prop} {t : State} (hB : ∃ (q1 : Nat) (q8 : Nat) (q27 : Nat) (q48 : Nat) (q71 : Nat) (q89 : Nat) (q104 : Nat) (q2 : Nat) (q3 : Nat) (q4 : Nat) (k5 : ClassId) (k6 : ClassId) (k7 : ClassId) (q9 : Nat) (q10 : Nat) (q11 : Nat) (q12 : Nat) (q13 : Nat) (q14 : Nat) (q15 : Nat) (q16 : Nat) (q17 : Nat) (k18 : ClassId) (k19 : ClassId) (k20 : ClassId) (k21 : ClassId) (k22 : ClassId) (k23 : ClassId) (k24 : ClassId) (k25 : ClassId) (k26 : ClassId) (q28 : Nat) (q29 : Nat) (q30 : Nat) (q31 : Nat) (q32 : Nat) (q33 : Nat) (q34 : Nat) (q35 : Nat) (q36 : Nat) (q37 : Nat) (k38 : ClassId) (k39 : ClassId) (k40 : ClassId) (k41 : ClassId) (k42 : ClassId) (k43 : ClassId) (k44 : ClassId) (k45 : ClassId) (k46 : ClassId) (k47 : ClassId) (q49 : Nat) (q50 : Nat) (q51 : Nat) (q52 : Nat) (q53 : Nat) (q54 : Nat) (q55 : Nat) (q56 : Nat) (q57 : Nat) (q58 : Nat) (q59 : Nat) (k60 : ClassId) (k61 : ClassId) (k62 : ClassId) (k63 : ClassId) (k64 : ClassId) (k65 : ClassId) (k66 : ClassId) (k67 : ClassId) (k68 : ClassId) (k69 : ClassId) (k70 : ClassId) (q72 : Nat) (q73 : Nat) (q74 : Nat) (q75 : Nat) (q76 : Nat) (q77 : Nat) (q78 : Nat) (q79 : Nat) (k80 : ClassId) (k81 : ClassId) (k82 : ClassId) (k83 : ClassId) (k84 : ClassId) (k85 : ClassId) (k86 : ClassId) (k87 : ClassId) (g88 : Nat → Int32) (q90 : Nat) (q91 : Nat) (q92 : Nat) (q93 : Nat) (q94 : Nat) (q95 : Nat) (q96 : Nat) (k97 : ClassId) (k98 : ClassId) (k99 : ClassId) (k100 : ClassId) (k101 : ClassId) (k102 : ClassId) (k103 : ClassId) (q105 : Nat) (q106 : Nat) (k107 : ClassId) (k108 : ClassId), va_P (dC, dI) vwCl [(h0, .inr (10, [.ref q1, .ref q8, .ref q27, .ref q48, .ref q71, .ref q89, .ref q104])), (q1, .inr (5, [.ref q2, .int 0, .int 0, .int (-1), .ref q3, .ref q4, .int 0, .int 0, .int 0, .int 0])), (q2, .inl (k5, 400, .inl (fun _ => 0))), (q3, .inl (k6, 16, .inl (fun _ => 0))), (q4, .inl (k7, 7, .inl (fun _ => 0))), (q8, .inr (8, [.ref q9, .ref q10, .int 0, .int 0, .ref q11, .int 0, .ref q12, .ref q13, .ref q14, .ref q15, .ref q16, .ref q17, .int 0, .int 0])), (q9, .inl (k18, 12, .inl (fun _ => 0))), (q10, .inl (k19, 12, .inl (fun _ => 0))), (q11, .inl (k20, 200, .inl (fun _ => 0))), (q12, .inl (k21, 300, .inl (fun _ => 0))), (q13, .inl (k22, 300, .inl (fun _ => 0))), (q14, .inl (k23, 300, .inl (fun _ => 0))), (q15, .inl (k24, 300, .inl (fun _ => 0))), (q16, .inl (k25, 8, .inl (fun _ => 0))), (q17, .inl (k26, 8, .inl (fun _ => 0))), (q27, .inr (6, [.ref q8, .ref q28, .int 0, .ref q29, .int 0, .int 0, .int 0, .ref q30, .ref q31, .ref q32, .ref q33, .ref q34, .int 0, .ref q35, .ref q36, .ref q37])), (q28, .inl (k38, 4, .inr (.inr (.inr (.inr (fun _ => none)))))), (q29, .inl (k39, 400, .inr (.inr (.inr (.inr (fun _ => none)))))), (q30, .inl (k40, 50, .inl (fun _ => 0))), (q31, .inl (k41, 50, .inl (fun _ => 0))), (q32, .inl (k42, 50, .inl (fun _ => 0))), (q33, .inl (k43, 50, .inl (fun _ => 0))), (q34, .inl (k44, 400, .inl (fun _ => 0))), (q35, .inl (k45, 400, .inl (fun _ => 0))), (q36, .inl (k46, 400, .inl (fun _ => 0))), (q37, .inl (k47, 1000, .inl (fun _ => 0))), (q48, .inr (7, [.ref q27, .null, .ref q49, .ref q50, .ref q51, .ref q52, .ref q53, .ref q54, .ref q55, .ref q56, .ref q57, .ref q58, .ref q59, .int 0])), (q49, .inl (k60, 96, .inl (fun _ => 0))), (q50, .inl (k61, 12, .inl (fun _ => 0))), (q51, .inl (k62, 12, .inl (fun _ => 0))), (q52, .inl (k63, 144, .inl (fun _ => 0))), (q53, .inl (k64, 144, .inl (fun _ => 0))), (q54, .inl (k65, 12, .inl (fun _ => 0))), (q55, .inl (k66, 12, .inl (fun _ => 0))), (q56, .inl (k67, 12, .inr (.inl (fun _ => 0)))), (q57, .inl (k68, 16, .inl (fun _ => 0))), (q58, .inl (k69, 16, .inl (fun _ => 0))), (q59, .inl (k70, 16, .inl (fun _ => 0))), (q71, .inr (9, [.ref q27, .ref q48, .int (-1), .int 0, .ref q72, .null, .int 0, .ref q73, .ref q74, .int 0, .ref q75, .ref q76, .ref q77, .ref q78, .ref q79, .null])), (q73, .inl (k80, 12, .inl (fun _ => 0))), (q74, .inl (k81, 40, .inl (fun _ => 0))), (q75, .inl (k82, 40, .inl (fun _ => 0))), (q76, .inl (k83, 12, .inl (fun _ => 0))), (q77, .inl (k84, 12, .inl (fun _ => 0))), (q78, .inl (k85, 12, .inl (fun _ => 0))), (q79, .inl (k86, 12, .inl (fun _ => 0))), (q72, .inl (k87, 400, .inl g88)), (q89, .inr (1, [.ref q8, .int 0, .int 0, .int 0, .int 0, .int 0, .int 0, .int 0, .ref q90, .ref q91, .ref q92, .ref q93, .ref q94, .int 0, .ref q95, .ref q96])), (q90, .inl (k97, 12, .inl (fun _ => 0))), (q91, .inl (k98, 12, .inl (fun _ => 0))), (q92, .inl (k99, 3, .inl (fun _ => 0))), (q93, .inl (k100, 48, .inl (fun _ => 0))), (q94, .inl (k101, 12, .inl (fun _ => 0))), (q95, .inl (k102, 12, .inl (fun _ => 0))), (q96, .inl (k103, 32, .inl (fun _ => 0))), (q104, .inr (4, [.ref q27, .ref q8, .ref q105, .int 0, .ref q106])), (q105, .inl (k107, 400, .inl (fun _ => 0))), (q106, .inl (k108, 1, .inl (fun _ => 0)))] t.heap ∧ va_K (dC, dI) vwCl [(k5, .int), (k6, .int), (k7, .int), (k18, .int), (k19, .int), (k20, .int), (k21, .int), (k22, .int), (k23, .int), (k24, .int), (k25, .int), (k26, .int), (k38, .object RX0), (k39, .object RX2), (k40, .int), (k41, .int), (k42, .int), (k43, .int), (k44, .int), (k45, .int), (k46, .int), (k47, .int), (k60, .int), (k61, .int), (k62, .int), (k63, .int), (k64, .int), (k65, .int), (k66, .int), (k67, .long), (k68, .int), (k69, .int), (k70, .int), (k87, .int), (k80, .int), (k81, .int), (k82, .int), (k83, .int), (k84, .int), (k85, .int), (k86, .int), (k97, .int), (k98, .int), (k99, .int), (k100, .int), (k101, .int), (k102, .int), (k103, .int), (k107, .int), (k108, .int)] t ∧ va_D A [(h0, .inr (10, [.ref q1, .ref q8, .ref q27, .ref q48, .ref q71, .ref q89, .ref q104])), (q1, .inr (5, [.ref q2, .int 0, .int 0, .int (-1), .ref q3, .ref q4, .int 0, .int 0, .int 0, .int 0])), (q2, .inl (k5, 400, .inl (fun _ => 0))), (q3, .inl (k6, 16, .inl (fun _ => 0))), (q4, .inl (k7, 7, .inl (fun _ => 0))), (q8, .inr (8, [.ref q9, .ref q10, .int 0, .int 0, .ref q11, .int 0, .ref q12, .ref q13, .ref q14, .ref q15, .ref q16, .ref q17, .int 0, .int 0])), (q9, .inl (k18, 12, .inl (fun _ => 0))), (q10, .inl (k19, 12, .inl (fun _ => 0))), (q11, .inl (k20, 200, .inl (fun _ => 0))), (q12, .inl (k21, 300, .inl (fun _ => 0))), (q13, .inl (k22, 300, .inl (fun _ => 0))), (q14, .inl (k23, 300, .inl (fun _ => 0))), (q15, .inl (k24, 300, .inl (fun _ => 0))), (q16, .inl (k25, 8, .inl (fun _ => 0))), (q17, .inl (k26, 8, .inl (fun _ => 0))), (q27, .inr (6, [.ref q8, .ref q28, .int 0, .ref q29, .int 0, .int 0, .int 0, .ref q30, .ref q31, .ref q32, .ref q33, .ref q34, .int 0, .ref q35, .ref q36, .ref q37])), (q28, .inl (k38, 4, .inr (.inr (.inr (.inr (fun _ => none)))))), (q29, .inl (k39, 400, .inr (.inr (.inr (.inr (fun _ => none)))))), (q30, .inl (k40, 50, .inl (fun _ => 0))), (q31, .inl (k41, 50, .inl (fun _ => 0))), (q32, .inl (k42, 50, .inl (fun _ => 0))), (q33, .inl (k43, 50, .inl (fun _ => 0))), (q34, .inl (k44, 400, .inl (fun _ => 0))), (q35, .inl (k45, 400, .inl (fun _ => 0))), (q36, .inl (k46, 400, .inl (fun _ => 0))), (q37, .inl (k47, 1000, .inl (fun _ => 0))), (q48, .inr (7, [.ref q27, .null, .ref q49, .ref q50, .ref q51, .ref q52, .ref q53, .ref q54, .ref q55, .ref q56, .ref q57, .ref q58, .ref q59, .int 0])), (q49, .inl (k60, 96, .inl (fun _ => 0))), (q50, .inl (k61, 12, .inl (fun _ => 0))), (q51, .inl (k62, 12, .inl (fun _ => 0))), (q52, .inl (k63, 144, .inl (fun _ => 0))), (q53, .inl (k64, 144, .inl (fun _ => 0))), (q54, .inl (k65, 12, .inl (fun _ => 0))), (q55, .inl (k66, 12, .inl (fun _ => 0))), (q56, .inl (k67, 12, .inr (.inl (fun _ => 0)))), (q57, .inl (k68, 16, .inl (fun _ => 0))), (q58, .inl (k69, 16, .inl (fun _ => 0))), (q59, .inl (k70, 16, .inl (fun _ => 0))), (q71, .inr (9, [.ref q27, .ref q48, .int (-1), .int 0, .ref q72, .null, .int 0, .ref q73, .ref q74, .int 0, .ref q75, .ref q76, .ref q77, .ref q78, .ref q79, .null])), (q73, .inl (k80, 12, .inl (fun _ => 0))), (q74, .inl (k81, 40, .inl (fun _ => 0))), (q75, .inl (k82, 40, .inl (fun _ => 0))), (q76, .inl (k83, 12, .inl (fun _ => 0))), (q77, .inl (k84, 12, .inl (fun _ => 0))), (q78, .inl (k85, 12, .inl (fun _ => 0))), (q79, .inl (k86, 12, .inl (fun _ => 0))), (q72, .inl (k87, 400, .inl g88)), (q89, .inr (1, [.ref q8, .int 0, .int 0, .int 0, .int 0, .int 0, .int 0, .int 0, .ref q90, .ref q91, .ref q92, .ref q93, .ref q94, .int 0, .ref q95, .ref q96])), (q90, .inl (k97, 12, .inl (fun _ => 0))), (q91, .inl (k98, 12, .inl (fun _ => 0))), (q92, .inl (k99, 3, .inl (fun _ => 0))), (q93, .inl (k100, 48, .inl (fun _ => 0))), (q94, .inl (k101, 12, .inl (fun _ => 0))), (q95, .inl (k102, 12, .inl (fun _ => 0))), (q96, .inl (k103, 32, .inl (fun _ => 0))), (q104, .inr (4, [.ref q27, .ref q8, .ref q105, .int 0, .ref q106])), (q105, .inl (k107, 400, .inl (fun _ => 0))), (q106, .inl (k108, 1, .inl (fun _ => 0)))]) : ∃ (q1 : Nat) (q8 : Nat) (q27 : Nat) (q48 : Nat) (q71 : Nat) (q89 : Nat) (q104 : Nat) (q2 : Nat) (q3 : Nat) (q4 : Nat) (k5 : ClassId) (k6 : ClassId) (k7 : ClassId) (q9 : Nat) (q10 : Nat) (q11 : Nat) (q12 : Nat) (q13 : Nat) (q14 : Nat) (q15 : Nat) (q16 : Nat) (q17 : Nat) (k18 : ClassId) (k19 : ClassId) (k20 : ClassId) (k21 : ClassId) (k22 : ClassId) (k23 : ClassId) (k24 : ClassId) (k25 : ClassId) (k26 : ClassId) (q28 : Nat) (q29 : Nat) (q30 : Nat) (q31 : Nat) (q32 : Nat) (q33 : Nat) (q34 : Nat) (q35 : Nat) (q36 : Nat) (q37 : Nat) (k38 : ClassId) (k39 : ClassId) (k40 : ClassId) (k41 : ClassId) (k42 : ClassId) (k43 : ClassId) (k44 : ClassId) (k45 : ClassId) (k46 : ClassId) (k47 : ClassId) (q49 : Nat) (q50 : Nat) (q51 : Nat) (q52 : Nat) (q53 : Nat) (q54 : Nat) (q55 : Nat) (q56 : Nat) (q57 : Nat) (q58 : Nat) (q59 : Nat) (k60 : ClassId) (k61 : ClassId) (k62 : ClassId) (k63 : ClassId) (k64 : ClassId) (k65 : ClassId) (k66 : ClassId) (k67 : ClassId) (k68 : ClassId) (k69 : ClassId) (k70 : ClassId) (q72 : Nat) (q73 : Nat) (q74 : Nat) (q75 : Nat) (q76 : Nat) (q77 : Nat) (q78 : Nat) (q79 : Nat) (k80 : ClassId) (k81 : ClassId) (k82 : ClassId) (k83 : ClassId) (k84 : ClassId) (k85 : ClassId) (k86 : ClassId) (k87 : ClassId) (g88 : Nat → Int32) (q90 : Nat) (q91 : Nat) (q92 : Nat) (q93 : Nat) (q94 : Nat) (q95 : Nat) (q96 : Nat) (k97 : ClassId) (k98 : ClassId) (k99 : ClassId) (k100 : ClassId) (k101 : ClassId) (k102 : ClassId) (k103 : ClassId) (q105 : Nat) (q106 : Nat) (k107 : ClassId) (k108 : ClassId), x10p_ dC dI h0 A t q1 q8 q27 q48 q71 q89 q104 q2 q3 q4 k5 k6 k7 q9 q10 q11 q12 q13 q14 q15 q16 q17 k18 k19 k20 k21 k22 k23 k24 k25 k26 q28 q29 q30 q31 q32 q33 q34 q35 q36 q37 k38 k39 k40 k41 k42 k43 k44 k45 k46 k47 q49 q50 q51 q52 q53 q54 q55 q56 q57 q58 q59 k60 k61 k62 k63 k64 k65 k66 k67 k68 k69 k70 q72 q73 q74 q75 q76 q77 q78 q79 k80 k81 k82 k83 k84 k85 k86 k87 g88 q90 q91 q92 q93 q94 q95 q96 k97 k98 k99 k100 k101 k102 k103 q105 q106 k107 k108 := hB
set_option maxRecDepth 100000 in
set_option maxHeartbeats 4000000 in
theorem x10_go {dC : Nat → ClassId} {dI : Nat → Nat → Nat} {h0 : Nat} {A : Nat → Prop} {t : State} {cB : ClassId} (hcB : ArrOfT t cB .boolean ∧ va_RA t cB .boolean) (hB : ∃ (q1 : Nat) (q8 : Nat) (q27 : Nat) (q48 : Nat) (q71 : Nat) (q89 : Nat) (q104 : Nat) (q2 : Nat) (q3 : Nat) (q4 : Nat) (k5 : ClassId) (k6 : ClassId) (k7 : ClassId) (q9 : Nat) (q10 : Nat) (q11 : Nat) (q12 : Nat) (q13 : Nat) (q14 : Nat) (q15 : Nat) (q16 : Nat) (q17 : Nat) (k18 : ClassId) (k19 : ClassId) (k20 : ClassId) (k21 : ClassId) (k22 : ClassId) (k23 : ClassId) (k24 : ClassId) (k25 : ClassId) (k26 : ClassId) (q28 : Nat) (q29 : Nat) (q30 : Nat) (q31 : Nat) (q32 : Nat) (q33 : Nat) (q34 : Nat) (q35 : Nat) (q36 : Nat) (q37 : Nat) (k38 : ClassId) (k39 : ClassId) (k40 : ClassId) (k41 : ClassId) (k42 : ClassId) (k43 : ClassId) (k44 : ClassId) (k45 : ClassId) (k46 : ClassId) (k47 : ClassId) (q49 : Nat) (q50 : Nat) (q51 : Nat) (q52 : Nat) (q53 : Nat) (q54 : Nat) (q55 : Nat) (q56 : Nat) (q57 : Nat) (q58 : Nat) (q59 : Nat) (k60 : ClassId) (k61 : ClassId) (k62 : ClassId) (k63 : ClassId) (k64 : ClassId) (k65 : ClassId) (k66 : ClassId) (k67 : ClassId) (k68 : ClassId) (k69 : ClassId) (k70 : ClassId) (q72 : Nat) (q73 : Nat) (q74 : Nat) (q75 : Nat) (q76 : Nat) (q77 : Nat) (q78 : Nat) (q79 : Nat) (k80 : ClassId) (k81 : ClassId) (k82 : ClassId) (k83 : ClassId) (k84 : ClassId) (k85 : ClassId) (k86 : ClassId) (k87 : ClassId) (g88 : Nat → Int32) (q90 : Nat) (q91 : Nat) (q92 : Nat) (q93 : Nat) (q94 : Nat) (q95 : Nat) (q96 : Nat) (k97 : ClassId) (k98 : ClassId) (k99 : ClassId) (k100 : ClassId) (k101 : ClassId) (k102 : ClassId) (k103 : ClassId) (q105 : Nat) (q106 : Nat) (k107 : ClassId) (k108 : ClassId), x10p_ dC dI h0 A t q1 q8 q27 q48 q71 q89 q104 q2 q3 q4 k5 k6 k7 q9 q10 q11 q12 q13 q14 q15 q16 q17 k18 k19 k20 k21 k22 k23 k24 k25 k26 q28 q29 q30 q31 q32 q33 q34 q35 q36 q37 k38 k39 k40 k41 k42 k43 k44 k45 k46 k47 q49 q50 q51 q52 q53 q54 q55 q56 q57 q58 q59 k60 k61 k62 k63 k64 k65 k66 k67 k68 k69 k70 q72 q73 q74 q75 q76 q77 q78 q79 k80 k81 k82 k83 k84 k85 k86 k87 g88 q90 q91 q92 q93 q94 q95 q96 k97 k98 k99 k100 k101 k102 k103 q105 q106 k107 k108) : ∃ (w : va_W) (cA : Nat → ClassId) (g : Nat → Int32), va_P (dC, dI) vwCl w t.heap ∧ va_K (dC, dI) vwCl (ty_ cA) t ∧ va_D A w ∧ ∀ m0 : Nat, ∃ xa : Nat → Nat, w = stX cA xa g ∧ xa 111 = m0 ∧ xa 110 = h0 := by
  refine hB.elim (fun q1 gg0 => ?_)
  clear hB
  refine gg0.elim (fun q8 gg1 => ?_)
  clear gg0
  refine gg1.elim (fun q27 gg2 => ?_)
  clear gg1
  refine gg2.elim (fun q48 gg3 => ?_)
  clear gg2
  refine gg3.elim (fun q71 gg4 => ?_)
  clear gg3
  refine gg4.elim (fun q89 gg5 => ?_)
  clear gg4
  refine gg5.elim (fun q104 gg6 => ?_)
  clear gg5
  refine gg6.elim (fun q2 gg7 => ?_)
  clear gg6
  refine gg7.elim (fun q3 gg8 => ?_)
  clear gg7
  refine gg8.elim (fun q4 gg9 => ?_)
  clear gg8
  refine gg9.elim (fun k5 gg10 => ?_)
  clear gg9
  refine gg10.elim (fun k6 gg11 => ?_)
  clear gg10
  refine gg11.elim (fun k7 gg12 => ?_)
  clear gg11
  refine gg12.elim (fun q9 gg13 => ?_)
  clear gg12
  refine gg13.elim (fun q10 gg14 => ?_)
  clear gg13
  refine gg14.elim (fun q11 gg15 => ?_)
  clear gg14
  refine gg15.elim (fun q12 gg16 => ?_)
  clear gg15
  refine gg16.elim (fun q13 gg17 => ?_)
  clear gg16
  refine gg17.elim (fun q14 gg18 => ?_)
  clear gg17
  refine gg18.elim (fun q15 gg19 => ?_)
  clear gg18
  refine gg19.elim (fun q16 gg20 => ?_)
  clear gg19
  refine gg20.elim (fun q17 gg21 => ?_)
  clear gg20
  refine gg21.elim (fun k18 gg22 => ?_)
  clear gg21
  refine gg22.elim (fun k19 gg23 => ?_)
  clear gg22
  refine gg23.elim (fun k20 gg24 => ?_)
  clear gg23
  refine gg24.elim (fun k21 gg25 => ?_)
  clear gg24
  refine gg25.elim (fun k22 gg26 => ?_)
  clear gg25
  refine gg26.elim (fun k23 gg27 => ?_)
  clear gg26
  refine gg27.elim (fun k24 gg28 => ?_)
  clear gg27
  refine gg28.elim (fun k25 gg29 => ?_)
  clear gg28
  refine gg29.elim (fun k26 gg30 => ?_)
  clear gg29
  refine gg30.elim (fun q28 gg31 => ?_)
  clear gg30
  refine gg31.elim (fun q29 gg32 => ?_)
  clear gg31
  refine gg32.elim (fun q30 gg33 => ?_)
  clear gg32
  refine gg33.elim (fun q31 gg34 => ?_)
  clear gg33
  refine gg34.elim (fun q32 gg35 => ?_)
  clear gg34
  refine gg35.elim (fun q33 gg36 => ?_)
  clear gg35
  refine gg36.elim (fun q34 gg37 => ?_)
  clear gg36
  refine gg37.elim (fun q35 gg38 => ?_)
  clear gg37
  refine gg38.elim (fun q36 gg39 => ?_)
  clear gg38
  refine gg39.elim (fun q37 gg40 => ?_)
  clear gg39
  refine gg40.elim (fun k38 gg41 => ?_)
  clear gg40
  refine gg41.elim (fun k39 gg42 => ?_)
  clear gg41
  refine gg42.elim (fun k40 gg43 => ?_)
  clear gg42
  refine gg43.elim (fun k41 gg44 => ?_)
  clear gg43
  refine gg44.elim (fun k42 gg45 => ?_)
  clear gg44
  refine gg45.elim (fun k43 gg46 => ?_)
  clear gg45
  refine gg46.elim (fun k44 gg47 => ?_)
  clear gg46
  refine gg47.elim (fun k45 gg48 => ?_)
  clear gg47
  refine gg48.elim (fun k46 gg49 => ?_)
  clear gg48
  refine gg49.elim (fun k47 gg50 => ?_)
  clear gg49
  refine gg50.elim (fun q49 gg51 => ?_)
  clear gg50
  refine gg51.elim (fun q50 gg52 => ?_)
  clear gg51
  refine gg52.elim (fun q51 gg53 => ?_)
  clear gg52
  refine gg53.elim (fun q52 gg54 => ?_)
  clear gg53
  refine gg54.elim (fun q53 gg55 => ?_)
  clear gg54
  refine gg55.elim (fun q54 gg56 => ?_)
  clear gg55
  refine gg56.elim (fun q55 gg57 => ?_)
  clear gg56
  refine gg57.elim (fun q56 gg58 => ?_)
  clear gg57
  refine gg58.elim (fun q57 gg59 => ?_)
  clear gg58
  refine gg59.elim (fun q58 gg60 => ?_)
  clear gg59
  refine gg60.elim (fun q59 gg61 => ?_)
  clear gg60
  refine gg61.elim (fun k60 gg62 => ?_)
  clear gg61
  refine gg62.elim (fun k61 gg63 => ?_)
  clear gg62
  refine gg63.elim (fun k62 gg64 => ?_)
  clear gg63
  refine gg64.elim (fun k63 gg65 => ?_)
  clear gg64
  refine gg65.elim (fun k64 gg66 => ?_)
  clear gg65
  refine gg66.elim (fun k65 gg67 => ?_)
  clear gg66
  refine gg67.elim (fun k66 gg68 => ?_)
  clear gg67
  refine gg68.elim (fun k67 gg69 => ?_)
  clear gg68
  refine gg69.elim (fun k68 gg70 => ?_)
  clear gg69
  refine gg70.elim (fun k69 gg71 => ?_)
  clear gg70
  refine gg71.elim (fun k70 gg72 => ?_)
  clear gg71
  refine gg72.elim (fun q72 gg73 => ?_)
  clear gg72
  refine gg73.elim (fun q73 gg74 => ?_)
  clear gg73
  refine gg74.elim (fun q74 gg75 => ?_)
  clear gg74
  refine gg75.elim (fun q75 gg76 => ?_)
  clear gg75
  refine gg76.elim (fun q76 gg77 => ?_)
  clear gg76
  refine gg77.elim (fun q77 gg78 => ?_)
  clear gg77
  refine gg78.elim (fun q78 gg79 => ?_)
  clear gg78
  refine gg79.elim (fun q79 gg80 => ?_)
  clear gg79
  refine gg80.elim (fun k80 gg81 => ?_)
  clear gg80
  refine gg81.elim (fun k81 gg82 => ?_)
  clear gg81
  refine gg82.elim (fun k82 gg83 => ?_)
  clear gg82
  refine gg83.elim (fun k83 gg84 => ?_)
  clear gg83
  refine gg84.elim (fun k84 gg85 => ?_)
  clear gg84
  refine gg85.elim (fun k85 gg86 => ?_)
  clear gg85
  refine gg86.elim (fun k86 gg87 => ?_)
  clear gg86
  refine gg87.elim (fun k87 gg88 => ?_)
  clear gg87
  refine gg88.elim (fun g88 gg89 => ?_)
  clear gg88
  refine gg89.elim (fun q90 gg90 => ?_)
  clear gg89
  refine gg90.elim (fun q91 gg91 => ?_)
  clear gg90
  refine gg91.elim (fun q92 gg92 => ?_)
  clear gg91
  refine gg92.elim (fun q93 gg93 => ?_)
  clear gg92
  refine gg93.elim (fun q94 gg94 => ?_)
  clear gg93
  refine gg94.elim (fun q95 gg95 => ?_)
  clear gg94
  refine gg95.elim (fun q96 gg96 => ?_)
  clear gg95
  refine gg96.elim (fun k97 gg97 => ?_)
  clear gg96
  refine gg97.elim (fun k98 gg98 => ?_)
  clear gg97
  refine gg98.elim (fun k99 gg99 => ?_)
  clear gg98
  refine gg99.elim (fun k100 gg100 => ?_)
  clear gg99
  refine gg100.elim (fun k101 gg101 => ?_)
  clear gg100
  refine gg101.elim (fun k102 gg102 => ?_)
  clear gg101
  refine gg102.elim (fun k103 gg103 => ?_)
  clear gg102
  refine gg103.elim (fun q105 gg104 => ?_)
  clear gg103
  refine gg104.elim (fun q106 gg105 => ?_)
  clear gg104
  refine gg105.elim (fun k107 gg106 => ?_)
  clear gg105
  refine gg106.elim (fun k108 h => ?_)
  clear gg106
  obtain ⟨hP, hK, hD⟩ := h
  obtain ⟨cA, hK2, hst⟩ := st_cl (h0 := h0) (q1 := q1) (q8 := q8) (q27 := q27) (q48 := q48) (q71 := q71) (q89 := q89) (q104 := q104) (q2 := q2) (q3 := q3) (q4 := q4) (q9 := q9) (q10 := q10) (q11 := q11) (q12 := q12) (q13 := q13) (q14 := q14) (q15 := q15) (q16 := q16) (q17 := q17) (q28 := q28) (q29 := q29) (q30 := q30) (q31 := q31) (q32 := q32) (q33 := q33) (q34 := q34) (q35 := q35) (q36 := q36) (q37 := q37) (q49 := q49) (q50 := q50) (q51 := q51) (q52 := q52) (q53 := q53) (q54 := q54) (q55 := q55) (q56 := q56) (q57 := q57) (q58 := q58) (q59 := q59) (q72 := q72) (q73 := q73) (q74 := q74) (q75 := q75) (q76 := q76) (q77 := q77) (q78 := q78) (q79 := q79) (q90 := q90) (q91 := q91) (q92 := q92) (q93 := q93) (q94 := q94) (q95 := q95) (q96 := q96) (q105 := q105) (q106 := q106) (g88 := g88) hcB hK
  exact ⟨_, cA, g88, hP, hK2, hD, hst⟩
-- the law from its first step
set_option maxHeartbeats 8000000 in
set_option maxRecDepth 100000 in
theorem whole_start {p : Program} {e : Env} {s : State} {m : MethodId} {below : List Frame} {meth : Method} {c : Code} (l : Launch) {b L : Nat} {xs : Nat → Int32} (hL : L ≤ 3584) (C0 : lw_At p s m meth c b L xs) : W p l e room_1 s m #[Value.ref b] below meth c s.heap [] 0 0 (lw_Z below #[Value.ref b] s) (entryFrame m ([Value.ref b] : List Value).toArray 4) := by
  obtain ⟨hx, hb, hr, hml, hown, hts, hX, hbl, hlocks, hgv⟩ := id C0
  have hb : c.code = cL_law := hb
  have hown : s.vm.findClass RL = some m.cls := hown
  have ht : ∀ w ∈ lw_g, w.before #[Value.ref b] s = true := fun w h => hts w (List.mem_filter.mp h).1
  have hA : ∀ q : Nat, s.heap.size ≤ q → LA_ s q := fun _ h => h
  have hE : ex_E s := lx_E hts
  obtain ⟨ad0, hse⟩ := lx_se hts hgv
  obtain ⟨cB, hcB⟩ := ar_b (ht _ kw_1770)
  obtain ⟨dC, dI, hKc⟩ := lx_K (s := s) ht
  have hS : va_S (LA_ s) s.heap s.heap [] := va_S.rf
  have hK : va_K (dC, dI) vwCl [] s := ⟨hKc, fun k q h => by simp at h⟩
  have hP : va_P (dC, dI) vwCl [] s.heap := fun k q h => by simp at h
  have hD : va_D (LA_ s) [] := ⟨fun i j p q h => by simp at h, fun k q h => by simp at h⟩
  have hl := lv_entry ([.ref b]) (n := 4) (Nat.le_of_ble_eq_true rfl)
  rw [lg_entry_eq]
  generalize (lg_sl ([.ref b]) ++ List.replicate (4 - (lg_sl ([.ref b])).length) Slot.unset).toArray = ls at hl ⊢
  have hl : lv_has ls 4 [(0, .ref b)] := hl
  refine va_new (ci := 10) (fs := [.null, .null, .null, .null, .null, .null, .null]) (C := RX10) (T := TX10) (N := 7) hx hb ht inX10 tyX10 tyX10_ok hown (ht _ kw_21) (ht _ kw_22) (ht _ kw_1) hK hP hD hS hA rfl nf_X10 (Nat.le_of_ble_eq_true rfl) (Nat.le_of_ble_eq_true rfl) (show decode cL_law 0 = .ok (.new 7, 3) by decide +kernel) (fun h0 H hP hD hS => ?_)
  have hP : va_P (dC, dI) vwCl [(h0, .inr (10, [.null, .null, .null, .null, .null, .null, .null]))] H := hP
  have hD : va_D (LA_ s) [(h0, .inr (10, [.null, .null, .null, .null, .null, .null, .null]))] := hD
  refine W.widen (k := 1) (n := 7) (Nat.le_of_ble_eq_true rfl) (Nat.le_of_ble_eq_true rfl) ?_
  refine lv_dup hx hb (show decode cL_law 3 = .ok (.dup, 1) by decide +kernel) rfl ?_
  have hFc := va_free (wc := [(h0, .inr (10, [.null, .null, .null, .null, .null, .null, .null]))]) hD hS hA [0] rfl
  refine va_callv (va_runI (As := []) (rest := [.ref h0]) ⟨hx, hb, hml, hown, ht⟩ (ct_X10_init l dC dI h0 _ ) (cwI 0 ht gc_X10_init rfl rfl rfl (ht _ kw_1) (ht _ kw_23) (ht _ kw_24) rfl (by decide +kernel) ⟨Nat.le_of_ble_eq_true rfl, Nat.le_of_ble_eq_true rfl⟩) ⟨ro_blind, fun U hU hW => ⟨rfl, by rw [hU], by rw [hU]; exact hP, va_K.moved hW.alike hK, hD.weaken (fun _ _ _ _ => trivial), ex_warm hW hE⟩⟩ rfl rfl hl.1 rfl (lv_room (Nat.le_of_ble_eq_true rfl)) (show decode cL_law 4 = .ok (.invokespecial 9, 3) by decide +kernel) ⟨Nat.le_of_ble_eq_true rfl, Nat.le_of_ble_eq_true rfl⟩) hS (fun q _ h => hFc q h) hFc (fun u t H1 locs ht1 hvm hw hB hz1 hk1 hS => ?_)
  obtain ⟨w1, cA, g, hP1, hK, hD1, hst⟩ := x10_go ⟨arrOfT_moved hvm hcB.1, hcB.2.moved hvm⟩ (x10_el hB)
  rw [ht1] at hP1
  have hK := va_K.moved hvm.symm hK
  have hj := va_join (wc := [(h0, .inr (10, [.null, .null, .null, .null, .null, .null, .null]))]) (wr := []) (w1 := w1) hP hD [0] [] rfl rfl (by decide) (by decide) hk1 hFc hP1 hD1
  refine W.widen (k := 58) (n := 6329) (Nat.le_of_ble_eq_true rfl) (Nat.le_of_ble_eq_true rfl) ?_
  exact ws_b l hL C0 w1 hK hse hj.1 hj.2 hS hst hl
-- the claim
set_option maxHeartbeats 4000000 in
theorem lw_walk (l : Launch) (b : Addr) (xs : List Int32) : MetFree l x (headSpec (Jvm.Cond.code x code maxLocals ret :: tables_1) room_1) (lw_P b xs) (fun _ _ _ _ _ => True) lw_Q := by
  refine MetFree.of_bodyS (code := code) (maxLocals := maxLocals) (ret := ret) (by decide) ?_ ?_
  · intro args s m h hn
    obtain ⟨meth, c, h1, h2, h3, h4, h5, h6, -, -⟩ := Cond.code_spec hn (atoms_spec (ws := Jvm.Cond.code x code maxLocals ret :: tables_1) h _ List.mem_cons_self)
    exact ⟨meth, c, h1, h2, h3, h4, h5, h6⟩
  · intro p e s m args below meth c s₁ B hml0 hP _
    obtain ⟨rfl, hx, hbd, hgv⟩ := hP
    obtain ⟨scr, harrAt, hlist, hof, hsmall⟩ := hx
    obtain ⟨hcb, hkn, -, -⟩ := State.arrayAt?_spec harrAt
    have hown : s.vm.findClass R_law = some m.cls := findClass_of_methodNamed B.named
    have hts0 : ∀ c ∈ (Jvm.Cond.code x code maxLocals ret :: tables_1), c.before #[Value.ref b] s = true := atoms_spec (ws := Jvm.Cond.code x code maxLocals ret :: tables_1) B.pre
    have hts : ∀ w ∈ lw_tbl, w.before #[Value.ref b] s = true := k2_hts_sels lw_privs (fun w hw => hts0 w (List.mem_cons_of_mem _ hw)) lw_privs_ok
    have hml : c.maxLocals = 4 := B.maxLocals_eq (hts0 _ List.mem_cons_self)
    have X₀ : Stand p l e room_1 s m #[Value.ref b] below meth c s₁ [] 0 0 := Stand.of_body B
    have hh0 : s₁.heap = s.heap := by rw [B.state]; rfl
    have hsz : scr.slots.size = xs.length := by rw [← Array.length_toList, hlist, List.length_map]
    have hval : ∀ j : Nat, j < xs.length → scr.slots[j]? = some (.int (xs.getD j 0)) := fun j hj => by
      rw [← Array.getElem?_toList, hlist]
      simp [hj]
    have hbl : b < s.heap.size := (Array.getElem?_eq_some_iff.mp hcb).1
    have hX : va_X b xs.length (fun j => xs.getD j 0) s s.heap := ⟨scr, hcb, hof, hkn, hsz, hval⟩
    have K : W p l e room_1 s m #[Value.ref b] below meth c s₁.heap [] 0 0 (lw_Z below #[Value.ref b] s) (entryFrame m ([Value.ref b] : List Value).toArray 4) := by
      rw [hh0]
      exact whole_start l hbd ⟨B.exec, B.bytes, B.returns, hml, hown, hts, hX, hbl, B.notSynchronized, hgv⟩
    obtain ⟨t, a1, o, b1, b2, b3⟩ := K s₁ rfl X₀
    exact ⟨t, o, a1, b1, b2, b3⟩
theorem lw_pre_spec {args : Array Value} {s : State} (h : (Jvm.Cond.and given_1 narrow_1).before args s = true) (hr : rest_1_c.before args s = true) : ∃ (b : Addr) (xs : List Int32), lw_P b xs args s := by
  have hs := flat_of_before _ h
  have hq := flat_of_before _ hr
  have hc : (Cond.count 1).before args s = true := hs _ (by decide +kernel)
  have harr : (Cond.arrayOf (.arg 0) .int).before args s = true := hs _ (by decide +kernel)
  have hle : (Cond.le (.length (.arg 0)) (.int 3584)).before args s = true := hs _ (by decide +kernel)
  have hlen : (Cond.isInt (.length (.arg 0))).before args s = true := hq _ (by decide +kernel)
  have hall : (Cond.all (.arg 0) (.isInt (.elem (.arg 0) (.index 0)))).before args s = true := hq _ (by decide +kernel)
  obtain ⟨b, xs, hb, hx⟩ := State.ints_of_pre rfl harr hlen hall
  have hsm : xs.length < 2 ^ 31 := hx.choose_spec.2.2.2
  have hev : (Term.length (.arg 0)).eval args s none [] s = some (.int xs.length.toInt32) := hx.length_eval hb
  have hv := Cond.le_ints hev (show (Term.int 3584).eval args s none [] s = some (.int 3584) from rfl)
  have hd : xs.length.toInt32 ≤ 3584 := by
    simpa [Cond.before, Cond.holds, hv] using hle
  have hN : xs.length ≤ 3584 := (Int32.ofNat_le_ofNat hsm (by decide)).mp (show Int32.ofNat xs.length ≤ Int32.ofNat 3584 from hd)
  exact ⟨b, xs, Cond.one_arg hc (show args[0]? = some (.ref b) from hb), hx, hN, h⟩
theorem lw_comes (l : Launch) : Comes l x (Jvm.Cond.code x code maxLocals ret :: tables_1) room_1 (fun tb e args s => Calls_1 tb e args s ∧ rest_1 tb e args s ∧ Pre_1 tb e args s)
    (fun _ _ args s o t => lw_Q args s o t) := by
  intro p e ha hc hk s m args below hf hfit hheap happ hpre
  obtain ⟨b, xs, hP⟩ := lw_pre_spec hpre.2.2 hpre.2.1
  obtain ⟨k, o, h1, h2, h3, hQ⟩ := lw_walk l b xs p e ha hc hk s m args below hf ((Spec.applies_iff_loose hf).mp happ).1 hP trivial
  exact ⟨k, o, h1, h2, h3, hQ⟩
theorem lw_frame {s t : State} {o : Outcome} {args : Array Value} (h : Framed s o t [] 600000 7302250) :
    Framed s o t (fieldLocs frame_1_writes args s ++ arrayLocs frame_1_arrays args s ++ staticLocs frame_1_statics s) 600000 7302250 := h
theorem lw_limb (L : Cond) (hL : ∀ (args : Array Value) (s t : State), L.after args s (.returned (some (.int 1))) t = true) :
    ArmFor flags0 classFile x code maxLocals ret World_1 tables_1 room_1 Calls_1 rest_1 Pre_1
      (fun tb e a s o t => postC L tb e a s o t ∧ Framed s o t (fieldLocs frame_1_writes a s ++ arrayLocs frame_1_arrays a s ++ staticLocs frame_1_statics s) 600000 7302250) := by
  intro l _ _ _ p e ha hc hk s m args below hf hfit hheap happ hpre
  obtain ⟨k, o, h1, h2, h3, rfl, hF⟩ := lw_comes l p e ha hc hk s m args below hf hfit hheap happ hpre
  exact ⟨k, _, h1, h2, h3, hL args s _, lw_frame hF⟩
theorem i_vc : Claimed_1_1 ∧ Claimed_1_2 := ⟨lw_limb limb_1_1 (fun args s t => by simp [limb_1_1, Cond.after, Cond.holds, Cond.value]), lw_limb limb_1_2 (fun args s t => Cond.after_iff.mpr (by
  first | (rw [show limb_1_2 = Cond.eq .result (.int 1) from rfl, Cond.eq_ints (x := 1) (y := 1) rfl rfl]; simp; done) | (simp [limb_1_2, Cond.value, Term.eval]; done)))⟩
