def fX0 : Zf := ([(15, 0, 4), (34, 0, 5), (22, 0, 1)], [], [], [])
set_option maxRecDepth 100000 in
set_option maxHeartbeats 4000000 in
theorem tg_X0 : ∀ q ∈ fX0.1, fl_ RX0 q.1 q.2.1 q.2.2 := List.forall_mem_cons.mpr ⟨⟨RX0, TX0, 9, rfl, by decide, rfl, lwq_3 (dqc_m (dqc_m (dqc_m (List.mem_of_getElem? (i := 0) rfl)))) rfl⟩, List.forall_mem_cons.mpr ⟨⟨RX0, TX0, 9, rfl, by decide, rfl, lwq_3 (dqc_m (dqc_m (dqc_m (List.mem_of_getElem? (i := 4) rfl)))) rfl⟩, List.forall_mem_cons.mpr ⟨⟨RX0, TX0, 9, rfl, by decide, rfl, lwq_3 (dqc_m (dqc_m (dqa_m (dqa_m (List.mem_of_getElem? (i := 2) rfl))))) rfl⟩, fun _ h => absurd h List.not_mem_nil⟩⟩⟩
set_option maxRecDepth 100000 in
set_option maxHeartbeats 4000000 in
theorem tp_X0 : ∀ q ∈ fX0.2.1, fp_ RX0 q.1 q.2.1 q.2.2 := fun _ h => absurd h List.not_mem_nil
theorem tb_X0 : tb_ RX0 fX0 := ⟨tg_X0, tp_X0, fun _ h => absurd h List.not_mem_nil, fun _ h => absurd h List.not_mem_nil⟩
def fX1 : Zf := ([(9, 1, 8), (15, 1, 9), (18, 1, 10), (44, 1, 3), (50, 1, 7), (21, 1, 11), (27, 1, 14), (30, 1, 15), (24, 1, 12), (60, 1, 13), (33, 1, 0), (63, 8, 1), (37, 1, 1), (41, 1, 2), (72, 1, 6), (47, 1, 4), (81, 1, 5)], [(37, 1, 1), (41, 1, 2), (44, 1, 3), (47, 1, 4), (50, 1, 7), (60, 1, 13), (72, 1, 6), (81, 1, 5)], [(80, 1000000), (84, 1664525), (85, 1013904223)], [(78, 2147483648)])
set_option maxRecDepth 100000 in
set_option maxHeartbeats 4000000 in
theorem tg_X1 : ∀ q ∈ fX1.1, fl_ RX1 q.1 q.2.1 q.2.2 := List.forall_mem_cons.mpr ⟨⟨RX1, TX1, 16, rfl, by decide, rfl, lwq_2 (dqc_m (dqc_m (dqc_m (List.mem_of_getElem? (i := 3) rfl)))) rfl⟩, List.forall_mem_cons.mpr ⟨⟨RX1, TX1, 16, rfl, by decide, rfl, lwq_2 (dqc_m (dqc_m (dqc_m (List.mem_of_getElem? (i := 5) rfl)))) rfl⟩, List.forall_mem_cons.mpr ⟨⟨RX1, TX1, 16, rfl, by decide, rfl, lwq_2 (dqc_m (dqc_m (dqc_m (List.mem_of_getElem? (i := 7) rfl)))) rfl⟩, List.forall_mem_cons.mpr ⟨⟨RX1, TX1, 16, rfl, by decide, rfl, lwq_2 (dqc_m (dqc_m (dqa_m (dqa_m (dqa_m (List.mem_of_getElem? (i := 2) rfl)))))) rfl⟩, List.forall_mem_cons.mpr ⟨⟨RX1, TX1, 16, rfl, by decide, rfl, lwq_2 (dqc_m (dqc_m (dqc_m (List.mem_of_getElem? (i := 2) rfl)))) rfl⟩, List.forall_mem_cons.mpr ⟨⟨RX1, TX1, 16, rfl, by decide, rfl, lwq_2 (dqc_m (dqc_m (dqc_m (dqa_m (List.mem_of_getElem? (i := 1) rfl))))) rfl⟩, List.forall_mem_cons.mpr ⟨⟨RX1, TX1, 16, rfl, by decide, rfl, lwq_2 (dqc_m (dqc_m (dqc_m (dqa_m (List.mem_of_getElem? (i := 4) rfl))))) rfl⟩, List.forall_mem_cons.mpr ⟨⟨RX1, TX1, 16, rfl, by decide, rfl, lwq_2 (dqc_m (dqc_m (dqc_m (dqa_m (List.mem_of_getElem? (i := 5) rfl))))) rfl⟩, List.forall_mem_cons.mpr ⟨⟨RX1, TX1, 16, rfl, by decide, rfl, lwq_2 (dqc_m (dqc_m (dqc_m (dqa_m (List.mem_of_getElem? (i := 2) rfl))))) rfl⟩, List.forall_mem_cons.mpr ⟨⟨RX1, TX1, 16, rfl, by decide, rfl, lwq_2 (dqc_m (dqc_m (dqc_m (dqa_m (List.mem_of_getElem? (i := 3) rfl))))) rfl⟩, List.forall_mem_cons.mpr ⟨⟨RX1, TX1, 16, rfl, by decide, rfl, lwq_2 (dqc_m (dqc_m (dqa_m (dqa_m (List.mem_of_getElem? (i := 6) rfl))))) rfl⟩, List.forall_mem_cons.mpr ⟨⟨RX8, TX8, 14, rfl, by decide, rfl, lwq_1 (dqc_m (dqc_m (dqa_m (dqa_m (List.mem_of_getElem? (i := 4) rfl))))) rfl⟩, List.forall_mem_cons.mpr ⟨⟨RX1, TX1, 16, rfl, by decide, rfl, lwq_2 (dqc_m (dqc_m (dqa_m (dqa_m (List.mem_of_getElem? (i := 7) rfl))))) rfl⟩, List.forall_mem_cons.mpr ⟨⟨RX1, TX1, 16, rfl, by decide, rfl, lwq_2 (dqc_m (dqc_m (dqa_m (dqa_m (dqa_m (List.mem_of_getElem? (i := 1) rfl)))))) rfl⟩, List.forall_mem_cons.mpr ⟨⟨RX1, TX1, 16, rfl, by decide, rfl, lwq_2 (dqc_m (dqc_m (dqc_m (List.mem_of_getElem? (i := 0) rfl)))) rfl⟩, List.forall_mem_cons.mpr ⟨⟨RX1, TX1, 16, rfl, by decide, rfl, lwq_2 (dqc_m (dqc_m (dqa_m (dqa_m (dqa_m (List.mem_of_getElem? (i := 4) rfl)))))) rfl⟩, List.forall_mem_cons.mpr ⟨⟨RX1, TX1, 16, rfl, by decide, rfl, lwq_2 (dqc_m (dqc_m (dqa_m (dqa_m (dqa_m (List.mem_of_getElem? (i := 6) rfl)))))) rfl⟩, fun _ h => absurd h List.not_mem_nil⟩⟩⟩⟩⟩⟩⟩⟩⟩⟩⟩⟩⟩⟩⟩⟩⟩
set_option maxRecDepth 100000 in
set_option maxHeartbeats 4000000 in
theorem tp_X1 : ∀ q ∈ fX1.2.1, fp_ RX1 q.1 q.2.1 q.2.2 := List.forall_mem_cons.mpr ⟨⟨RX1, TX1, 16, rfl, by decide, rfl, lwq_2 (dqc_m (dqc_m (dqa_m (dqa_m (List.mem_of_getElem? (i := 7) rfl))))) rfl, by decide +kernel, Or.inl (by decide +kernel)⟩, List.forall_mem_cons.mpr ⟨⟨RX1, TX1, 16, rfl, by decide, rfl, lwq_2 (dqc_m (dqc_m (dqa_m (dqa_m (dqa_m (List.mem_of_getElem? (i := 1) rfl)))))) rfl, by decide +kernel, Or.inl (by decide +kernel)⟩, List.forall_mem_cons.mpr ⟨⟨RX1, TX1, 16, rfl, by decide, rfl, lwq_2 (dqc_m (dqc_m (dqa_m (dqa_m (dqa_m (List.mem_of_getElem? (i := 2) rfl)))))) rfl, by decide +kernel, Or.inl (by decide +kernel)⟩, List.forall_mem_cons.mpr ⟨⟨RX1, TX1, 16, rfl, by decide, rfl, lwq_2 (dqc_m (dqc_m (dqa_m (dqa_m (dqa_m (List.mem_of_getElem? (i := 4) rfl)))))) rfl, by decide +kernel, Or.inl (by decide +kernel)⟩, List.forall_mem_cons.mpr ⟨⟨RX1, TX1, 16, rfl, by decide, rfl, lwq_2 (dqc_m (dqc_m (dqc_m (List.mem_of_getElem? (i := 2) rfl)))) rfl, by decide +kernel, Or.inr ⟨by decide +kernel, 0, by decide +kernel⟩⟩, List.forall_mem_cons.mpr ⟨⟨RX1, TX1, 16, rfl, by decide, rfl, lwq_2 (dqc_m (dqc_m (dqc_m (dqa_m (List.mem_of_getElem? (i := 3) rfl))))) rfl, by decide +kernel, Or.inl (by decide +kernel)⟩, List.forall_mem_cons.mpr ⟨⟨RX1, TX1, 16, rfl, by decide, rfl, lwq_2 (dqc_m (dqc_m (dqc_m (List.mem_of_getElem? (i := 0) rfl)))) rfl, by decide +kernel, Or.inl (by decide +kernel)⟩, List.forall_mem_cons.mpr ⟨⟨RX1, TX1, 16, rfl, by decide, rfl, lwq_2 (dqc_m (dqc_m (dqa_m (dqa_m (dqa_m (List.mem_of_getElem? (i := 6) rfl)))))) rfl, by decide +kernel, Or.inl (by decide +kernel)⟩, fun _ h => absurd h List.not_mem_nil⟩⟩⟩⟩⟩⟩⟩⟩
theorem tb_X1 : tb_ RX1 fX1 := ⟨tg_X1, tp_X1, List.forall_mem_cons.mpr ⟨⟨lwq_6 (dqc_m (dqc_m (dqc_m (dqc_m (dqc_m (dqa_m (List.mem_of_getElem? (i := 3) rfl))))))) rfl, by decide, by decide⟩, List.forall_mem_cons.mpr ⟨⟨lwq_6 (dqc_m (dqc_m (dqc_m (dqc_m (dqc_m (dqa_m (List.mem_of_getElem? (i := 4) rfl))))))) rfl, by decide, by decide⟩, List.forall_mem_cons.mpr ⟨⟨lwq_6 (dqc_m (dqc_m (dqc_m (dqc_m (dqc_m (dqa_m (List.mem_of_getElem? (i := 5) rfl))))))) rfl, by decide, by decide⟩, fun _ h => absurd h List.not_mem_nil⟩⟩⟩, List.forall_mem_cons.mpr ⟨⟨lwq_6 (dqc_m (dqc_m (dqc_m (dqc_m (dqc_m (dqa_m (List.mem_of_getElem? (i := 2) rfl))))))) rfl, by decide, by decide⟩, fun _ h => absurd h List.not_mem_nil⟩⟩
def fX2 : Zf := ([(9, 2, 6), (44, 2, 10), (48, 3, 3), (25, 2, 0), (58, 0, 1), (63, 3, 8), (35, 2, 3), (38, 2, 4), (22, 2, 9), (18, 2, 8)], [(9, 2, 6), (15, 2, 7), (41, 2, 5)], [], [])
set_option maxRecDepth 100000 in
set_option maxHeartbeats 4000000 in
theorem tg_X2 : ∀ q ∈ fX2.1, fl_ RX2 q.1 q.2.1 q.2.2 := List.forall_mem_cons.mpr ⟨⟨RX2, TX2, 11, rfl, by decide, rfl, lwq_4 (dqa_m (List.mem_of_getElem? (i := 3) rfl)) rfl⟩, List.forall_mem_cons.mpr ⟨⟨RX2, TX2, 11, rfl, by decide, rfl, lwq_4 (dqa_m (dqa_m (List.mem_of_getElem? (i := 6) rfl))) rfl⟩, List.forall_mem_cons.mpr ⟨⟨RX3, TX3, 18, rfl, by decide, rfl, lwq_4 (dqc_m (dqc_m (dqc_m (dqc_m (dqc_m (dqa_m (dqa_m (dqa_m (List.mem_of_getElem? (i := 5) rfl))))))))) rfl⟩, List.forall_mem_cons.mpr ⟨⟨RX2, TX2, 11, rfl, by decide, rfl, lwq_3 (dqc_m (dqc_m (dqc_m (dqc_m (dqc_m (dqc_m (dqc_m (List.mem_of_getElem? (i := 2) rfl)))))))) rfl⟩, List.forall_mem_cons.mpr ⟨⟨RX0, TX0, 9, rfl, by decide, rfl, lwq_3 (dqc_m (dqc_m (dqa_m (dqa_m (List.mem_of_getElem? (i := 5) rfl))))) rfl⟩, List.forall_mem_cons.mpr ⟨⟨RX3, TX3, 18, rfl, by decide, rfl, lwq_4 (dqc_m (dqc_m (dqc_m (dqc_m (dqc_m (dqc_m (List.mem_of_getElem? (i := 7) rfl))))))) rfl⟩, List.forall_mem_cons.mpr ⟨⟨RX2, TX2, 11, rfl, by decide, rfl, lwq_3 (dqc_m (dqc_m (dqc_m (dqc_m (dqc_m (dqc_m (dqc_m (dqa_m (List.mem_of_getElem? (i := 2) rfl))))))))) rfl⟩, List.forall_mem_cons.mpr ⟨⟨RX2, TX2, 11, rfl, by decide, rfl, lwq_4 (List.mem_of_getElem? (i := 0) rfl) rfl⟩, List.forall_mem_cons.mpr ⟨⟨RX2, TX2, 11, rfl, by decide, rfl, lwq_4 (dqa_m (dqa_m (List.mem_of_getElem? (i := 3) rfl))) rfl⟩, List.forall_mem_cons.mpr ⟨⟨RX2, TX2, 11, rfl, by decide, rfl, lwq_4 (dqa_m (dqa_m (List.mem_of_getElem? (i := 1) rfl))) rfl⟩, fun _ h => absurd h List.not_mem_nil⟩⟩⟩⟩⟩⟩⟩⟩⟩⟩
set_option maxRecDepth 100000 in
set_option maxHeartbeats 4000000 in
theorem tp_X2 : ∀ q ∈ fX2.2.1, fp_ RX2 q.1 q.2.1 q.2.2 := List.forall_mem_cons.mpr ⟨⟨RX2, TX2, 11, rfl, by decide, rfl, lwq_4 (dqa_m (List.mem_of_getElem? (i := 3) rfl)) rfl, by decide +kernel, Or.inl (by decide +kernel)⟩, List.forall_mem_cons.mpr ⟨⟨RX2, TX2, 11, rfl, by decide, rfl, lwq_4 (dqa_m (List.mem_of_getElem? (i := 6) rfl)) rfl, by decide +kernel, Or.inl (by decide +kernel)⟩, List.forall_mem_cons.mpr ⟨⟨RX2, TX2, 11, rfl, by decide, rfl, lwq_4 (List.mem_of_getElem? (i := 6) rfl) rfl, by decide +kernel, Or.inl (by decide +kernel)⟩, fun _ h => absurd h List.not_mem_nil⟩⟩⟩
theorem tb_X2 : tb_ RX2 fX2 := ⟨tg_X2, tp_X2, fun _ h => absurd h List.not_mem_nil, fun _ h => absurd h List.not_mem_nil⟩
def fX3 : Zf := ([(42, 3, 0), (9, 3, 6), (15, 3, 7), (18, 3, 8), (21, 3, 9), (30, 3, 12), (33, 3, 13), (24, 3, 10), (27, 3, 11), (45, 3, 1), (51, 3, 3), (55, 3, 4), (59, 3, 5), (48, 3, 2), (154, 3, 15), (36, 3, 14), (165, 3, 17), (39, 3, 16)], [(51, 3, 3), (55, 3, 4), (59, 3, 5), (154, 3, 15), (165, 3, 17)], [], [])
set_option maxRecDepth 100000 in
set_option maxHeartbeats 4000000 in
theorem tg_X3 : ∀ q ∈ fX3.1, fl_ RX3 q.1 q.2.1 q.2.2 := List.forall_mem_cons.mpr ⟨⟨RX3, TX3, 18, rfl, by decide, rfl, lwq_4 (dqc_m (dqc_m (dqc_m (dqc_m (dqc_m (dqa_m (dqa_m (dqa_m (List.mem_of_getElem? (i := 1) rfl))))))))) rfl⟩, List.forall_mem_cons.mpr ⟨⟨RX3, TX3, 18, rfl, by decide, rfl, lwq_4 (dqc_m (dqc_m (dqc_m (dqc_m (dqc_m (dqc_m (List.mem_of_getElem? (i := 2) rfl))))))) rfl⟩, List.forall_mem_cons.mpr ⟨⟨RX3, TX3, 18, rfl, by decide, rfl, lwq_4 (dqc_m (dqc_m (dqc_m (dqc_m (dqc_m (dqc_m (List.mem_of_getElem? (i := 4) rfl))))))) rfl⟩, List.forall_mem_cons.mpr ⟨⟨RX3, TX3, 18, rfl, by decide, rfl, lwq_4 (dqc_m (dqc_m (dqc_m (dqc_m (dqc_m (dqc_m (List.mem_of_getElem? (i := 6) rfl))))))) rfl⟩, List.forall_mem_cons.mpr ⟨⟨RX3, TX3, 18, rfl, by decide, rfl, lwq_4 (dqc_m (dqc_m (dqc_m (dqc_m (dqc_m (dqc_m (dqa_m (List.mem_of_getElem? (i := 0) rfl)))))))) rfl⟩, List.forall_mem_cons.mpr ⟨⟨RX3, TX3, 18, rfl, by decide, rfl, lwq_4 (dqc_m (dqc_m (dqc_m (dqc_m (dqc_m (dqc_m (dqa_m (List.mem_of_getElem? (i := 5) rfl)))))))) rfl⟩, List.forall_mem_cons.mpr ⟨⟨RX3, TX3, 18, rfl, by decide, rfl, lwq_4 (dqc_m (dqc_m (dqc_m (dqc_m (dqc_m (dqc_m (dqa_m (List.mem_of_getElem? (i := 6) rfl)))))))) rfl⟩, List.forall_mem_cons.mpr ⟨⟨RX3, TX3, 18, rfl, by decide, rfl, lwq_4 (dqc_m (dqc_m (dqc_m (dqc_m (dqc_m (dqc_m (dqa_m (List.mem_of_getElem? (i := 2) rfl)))))))) rfl⟩, List.forall_mem_cons.mpr ⟨⟨RX3, TX3, 18, rfl, by decide, rfl, lwq_4 (dqc_m (dqc_m (dqc_m (dqc_m (dqc_m (dqc_m (dqa_m (List.mem_of_getElem? (i := 4) rfl)))))))) rfl⟩, List.forall_mem_cons.mpr ⟨⟨RX3, TX3, 18, rfl, by decide, rfl, lwq_4 (dqc_m (dqc_m (dqc_m (dqc_m (dqc_m (dqa_m (dqa_m (dqa_m (List.mem_of_getElem? (i := 2) rfl))))))))) rfl⟩, List.forall_mem_cons.mpr ⟨⟨RX3, TX3, 18, rfl, by decide, rfl, lwq_4 (dqc_m (dqc_m (dqc_m (dqc_m (dqc_m (dqa_m (dqa_m (dqa_m (List.mem_of_getElem? (i := 4) rfl))))))))) rfl⟩, List.forall_mem_cons.mpr ⟨⟨RX3, TX3, 18, rfl, by decide, rfl, lwq_4 (dqc_m (dqc_m (dqc_m (dqc_m (dqc_m (dqa_m (dqa_m (dqa_m (List.mem_of_getElem? (i := 6) rfl))))))))) rfl⟩, List.forall_mem_cons.mpr ⟨⟨RX3, TX3, 18, rfl, by decide, rfl, lwq_4 (dqc_m (dqc_m (dqc_m (dqc_m (dqc_m (dqc_m (List.mem_of_getElem? (i := 0) rfl))))))) rfl⟩, List.forall_mem_cons.mpr ⟨⟨RX3, TX3, 18, rfl, by decide, rfl, lwq_4 (dqc_m (dqc_m (dqc_m (dqc_m (dqc_m (dqa_m (dqa_m (dqa_m (List.mem_of_getElem? (i := 3) rfl))))))))) rfl⟩, List.forall_mem_cons.mpr ⟨⟨RX3, TX3, 18, rfl, by decide, rfl, lwq_4 (dqc_m (dqc_m (dqc_m (dqc_m (dqc_m (dqc_m (dqa_m (dqa_m (List.mem_of_getElem? (i := 4) rfl))))))))) rfl⟩, List.forall_mem_cons.mpr ⟨⟨RX3, TX3, 18, rfl, by decide, rfl, lwq_4 (dqc_m (dqc_m (dqc_m (dqc_m (dqc_m (dqc_m (dqa_m (dqa_m (List.mem_of_getElem? (i := 1) rfl))))))))) rfl⟩, List.forall_mem_cons.mpr ⟨⟨RX3, TX3, 18, rfl, by decide, rfl, lwq_4 (dqc_m (dqc_m (dqc_m (dqc_m (dqc_m (dqc_m (dqa_m (dqa_m (dqa_m (List.mem_of_getElem? (i := 0) rfl)))))))))) rfl⟩, List.forall_mem_cons.mpr ⟨⟨RX3, TX3, 18, rfl, by decide, rfl, lwq_4 (dqc_m (dqc_m (dqc_m (dqc_m (dqc_m (dqc_m (dqa_m (dqa_m (List.mem_of_getElem? (i := 5) rfl))))))))) rfl⟩, fun _ h => absurd h List.not_mem_nil⟩⟩⟩⟩⟩⟩⟩⟩⟩⟩⟩⟩⟩⟩⟩⟩⟩⟩
set_option maxRecDepth 100000 in
set_option maxHeartbeats 4000000 in
theorem tp_X3 : ∀ q ∈ fX3.2.1, fp_ RX3 q.1 q.2.1 q.2.2 := List.forall_mem_cons.mpr ⟨⟨RX3, TX3, 18, rfl, by decide, rfl, lwq_4 (dqc_m (dqc_m (dqc_m (dqc_m (dqc_m (dqa_m (dqa_m (dqa_m (List.mem_of_getElem? (i := 4) rfl))))))))) rfl, by decide +kernel, Or.inr ⟨by decide +kernel, 0, by decide +kernel⟩⟩, List.forall_mem_cons.mpr ⟨⟨RX3, TX3, 18, rfl, by decide, rfl, lwq_4 (dqc_m (dqc_m (dqc_m (dqc_m (dqc_m (dqa_m (dqa_m (dqa_m (List.mem_of_getElem? (i := 6) rfl))))))))) rfl, by decide +kernel, Or.inl (by decide +kernel)⟩, List.forall_mem_cons.mpr ⟨⟨RX3, TX3, 18, rfl, by decide, rfl, lwq_4 (dqc_m (dqc_m (dqc_m (dqc_m (dqc_m (dqc_m (List.mem_of_getElem? (i := 0) rfl))))))) rfl, by decide +kernel, Or.inl (by decide +kernel)⟩, List.forall_mem_cons.mpr ⟨⟨RX3, TX3, 18, rfl, by decide, rfl, lwq_4 (dqc_m (dqc_m (dqc_m (dqc_m (dqc_m (dqc_m (dqa_m (dqa_m (List.mem_of_getElem? (i := 4) rfl))))))))) rfl, by decide +kernel, Or.inl (by decide +kernel)⟩, List.forall_mem_cons.mpr ⟨⟨RX3, TX3, 18, rfl, by decide, rfl, lwq_4 (dqc_m (dqc_m (dqc_m (dqc_m (dqc_m (dqc_m (dqa_m (dqa_m (dqa_m (List.mem_of_getElem? (i := 0) rfl)))))))))) rfl, by decide +kernel, Or.inl (by decide +kernel)⟩, fun _ h => absurd h List.not_mem_nil⟩⟩⟩⟩⟩
theorem tb_X3 : tb_ RX3 fX3 := ⟨tg_X3, tp_X3, fun _ h => absurd h List.not_mem_nil, fun _ h => absurd h List.not_mem_nil⟩
def fX4 : Zf := ([(22, 4, 1), (30, 8, 12), (39, 4, 3), (18, 4, 0), (42, 6, 3), (9, 4, 2), (57, 6, 4), (60, 2, 5), (15, 4, 4), (80, 8, 11), (83, 8, 1), (86, 2, 3), (89, 2, 4), (92, 8, 10), (95, 8, 0)], [(52, 2, 7), (39, 4, 3)], [], [])
set_option maxRecDepth 100000 in
set_option maxHeartbeats 4000000 in
theorem tg_X4 : ∀ q ∈ fX4.1, fl_ RX4 q.1 q.2.1 q.2.2 := List.forall_mem_cons.mpr ⟨⟨RX4, TX4, 5, rfl, by decide, rfl, lwq_2 (dqc_m (dqc_m (dqc_m (dqc_m (dqa_m (dqa_m (List.mem_of_getElem? (i := 6) rfl))))))) rfl⟩, List.forall_mem_cons.mpr ⟨⟨RX8, TX8, 14, rfl, by decide, rfl, lwq_1 (dqc_m (dqc_m (dqc_m (List.mem_of_getElem? (i := 7) rfl)))) rfl⟩, List.forall_mem_cons.mpr ⟨⟨RX4, TX4, 5, rfl, by decide, rfl, lwq_2 (dqc_m (dqc_m (dqc_m (dqc_m (dqa_m (dqa_m (dqa_m (List.mem_of_getElem? (i := 0) rfl)))))))) rfl⟩, List.forall_mem_cons.mpr ⟨⟨RX4, TX4, 5, rfl, by decide, rfl, lwq_2 (dqc_m (dqc_m (dqc_m (dqc_m (dqa_m (dqa_m (List.mem_of_getElem? (i := 5) rfl))))))) rfl⟩, List.forall_mem_cons.mpr ⟨⟨RX6, TX6, 16, rfl, by decide, rfl, lwq_1 (dqc_m (dqc_m (dqc_m (dqc_m (dqa_m (dqa_m (List.mem_of_getElem? (i := 7) rfl))))))) rfl⟩, List.forall_mem_cons.mpr ⟨⟨RX4, TX4, 5, rfl, by decide, rfl, lwq_2 (dqc_m (dqc_m (dqc_m (dqc_m (dqa_m (dqa_m (List.mem_of_getElem? (i := 7) rfl))))))) rfl⟩, List.forall_mem_cons.mpr ⟨⟨RX6, TX6, 16, rfl, by decide, rfl, lwq_1 (dqc_m (dqc_m (dqc_m (dqc_m (dqa_m (dqa_m (dqa_m (List.mem_of_getElem? (i := 4) rfl)))))))) rfl⟩, List.forall_mem_cons.mpr ⟨⟨RX2, TX2, 11, rfl, by decide, rfl, lwq_4 (dqa_m (List.mem_of_getElem? (i := 0) rfl)) rfl⟩, List.forall_mem_cons.mpr ⟨⟨RX4, TX4, 5, rfl, by decide, rfl, lwq_2 (dqc_m (dqc_m (dqc_m (dqc_m (dqa_m (dqa_m (dqa_m (List.mem_of_getElem? (i := 1) rfl)))))))) rfl⟩, List.forall_mem_cons.mpr ⟨⟨RX8, TX8, 14, rfl, by decide, rfl, lwq_1 (dqc_m (dqc_m (dqc_m (List.mem_of_getElem? (i := 5) rfl)))) rfl⟩, List.forall_mem_cons.mpr ⟨⟨RX8, TX8, 14, rfl, by decide, rfl, lwq_1 (dqc_m (dqc_m (dqa_m (dqa_m (List.mem_of_getElem? (i := 5) rfl))))) rfl⟩, List.forall_mem_cons.mpr ⟨⟨RX2, TX2, 11, rfl, by decide, rfl, lwq_3 (dqc_m (dqc_m (dqc_m (dqc_m (dqc_m (dqc_m (dqc_m (dqa_m (List.mem_of_getElem? (i := 6) rfl))))))))) rfl⟩, List.forall_mem_cons.mpr ⟨⟨RX2, TX2, 11, rfl, by decide, rfl, lwq_4 (List.mem_of_getElem? (i := 3) rfl) rfl⟩, List.forall_mem_cons.mpr ⟨⟨RX8, TX8, 14, rfl, by decide, rfl, lwq_1 (dqc_m (dqc_m (dqc_m (List.mem_of_getElem? (i := 2) rfl)))) rfl⟩, List.forall_mem_cons.mpr ⟨⟨RX8, TX8, 14, rfl, by decide, rfl, lwq_1 (dqc_m (dqc_m (dqa_m (dqa_m (List.mem_of_getElem? (i := 1) rfl))))) rfl⟩, fun _ h => absurd h List.not_mem_nil⟩⟩⟩⟩⟩⟩⟩⟩⟩⟩⟩⟩⟩⟩⟩
set_option maxRecDepth 100000 in
set_option maxHeartbeats 4000000 in
theorem tp_X4 : ∀ q ∈ fX4.2.1, fp_ RX4 q.1 q.2.1 q.2.2 := List.forall_mem_cons.mpr ⟨⟨RX2, TX2, 11, rfl, by decide, rfl, lwq_4 (dqa_m (List.mem_of_getElem? (i := 7) rfl)) rfl, by decide +kernel, Or.inl (by decide +kernel)⟩, List.forall_mem_cons.mpr ⟨⟨RX4, TX4, 5, rfl, by decide, rfl, lwq_2 (dqc_m (dqc_m (dqc_m (dqc_m (dqa_m (dqa_m (dqa_m (List.mem_of_getElem? (i := 0) rfl)))))))) rfl, by decide +kernel, Or.inl (by decide +kernel)⟩, fun _ h => absurd h List.not_mem_nil⟩⟩
theorem tb_X4 : tb_ RX4 fX4 := ⟨tg_X4, tp_X4, fun _ h => absurd h List.not_mem_nil, fun _ h => absurd h List.not_mem_nil⟩
def fX5 : Zf := ([(19, 5, 4), (22, 5, 5), (46, 5, 7), (28, 5, 6), (84, 5, 8), (31, 5, 9), (9, 5, 0), (102, 5, 1)], [(15, 5, 3), (25, 5, 2), (28, 5, 6), (31, 5, 9), (84, 5, 8), (46, 5, 7)], [], [])
set_option maxRecDepth 100000 in
set_option maxHeartbeats 4000000 in
theorem tg_X5 : ∀ q ∈ fX5.1, fl_ RX5 q.1 q.2.1 q.2.2 := List.forall_mem_cons.mpr ⟨⟨RX5, TX5, 10, rfl, by decide, rfl, lwq_1 (dqc_m (dqa_m (List.mem_of_getElem? (i := 3) rfl))) rfl⟩, List.forall_mem_cons.mpr ⟨⟨RX5, TX5, 10, rfl, by decide, rfl, lwq_1 (dqc_m (dqa_m (List.mem_of_getElem? (i := 5) rfl))) rfl⟩, List.forall_mem_cons.mpr ⟨⟨RX5, TX5, 10, rfl, by decide, rfl, lwq_1 (dqc_m (dqa_m (dqa_m (List.mem_of_getElem? (i := 0) rfl)))) rfl⟩, List.forall_mem_cons.mpr ⟨⟨RX5, TX5, 10, rfl, by decide, rfl, lwq_1 (dqc_m (dqa_m (List.mem_of_getElem? (i := 7) rfl))) rfl⟩, List.forall_mem_cons.mpr ⟨⟨RX5, TX5, 10, rfl, by decide, rfl, lwq_1 (dqc_m (dqa_m (dqa_m (List.mem_of_getElem? (i := 1) rfl)))) rfl⟩, List.forall_mem_cons.mpr ⟨⟨RX5, TX5, 10, rfl, by decide, rfl, lwq_1 (dqc_m (dqa_m (dqa_m (List.mem_of_getElem? (i := 2) rfl)))) rfl⟩, List.forall_mem_cons.mpr ⟨⟨RX5, TX5, 10, rfl, by decide, rfl, lwq_1 (dqc_m (List.mem_of_getElem? (i := 3) rfl)) rfl⟩, List.forall_mem_cons.mpr ⟨⟨RX5, TX5, 10, rfl, by decide, rfl, lwq_1 (dqc_m (List.mem_of_getElem? (i := 6) rfl)) rfl⟩, fun _ h => absurd h List.not_mem_nil⟩⟩⟩⟩⟩⟩⟩⟩
set_option maxRecDepth 100000 in
set_option maxHeartbeats 4000000 in
theorem tp_X5 : ∀ q ∈ fX5.2.1, fp_ RX5 q.1 q.2.1 q.2.2 := List.forall_mem_cons.mpr ⟨⟨RX5, TX5, 10, rfl, by decide, rfl, lwq_1 (dqc_m (dqa_m (List.mem_of_getElem? (i := 1) rfl))) rfl, by decide +kernel, Or.inl (by decide +kernel)⟩, List.forall_mem_cons.mpr ⟨⟨RX5, TX5, 10, rfl, by decide, rfl, lwq_1 (dqc_m (List.mem_of_getElem? (i := 7) rfl)) rfl, by decide +kernel, Or.inl (by decide +kernel)⟩, List.forall_mem_cons.mpr ⟨⟨RX5, TX5, 10, rfl, by decide, rfl, lwq_1 (dqc_m (dqa_m (List.mem_of_getElem? (i := 7) rfl))) rfl, by decide +kernel, Or.inl (by decide +kernel)⟩, List.forall_mem_cons.mpr ⟨⟨RX5, TX5, 10, rfl, by decide, rfl, lwq_1 (dqc_m (dqa_m (dqa_m (List.mem_of_getElem? (i := 2) rfl)))) rfl, by decide +kernel, Or.inl (by decide +kernel)⟩, List.forall_mem_cons.mpr ⟨⟨RX5, TX5, 10, rfl, by decide, rfl, lwq_1 (dqc_m (dqa_m (dqa_m (List.mem_of_getElem? (i := 1) rfl)))) rfl, by decide +kernel, Or.inl (by decide +kernel)⟩, List.forall_mem_cons.mpr ⟨⟨RX5, TX5, 10, rfl, by decide, rfl, lwq_1 (dqc_m (dqa_m (dqa_m (List.mem_of_getElem? (i := 0) rfl)))) rfl, by decide +kernel, Or.inl (by decide +kernel)⟩, fun _ h => absurd h List.not_mem_nil⟩⟩⟩⟩⟩⟩
theorem tb_X5 : tb_ RX5 fX5 := ⟨tg_X5, tp_X5, fun _ h => absurd h List.not_mem_nil, fun _ h => absurd h List.not_mem_nil⟩
def fX6 : Zf := ([(56, 6, 4), (67, 0, 1), (60, 0, 7), (79, 0, 5), (19, 6, 3), (82, 0, 3), (74, 0, 8), (92, 2, 3), (95, 2, 5), (39, 6, 13), (42, 6, 14), (36, 6, 11), (109, 2, 1), (119, 2, 6), (48, 6, 0), (128, 8, 0), (143, 2, 4), (45, 6, 15), (23, 6, 7), (159, 6, 6), (27, 6, 8), (30, 6, 9), (33, 6, 10), (162, 8, 13), (179, 2, 0), (183, 2, 10), (192, 3, 13)], [(52, 0, 6), (60, 0, 7), (74, 0, 8), (56, 6, 4), (95, 2, 5), (106, 6, 12), (159, 6, 6)], [], [])
set_option maxRecDepth 100000 in
set_option maxHeartbeats 4000000 in
theorem tg_X6 : ∀ q ∈ fX6.1, fl_ RX6 q.1 q.2.1 q.2.2 := List.forall_mem_cons.mpr ⟨⟨RX6, TX6, 16, rfl, by decide, rfl, lwq_1 (dqc_m (dqc_m (dqc_m (dqc_m (dqa_m (dqa_m (dqa_m (List.mem_of_getElem? (i := 3) rfl)))))))) rfl⟩, List.forall_mem_cons.mpr ⟨⟨RX0, TX0, 9, rfl, by decide, rfl, lwq_3 (dqc_m (dqc_m (dqa_m (dqa_m (List.mem_of_getElem? (i := 4) rfl))))) rfl⟩, List.forall_mem_cons.mpr ⟨⟨RX0, TX0, 9, rfl, by decide, rfl, lwq_3 (dqc_m (dqc_m (dqc_m (dqa_m (List.mem_of_getElem? (i := 3) rfl))))) rfl⟩, List.forall_mem_cons.mpr ⟨⟨RX0, TX0, 9, rfl, by decide, rfl, lwq_3 (dqc_m (dqc_m (dqc_m (List.mem_of_getElem? (i := 6) rfl)))) rfl⟩, List.forall_mem_cons.mpr ⟨⟨RX6, TX6, 16, rfl, by decide, rfl, lwq_1 (dqc_m (dqc_m (dqc_m (dqc_m (dqa_m (dqa_m (List.mem_of_getElem? (i := 6) rfl))))))) rfl⟩, List.forall_mem_cons.mpr ⟨⟨RX0, TX0, 9, rfl, by decide, rfl, lwq_3 (dqc_m (dqc_m (dqa_m (dqa_m (dqa_m (List.mem_of_getElem? (i := 6) rfl)))))) rfl⟩, List.forall_mem_cons.mpr ⟨⟨RX0, TX0, 9, rfl, by decide, rfl, lwq_3 (dqc_m (dqc_m (dqc_m (dqa_m (dqa_m (List.mem_of_getElem? (i := 0) rfl)))))) rfl⟩, List.forall_mem_cons.mpr ⟨⟨RX2, TX2, 11, rfl, by decide, rfl, lwq_3 (dqc_m (dqc_m (dqc_m (dqc_m (dqc_m (dqc_m (dqc_m (dqa_m (List.mem_of_getElem? (i := 5) rfl))))))))) rfl⟩, List.forall_mem_cons.mpr ⟨⟨RX2, TX2, 11, rfl, by decide, rfl, lwq_4 (dqa_m (List.mem_of_getElem? (i := 1) rfl)) rfl⟩, List.forall_mem_cons.mpr ⟨⟨RX6, TX6, 16, rfl, by decide, rfl, lwq_1 (dqc_m (dqc_m (dqc_m (dqc_m (dqc_m (dqa_m (List.mem_of_getElem? (i := 1) rfl))))))) rfl⟩, List.forall_mem_cons.mpr ⟨⟨RX6, TX6, 16, rfl, by decide, rfl, lwq_1 (dqc_m (dqc_m (dqc_m (dqc_m (dqc_m (dqa_m (List.mem_of_getElem? (i := 2) rfl))))))) rfl⟩, List.forall_mem_cons.mpr ⟨⟨RX6, TX6, 16, rfl, by decide, rfl, lwq_1 (dqc_m (dqc_m (dqc_m (dqc_m (dqc_m (List.mem_of_getElem? (i := 5) rfl)))))) rfl⟩, List.forall_mem_cons.mpr ⟨⟨RX2, TX2, 11, rfl, by decide, rfl, lwq_3 (dqc_m (dqc_m (dqc_m (dqc_m (dqc_m (dqc_m (dqc_m (List.mem_of_getElem? (i := 7) rfl)))))))) rfl⟩, List.forall_mem_cons.mpr ⟨⟨RX2, TX2, 11, rfl, by decide, rfl, lwq_4 (dqa_m (List.mem_of_getElem? (i := 4) rfl)) rfl⟩, List.forall_mem_cons.mpr ⟨⟨RX6, TX6, 16, rfl, by decide, rfl, lwq_1 (dqc_m (dqc_m (dqc_m (dqc_m (dqa_m (dqa_m (List.mem_of_getElem? (i := 2) rfl))))))) rfl⟩, List.forall_mem_cons.mpr ⟨⟨RX8, TX8, 14, rfl, by decide, rfl, lwq_1 (dqc_m (dqc_m (dqa_m (dqa_m (List.mem_of_getElem? (i := 2) rfl))))) rfl⟩, List.forall_mem_cons.mpr ⟨⟨RX2, TX2, 11, rfl, by decide, rfl, lwq_4 (List.mem_of_getElem? (i := 4) rfl) rfl⟩, List.forall_mem_cons.mpr ⟨⟨RX6, TX6, 16, rfl, by decide, rfl, lwq_1 (dqc_m (dqc_m (dqc_m (dqc_m (dqc_m (dqa_m (List.mem_of_getElem? (i := 3) rfl))))))) rfl⟩, List.forall_mem_cons.mpr ⟨⟨RX6, TX6, 16, rfl, by decide, rfl, lwq_1 (dqc_m (dqc_m (dqc_m (dqc_m (dqc_m (List.mem_of_getElem? (i := 1) rfl)))))) rfl⟩, List.forall_mem_cons.mpr ⟨⟨RX6, TX6, 16, rfl, by decide, rfl, lwq_1 (dqc_m (dqc_m (dqc_m (dqc_m (dqa_m (dqa_m (dqa_m (List.mem_of_getElem? (i := 7) rfl)))))))) rfl⟩, List.forall_mem_cons.mpr ⟨⟨RX6, TX6, 16, rfl, by decide, rfl, lwq_1 (dqc_m (dqc_m (dqc_m (dqc_m (dqc_m (List.mem_of_getElem? (i := 2) rfl)))))) rfl⟩, List.forall_mem_cons.mpr ⟨⟨RX6, TX6, 16, rfl, by decide, rfl, lwq_1 (dqc_m (dqc_m (dqc_m (dqc_m (dqc_m (List.mem_of_getElem? (i := 3) rfl)))))) rfl⟩, List.forall_mem_cons.mpr ⟨⟨RX6, TX6, 16, rfl, by decide, rfl, lwq_1 (dqc_m (dqc_m (dqc_m (dqc_m (dqc_m (List.mem_of_getElem? (i := 4) rfl)))))) rfl⟩, List.forall_mem_cons.mpr ⟨⟨RX8, TX8, 14, rfl, by decide, rfl, lwq_1 (dqc_m (dqc_m (dqc_m (dqa_m (List.mem_of_getElem? (i := 2) rfl))))) rfl⟩, List.forall_mem_cons.mpr ⟨⟨RX2, TX2, 11, rfl, by decide, rfl, lwq_3 (dqc_m (dqc_m (dqc_m (dqc_m (dqc_m (dqc_m (dqc_m (List.mem_of_getElem? (i := 4) rfl)))))))) rfl⟩, List.forall_mem_cons.mpr ⟨⟨RX2, TX2, 11, rfl, by decide, rfl, lwq_4 (dqa_m (dqa_m (dqa_m (List.mem_of_getElem? (i := 0) rfl)))) rfl⟩, List.forall_mem_cons.mpr ⟨⟨RX3, TX3, 18, rfl, by decide, rfl, lwq_4 (dqc_m (dqc_m (dqc_m (dqc_m (dqc_m (dqc_m (dqa_m (dqa_m (List.mem_of_getElem? (i := 0) rfl))))))))) rfl⟩, fun _ h => absurd h List.not_mem_nil⟩⟩⟩⟩⟩⟩⟩⟩⟩⟩⟩⟩⟩⟩⟩⟩⟩⟩⟩⟩⟩⟩⟩⟩⟩⟩⟩
set_option maxRecDepth 100000 in
set_option maxHeartbeats 4000000 in
theorem tp_X6 : ∀ q ∈ fX6.2.1, fp_ RX6 q.1 q.2.1 q.2.2 := List.forall_mem_cons.mpr ⟨⟨RX0, TX0, 9, rfl, by decide, rfl, lwq_3 (dqc_m (dqc_m (dqc_m (dqa_m (List.mem_of_getElem? (i := 1) rfl))))) rfl, by decide +kernel, Or.inr ⟨by decide +kernel, 0, by decide +kernel⟩⟩, List.forall_mem_cons.mpr ⟨⟨RX0, TX0, 9, rfl, by decide, rfl, lwq_3 (dqc_m (dqc_m (dqc_m (dqa_m (List.mem_of_getElem? (i := 3) rfl))))) rfl, by decide +kernel, Or.inl (by decide +kernel)⟩, List.forall_mem_cons.mpr ⟨⟨RX0, TX0, 9, rfl, by decide, rfl, lwq_3 (dqc_m (dqc_m (dqc_m (dqa_m (dqa_m (List.mem_of_getElem? (i := 0) rfl)))))) rfl, by decide +kernel, Or.inl (by decide +kernel)⟩, List.forall_mem_cons.mpr ⟨⟨RX6, TX6, 16, rfl, by decide, rfl, lwq_1 (dqc_m (dqc_m (dqc_m (dqc_m (dqa_m (dqa_m (dqa_m (List.mem_of_getElem? (i := 3) rfl)))))))) rfl, by decide +kernel, Or.inl (by decide +kernel)⟩, List.forall_mem_cons.mpr ⟨⟨RX2, TX2, 11, rfl, by decide, rfl, lwq_4 (dqa_m (List.mem_of_getElem? (i := 1) rfl)) rfl, by decide +kernel, Or.inl (by decide +kernel)⟩, List.forall_mem_cons.mpr ⟨⟨RX6, TX6, 16, rfl, by decide, rfl, lwq_1 (dqc_m (dqc_m (dqc_m (dqc_m (dqc_m (List.mem_of_getElem? (i := 7) rfl)))))) rfl, by decide +kernel, Or.inl (by decide +kernel)⟩, List.forall_mem_cons.mpr ⟨⟨RX6, TX6, 16, rfl, by decide, rfl, lwq_1 (dqc_m (dqc_m (dqc_m (dqc_m (dqa_m (dqa_m (dqa_m (List.mem_of_getElem? (i := 7) rfl)))))))) rfl, by decide +kernel, Or.inl (by decide +kernel)⟩, fun _ h => absurd h List.not_mem_nil⟩⟩⟩⟩⟩⟩⟩
theorem tb_X6 : tb_ RX6 fX6 := ⟨tg_X6, tp_X6, fun _ h => absurd h List.not_mem_nil, fun _ h => absurd h List.not_mem_nil⟩
def fX7 : Zf := ([(11, 7, 2), (15, 7, 3), (18, 7, 4), (21, 7, 5), (24, 7, 6), (50, 7, 1), (60, 0, 8), (46, 7, 0), (66, 6, 3), (72, 0, 7), (75, 2, 5), (96, 0, 5), (99, 0, 0), (102, 0, 3), (109, 0, 4), (112, 2, 3), (115, 2, 4), (121, 0, 1), (124, 2, 10), (128, 2, 9), (131, 3, 13), (27, 7, 7), (30, 7, 8), (140, 7, 13), (37, 7, 10), (40, 7, 11), (43, 7, 12), (33, 7, 9), (161, 0, 2)], [(140, 7, 13)], [(174, 1000003), (175, 73244475), (176, 2147483647)], [(172, 1000000)])
set_option maxRecDepth 100000 in
set_option maxHeartbeats 4000000 in
theorem tg_X7 : ∀ q ∈ fX7.1, fl_ RX7 q.1 q.2.1 q.2.2 := List.forall_mem_cons.mpr ⟨⟨RX7, TX7, 14, rfl, by decide, rfl, lwq_1 (dqc_m (dqc_m (dqc_m (dqc_m (dqc_m (dqc_m (dqa_m (dqa_m (List.mem_of_getElem? (i := 5) rfl))))))))) rfl⟩, List.forall_mem_cons.mpr ⟨⟨RX7, TX7, 14, rfl, by decide, rfl, lwq_1 (dqc_m (dqc_m (dqc_m (dqc_m (dqc_m (dqc_m (dqa_m (dqa_m (dqa_m (List.mem_of_getElem? (i := 0) rfl)))))))))) rfl⟩, List.forall_mem_cons.mpr ⟨⟨RX7, TX7, 14, rfl, by decide, rfl, lwq_1 (dqc_m (dqc_m (dqc_m (dqc_m (dqc_m (dqc_m (dqa_m (dqa_m (dqa_m (List.mem_of_getElem? (i := 1) rfl)))))))))) rfl⟩, List.forall_mem_cons.mpr ⟨⟨RX7, TX7, 14, rfl, by decide, rfl, lwq_1 (dqc_m (dqc_m (dqc_m (dqc_m (dqc_m (dqc_m (dqa_m (dqa_m (dqa_m (List.mem_of_getElem? (i := 2) rfl)))))))))) rfl⟩, List.forall_mem_cons.mpr ⟨⟨RX7, TX7, 14, rfl, by decide, rfl, lwq_1 (dqc_m (dqc_m (dqc_m (dqc_m (dqc_m (dqc_m (dqa_m (dqa_m (dqa_m (List.mem_of_getElem? (i := 3) rfl)))))))))) rfl⟩, List.forall_mem_cons.mpr ⟨⟨RX7, TX7, 14, rfl, by decide, rfl, lwq_1 (dqc_m (dqc_m (dqc_m (dqc_m (dqc_m (dqc_m (dqa_m (dqa_m (List.mem_of_getElem? (i := 4) rfl))))))))) rfl⟩, List.forall_mem_cons.mpr ⟨⟨RX0, TX0, 9, rfl, by decide, rfl, lwq_3 (dqc_m (dqc_m (dqc_m (dqa_m (List.mem_of_getElem? (i := 7) rfl))))) rfl⟩, List.forall_mem_cons.mpr ⟨⟨RX7, TX7, 14, rfl, by decide, rfl, lwq_1 (dqc_m (dqc_m (dqc_m (dqc_m (dqc_m (dqc_m (dqa_m (dqa_m (List.mem_of_getElem? (i := 3) rfl))))))))) rfl⟩, List.forall_mem_cons.mpr ⟨⟨RX6, TX6, 16, rfl, by decide, rfl, lwq_1 (dqc_m (dqc_m (dqc_m (dqc_m (dqa_m (dqa_m (dqa_m (List.mem_of_getElem? (i := 0) rfl)))))))) rfl⟩, List.forall_mem_cons.mpr ⟨⟨RX0, TX0, 9, rfl, by decide, rfl, lwq_3 (dqc_m (dqc_m (dqc_m (dqa_m (List.mem_of_getElem? (i := 4) rfl))))) rfl⟩, List.forall_mem_cons.mpr ⟨⟨RX2, TX2, 11, rfl, by decide, rfl, lwq_4 (List.mem_of_getElem? (i := 7) rfl) rfl⟩, List.forall_mem_cons.mpr ⟨⟨RX0, TX0, 9, rfl, by decide, rfl, lwq_3 (dqc_m (dqc_m (dqc_m (List.mem_of_getElem? (i := 5) rfl)))) rfl⟩, List.forall_mem_cons.mpr ⟨⟨RX0, TX0, 9, rfl, by decide, rfl, lwq_3 (dqc_m (dqc_m (dqa_m (dqa_m (List.mem_of_getElem? (i := 0) rfl))))) rfl⟩, List.forall_mem_cons.mpr ⟨⟨RX0, TX0, 9, rfl, by decide, rfl, lwq_3 (dqc_m (dqc_m (dqa_m (dqa_m (dqa_m (List.mem_of_getElem? (i := 5) rfl)))))) rfl⟩, List.forall_mem_cons.mpr ⟨⟨RX0, TX0, 9, rfl, by decide, rfl, lwq_3 (dqc_m (dqc_m (dqc_m (List.mem_of_getElem? (i := 1) rfl)))) rfl⟩, List.forall_mem_cons.mpr ⟨⟨RX2, TX2, 11, rfl, by decide, rfl, lwq_3 (dqc_m (dqc_m (dqc_m (dqc_m (dqc_m (dqc_m (dqc_m (dqa_m (List.mem_of_getElem? (i := 3) rfl))))))))) rfl⟩, List.forall_mem_cons.mpr ⟨⟨RX2, TX2, 11, rfl, by decide, rfl, lwq_4 (List.mem_of_getElem? (i := 1) rfl) rfl⟩, List.forall_mem_cons.mpr ⟨⟨RX0, TX0, 9, rfl, by decide, rfl, lwq_3 (dqc_m (dqc_m (dqa_m (dqa_m (List.mem_of_getElem? (i := 6) rfl))))) rfl⟩, List.forall_mem_cons.mpr ⟨⟨RX2, TX2, 11, rfl, by decide, rfl, lwq_4 (dqa_m (dqa_m (List.mem_of_getElem? (i := 7) rfl))) rfl⟩, List.forall_mem_cons.mpr ⟨⟨RX2, TX2, 11, rfl, by decide, rfl, lwq_4 (dqa_m (dqa_m (List.mem_of_getElem? (i := 4) rfl))) rfl⟩, List.forall_mem_cons.mpr ⟨⟨RX3, TX3, 18, rfl, by decide, rfl, lwq_4 (dqc_m (dqc_m (dqc_m (dqc_m (dqc_m (dqc_m (dqa_m (List.mem_of_getElem? (i := 7) rfl)))))))) rfl⟩, List.forall_mem_cons.mpr ⟨⟨RX7, TX7, 14, rfl, by decide, rfl, lwq_1 (dqc_m (dqc_m (dqc_m (dqc_m (dqc_m (dqc_m (dqa_m (dqa_m (dqa_m (List.mem_of_getElem? (i := 4) rfl)))))))))) rfl⟩, List.forall_mem_cons.mpr ⟨⟨RX7, TX7, 14, rfl, by decide, rfl, lwq_1 (dqc_m (dqc_m (dqc_m (dqc_m (dqc_m (dqc_m (dqa_m (dqa_m (dqa_m (List.mem_of_getElem? (i := 6) rfl)))))))))) rfl⟩, List.forall_mem_cons.mpr ⟨⟨RX7, TX7, 14, rfl, by decide, rfl, lwq_1 (dqc_m (dqc_m (dqc_m (dqc_m (dqc_m (dqc_m (dqc_m (List.mem_of_getElem? (i := 4) rfl)))))))) rfl⟩, List.forall_mem_cons.mpr ⟨⟨RX7, TX7, 14, rfl, by decide, rfl, lwq_1 (dqc_m (dqc_m (dqc_m (dqc_m (dqc_m (dqc_m (dqc_m (List.mem_of_getElem? (i := 1) rfl)))))))) rfl⟩, List.forall_mem_cons.mpr ⟨⟨RX7, TX7, 14, rfl, by decide, rfl, lwq_1 (dqc_m (dqc_m (dqc_m (dqc_m (dqc_m (dqc_m (dqc_m (List.mem_of_getElem? (i := 2) rfl)))))))) rfl⟩, List.forall_mem_cons.mpr ⟨⟨RX7, TX7, 14, rfl, by decide, rfl, lwq_1 (dqc_m (dqc_m (dqc_m (dqc_m (dqc_m (dqc_m (dqc_m (List.mem_of_getElem? (i := 3) rfl)))))))) rfl⟩, List.forall_mem_cons.mpr ⟨⟨RX7, TX7, 14, rfl, by decide, rfl, lwq_1 (dqc_m (dqc_m (dqc_m (dqc_m (dqc_m (dqc_m (dqc_m (List.mem_of_getElem? (i := 0) rfl)))))))) rfl⟩, List.forall_mem_cons.mpr ⟨⟨RX0, TX0, 9, rfl, by decide, rfl, lwq_3 (dqc_m (dqc_m (dqa_m (dqa_m (dqa_m (List.mem_of_getElem? (i := 2) rfl)))))) rfl⟩, fun _ h => absurd h List.not_mem_nil⟩⟩⟩⟩⟩⟩⟩⟩⟩⟩⟩⟩⟩⟩⟩⟩⟩⟩⟩⟩⟩⟩⟩⟩⟩⟩⟩⟩⟩
set_option maxRecDepth 100000 in
set_option maxHeartbeats 4000000 in
theorem tp_X7 : ∀ q ∈ fX7.2.1, fp_ RX7 q.1 q.2.1 q.2.2 := List.forall_mem_cons.mpr ⟨⟨RX7, TX7, 14, rfl, by decide, rfl, lwq_1 (dqc_m (dqc_m (dqc_m (dqc_m (dqc_m (dqc_m (dqc_m (List.mem_of_getElem? (i := 4) rfl)))))))) rfl, by decide +kernel, Or.inl (by decide +kernel)⟩, fun _ h => absurd h List.not_mem_nil⟩
theorem tb_X7 : tb_ RX7 fX7 := ⟨tg_X7, tp_X7, List.forall_mem_cons.mpr ⟨⟨lwq_6 (dqa_m (List.mem_of_getElem? (i := 5) rfl)) rfl, by decide, by decide⟩, List.forall_mem_cons.mpr ⟨⟨lwq_6 (dqa_m (List.mem_of_getElem? (i := 6) rfl)) rfl, by decide, by decide⟩, List.forall_mem_cons.mpr ⟨⟨lwq_6 (dqa_m (List.mem_of_getElem? (i := 7) rfl)) rfl, by decide, by decide⟩, fun _ h => absurd h List.not_mem_nil⟩⟩⟩, List.forall_mem_cons.mpr ⟨⟨lwq_6 (dqa_m (List.mem_of_getElem? (i := 0) rfl)) rfl, by decide, by decide⟩, fun _ h => absurd h List.not_mem_nil⟩⟩
def fX8 : Zf := ([(18, 8, 4), (24, 8, 7), (27, 8, 8), (30, 8, 9), (21, 8, 6), (39, 8, 5)], [(39, 8, 5)], [], [])
set_option maxRecDepth 100000 in
set_option maxHeartbeats 4000000 in
theorem tg_X8 : ∀ q ∈ fX8.1, fl_ RX8 q.1 q.2.1 q.2.2 := List.forall_mem_cons.mpr ⟨⟨RX8, TX8, 14, rfl, by decide, rfl, lwq_1 (dqc_m (dqc_m (dqa_m (dqa_m (dqa_m (List.mem_of_getElem? (i := 1) rfl)))))) rfl⟩, List.forall_mem_cons.mpr ⟨⟨RX8, TX8, 14, rfl, by decide, rfl, lwq_1 (dqc_m (dqc_m (dqa_m (dqa_m (dqa_m (List.mem_of_getElem? (i := 6) rfl)))))) rfl⟩, List.forall_mem_cons.mpr ⟨⟨RX8, TX8, 14, rfl, by decide, rfl, lwq_1 (dqc_m (dqc_m (dqa_m (dqa_m (dqa_m (List.mem_of_getElem? (i := 7) rfl)))))) rfl⟩, List.forall_mem_cons.mpr ⟨⟨RX8, TX8, 14, rfl, by decide, rfl, lwq_1 (dqc_m (dqc_m (dqc_m (List.mem_of_getElem? (i := 0) rfl)))) rfl⟩, List.forall_mem_cons.mpr ⟨⟨RX8, TX8, 14, rfl, by decide, rfl, lwq_1 (dqc_m (dqc_m (dqa_m (dqa_m (dqa_m (List.mem_of_getElem? (i := 5) rfl)))))) rfl⟩, List.forall_mem_cons.mpr ⟨⟨RX8, TX8, 14, rfl, by decide, rfl, lwq_1 (dqc_m (dqc_m (dqa_m (dqa_m (dqa_m (List.mem_of_getElem? (i := 3) rfl)))))) rfl⟩, fun _ h => absurd h List.not_mem_nil⟩⟩⟩⟩⟩⟩
set_option maxRecDepth 100000 in
set_option maxHeartbeats 4000000 in
theorem tp_X8 : ∀ q ∈ fX8.2.1, fp_ RX8 q.1 q.2.1 q.2.2 := List.forall_mem_cons.mpr ⟨⟨RX8, TX8, 14, rfl, by decide, rfl, lwq_1 (dqc_m (dqc_m (dqa_m (dqa_m (dqa_m (List.mem_of_getElem? (i := 3) rfl)))))) rfl, by decide +kernel, Or.inl (by decide +kernel)⟩, fun _ h => absurd h List.not_mem_nil⟩
theorem tb_X8 : tb_ RX8 fX8 := ⟨tg_X8, tp_X8, fun _ h => absurd h List.not_mem_nil, fun _ h => absurd h List.not_mem_nil⟩
def fX9 : Zf := ([(15, 9, 4), (54, 9, 5), (61, 0, 1), (66, 0, 3), (9, 9, 2), (97, 0, 8), (40, 9, 0), (100, 6, 3), (106, 0, 7), (118, 2, 1), (121, 2, 3), (94, 9, 9), (22, 9, 8), (44, 9, 1), (130, 0, 5), (19, 9, 7), (133, 7, 2), (136, 0, 4), (139, 2, 4), (142, 9, 6), (28, 9, 11), (31, 9, 12), (25, 9, 10), (34, 9, 13), (37, 9, 14), (165, 9, 15)], [(9, 9, 2), (58, 9, 3), (94, 9, 9), (142, 9, 6)], [], [])
set_option maxRecDepth 100000 in
set_option maxHeartbeats 4000000 in
theorem tg_X9 : ∀ q ∈ fX9.1, fl_ RX9 q.1 q.2.1 q.2.2 := List.forall_mem_cons.mpr ⟨⟨RX9, TX9, 16, rfl, by decide, rfl, lwq_2 (dqc_m (List.mem_of_getElem? (i := 2) rfl)) rfl⟩, List.forall_mem_cons.mpr ⟨⟨RX9, TX9, 16, rfl, by decide, rfl, lwq_2 (dqc_m (List.mem_of_getElem? (i := 4) rfl)) rfl⟩, List.forall_mem_cons.mpr ⟨⟨RX0, TX0, 9, rfl, by decide, rfl, lwq_3 (dqc_m (dqc_m (dqa_m (dqa_m (List.mem_of_getElem? (i := 3) rfl))))) rfl⟩, List.forall_mem_cons.mpr ⟨⟨RX0, TX0, 9, rfl, by decide, rfl, lwq_3 (dqc_m (dqc_m (dqa_m (dqa_m (dqa_m (List.mem_of_getElem? (i := 4) rfl)))))) rfl⟩, List.forall_mem_cons.mpr ⟨⟨RX9, TX9, 16, rfl, by decide, rfl, lwq_2 (dqa_m (dqa_m (dqa_m (List.mem_of_getElem? (i := 6) rfl)))) rfl⟩, List.forall_mem_cons.mpr ⟨⟨RX0, TX0, 9, rfl, by decide, rfl, lwq_3 (dqc_m (dqc_m (dqc_m (dqa_m (dqa_m (List.mem_of_getElem? (i := 1) rfl)))))) rfl⟩, List.forall_mem_cons.mpr ⟨⟨RX9, TX9, 16, rfl, by decide, rfl, lwq_2 (dqa_m (dqa_m (dqa_m (List.mem_of_getElem? (i := 4) rfl)))) rfl⟩, List.forall_mem_cons.mpr ⟨⟨RX6, TX6, 16, rfl, by decide, rfl, lwq_1 (dqc_m (dqc_m (dqc_m (dqc_m (dqa_m (dqa_m (dqa_m (List.mem_of_getElem? (i := 1) rfl)))))))) rfl⟩, List.forall_mem_cons.mpr ⟨⟨RX0, TX0, 9, rfl, by decide, rfl, lwq_3 (dqc_m (dqc_m (dqc_m (dqa_m (List.mem_of_getElem? (i := 5) rfl))))) rfl⟩, List.forall_mem_cons.mpr ⟨⟨RX2, TX2, 11, rfl, by decide, rfl, lwq_3 (dqc_m (dqc_m (dqc_m (dqc_m (dqc_m (dqc_m (dqc_m (List.mem_of_getElem? (i := 6) rfl)))))))) rfl⟩, List.forall_mem_cons.mpr ⟨⟨RX2, TX2, 11, rfl, by decide, rfl, lwq_3 (dqc_m (dqc_m (dqc_m (dqc_m (dqc_m (dqc_m (dqc_m (dqa_m (List.mem_of_getElem? (i := 4) rfl))))))))) rfl⟩, List.forall_mem_cons.mpr ⟨⟨RX9, TX9, 16, rfl, by decide, rfl, lwq_2 (dqc_m (dqa_m (List.mem_of_getElem? (i := 0) rfl))) rfl⟩, List.forall_mem_cons.mpr ⟨⟨RX9, TX9, 16, rfl, by decide, rfl, lwq_2 (dqc_m (List.mem_of_getElem? (i := 7) rfl)) rfl⟩, List.forall_mem_cons.mpr ⟨⟨RX9, TX9, 16, rfl, by decide, rfl, lwq_2 (dqa_m (dqa_m (dqa_m (List.mem_of_getElem? (i := 5) rfl)))) rfl⟩, List.forall_mem_cons.mpr ⟨⟨RX0, TX0, 9, rfl, by decide, rfl, lwq_3 (dqc_m (dqc_m (dqc_m (List.mem_of_getElem? (i := 7) rfl)))) rfl⟩, List.forall_mem_cons.mpr ⟨⟨RX9, TX9, 16, rfl, by decide, rfl, lwq_2 (dqc_m (List.mem_of_getElem? (i := 6) rfl)) rfl⟩, List.forall_mem_cons.mpr ⟨⟨RX7, TX7, 14, rfl, by decide, rfl, lwq_1 (dqc_m (dqc_m (dqc_m (dqc_m (dqc_m (dqc_m (dqa_m (dqa_m (List.mem_of_getElem? (i := 6) rfl))))))))) rfl⟩, List.forall_mem_cons.mpr ⟨⟨RX0, TX0, 9, rfl, by decide, rfl, lwq_3 (dqc_m (dqc_m (dqc_m (List.mem_of_getElem? (i := 2) rfl)))) rfl⟩, List.forall_mem_cons.mpr ⟨⟨RX2, TX2, 11, rfl, by decide, rfl, lwq_4 (List.mem_of_getElem? (i := 2) rfl) rfl⟩, List.forall_mem_cons.mpr ⟨⟨RX9, TX9, 16, rfl, by decide, rfl, lwq_2 (dqc_m (List.mem_of_getElem? (i := 5) rfl)) rfl⟩, List.forall_mem_cons.mpr ⟨⟨RX9, TX9, 16, rfl, by decide, rfl, lwq_2 (dqc_m (dqa_m (List.mem_of_getElem? (i := 2) rfl))) rfl⟩, List.forall_mem_cons.mpr ⟨⟨RX9, TX9, 16, rfl, by decide, rfl, lwq_2 (dqc_m (dqa_m (List.mem_of_getElem? (i := 3) rfl))) rfl⟩, List.forall_mem_cons.mpr ⟨⟨RX9, TX9, 16, rfl, by decide, rfl, lwq_2 (dqc_m (dqa_m (List.mem_of_getElem? (i := 1) rfl))) rfl⟩, List.forall_mem_cons.mpr ⟨⟨RX9, TX9, 16, rfl, by decide, rfl, lwq_2 (dqc_m (dqa_m (List.mem_of_getElem? (i := 4) rfl))) rfl⟩, List.forall_mem_cons.mpr ⟨⟨RX9, TX9, 16, rfl, by decide, rfl, lwq_2 (dqc_m (dqa_m (List.mem_of_getElem? (i := 5) rfl))) rfl⟩, List.forall_mem_cons.mpr ⟨⟨RX9, TX9, 16, rfl, by decide, rfl, lwq_2 (dqc_m (dqa_m (List.mem_of_getElem? (i := 6) rfl))) rfl⟩, fun _ h => absurd h List.not_mem_nil⟩⟩⟩⟩⟩⟩⟩⟩⟩⟩⟩⟩⟩⟩⟩⟩⟩⟩⟩⟩⟩⟩⟩⟩⟩⟩
set_option maxRecDepth 100000 in
set_option maxHeartbeats 4000000 in
theorem tp_X9 : ∀ q ∈ fX9.2.1, fp_ RX9 q.1 q.2.1 q.2.2 := List.forall_mem_cons.mpr ⟨⟨RX9, TX9, 16, rfl, by decide, rfl, lwq_2 (dqa_m (dqa_m (dqa_m (List.mem_of_getElem? (i := 6) rfl)))) rfl, by decide +kernel, Or.inl (by decide +kernel)⟩, List.forall_mem_cons.mpr ⟨⟨RX9, TX9, 16, rfl, by decide, rfl, lwq_2 (dqc_m (List.mem_of_getElem? (i := 0) rfl)) rfl, by decide +kernel, Or.inl (by decide +kernel)⟩, List.forall_mem_cons.mpr ⟨⟨RX9, TX9, 16, rfl, by decide, rfl, lwq_2 (dqc_m (dqa_m (List.mem_of_getElem? (i := 0) rfl))) rfl, by decide +kernel, Or.inl (by decide +kernel)⟩, List.forall_mem_cons.mpr ⟨⟨RX9, TX9, 16, rfl, by decide, rfl, lwq_2 (dqc_m (List.mem_of_getElem? (i := 5) rfl)) rfl, by decide +kernel, Or.inl (by decide +kernel)⟩, fun _ h => absurd h List.not_mem_nil⟩⟩⟩⟩
theorem tb_X9 : tb_ RX9 fX9 := ⟨tg_X9, tp_X9, fun _ h => absurd h List.not_mem_nil, fun _ h => absurd h List.not_mem_nil⟩
def fX10 : Zf := ([(19, 10, 1), (28, 10, 2), (37, 10, 3), (12, 10, 0), (66, 5, 1), (70, 5, 0), (74, 6, 2), (84, 5, 2), (87, 6, 1), (93, 5, 4), (101, 5, 5), (77, 5, 3), (111, 0, 1), (114, 0, 2), (119, 8, 2), (122, 8, 0), (125, 8, 1), (128, 8, 3), (131, 8, 4), (147, 8, 5), (154, 8, 12), (157, 8, 10), (160, 8, 11), (163, 8, 13), (166, 0, 6), (170, 0, 4), (173, 0, 5), (176, 0, 3), (182, 6, 4), (192, 0, 7), (198, 6, 3), (202, 2, 0), (208, 0, 0), (211, 2, 2), (214, 2, 3), (217, 2, 4), (220, 2, 5), (238, 6, 12), (241, 6, 11), (244, 6, 6), (258, 2, 9), (261, 2, 8), (272, 2, 10), (286, 6, 5), (295, 3, 15), (319, 3, 17), (322, 3, 14), (325, 3, 16), (328, 3, 4), (331, 3, 6), (334, 3, 7), (337, 3, 5), (340, 3, 9), (343, 3, 10), (356, 7, 2), (359, 7, 7), (362, 7, 8), (46, 10, 4), (368, 9, 2), (371, 9, 4), (374, 9, 3), (53, 10, 5), (384, 1, 1), (387, 1, 8), (390, 1, 4), (393, 1, 10), (402, 1, 6), (408, 1, 3), (420, 1, 9), (62, 10, 6), (426, 2, 7)], [(66, 5, 1), (77, 5, 3), (74, 6, 2), (119, 8, 2), (128, 8, 3), (154, 8, 12), (163, 8, 13), (173, 0, 5), (279, 2, 6), (286, 6, 5), (411, 1, 5)], [], [])
set_option maxRecDepth 100000 in
set_option maxHeartbeats 4000000 in
theorem tg_X10 : ∀ q ∈ fX10.1, fl_ RX10 q.1 q.2.1 q.2.2 := List.forall_mem_cons.mpr ⟨⟨RX10, TX10, 7, rfl, by decide, rfl, lwq_2 (dqc_m (dqc_m (dqc_m (dqc_m (dqc_m (List.mem_of_getElem? (i := 6) rfl)))))) rfl⟩, List.forall_mem_cons.mpr ⟨⟨RX10, TX10, 7, rfl, by decide, rfl, lwq_2 (dqc_m (dqc_m (dqc_m (dqc_m (dqc_m (List.mem_of_getElem? (i := 7) rfl)))))) rfl⟩, List.forall_mem_cons.mpr ⟨⟨RX10, TX10, 7, rfl, by decide, rfl, lwq_2 (dqc_m (dqc_m (dqc_m (dqc_m (dqc_m (dqa_m (List.mem_of_getElem? (i := 0) rfl))))))) rfl⟩, List.forall_mem_cons.mpr ⟨⟨RX10, TX10, 7, rfl, by decide, rfl, lwq_2 (dqc_m (dqc_m (dqc_m (dqc_m (dqc_m (List.mem_of_getElem? (i := 5) rfl)))))) rfl⟩, List.forall_mem_cons.mpr ⟨⟨RX5, TX5, 10, rfl, by decide, rfl, lwq_1 (dqc_m (List.mem_of_getElem? (i := 5) rfl)) rfl⟩, List.forall_mem_cons.mpr ⟨⟨RX5, TX5, 10, rfl, by decide, rfl, lwq_1 (dqc_m (List.mem_of_getElem? (i := 4) rfl)) rfl⟩, List.forall_mem_cons.mpr ⟨⟨RX6, TX6, 16, rfl, by decide, rfl, lwq_1 (dqc_m (dqc_m (dqc_m (dqc_m (dqa_m (dqa_m (List.mem_of_getElem? (i := 5) rfl))))))) rfl⟩, List.forall_mem_cons.mpr ⟨⟨RX5, TX5, 10, rfl, by decide, rfl, lwq_1 (dqc_m (dqa_m (List.mem_of_getElem? (i := 0) rfl))) rfl⟩, List.forall_mem_cons.mpr ⟨⟨RX6, TX6, 16, rfl, by decide, rfl, lwq_1 (dqc_m (dqc_m (dqc_m (dqc_m (dqa_m (dqa_m (List.mem_of_getElem? (i := 4) rfl))))))) rfl⟩, List.forall_mem_cons.mpr ⟨⟨RX5, TX5, 10, rfl, by decide, rfl, lwq_1 (dqc_m (dqa_m (List.mem_of_getElem? (i := 4) rfl))) rfl⟩, List.forall_mem_cons.mpr ⟨⟨RX5, TX5, 10, rfl, by decide, rfl, lwq_1 (dqc_m (dqa_m (List.mem_of_getElem? (i := 6) rfl))) rfl⟩, List.forall_mem_cons.mpr ⟨⟨RX5, TX5, 10, rfl, by decide, rfl, lwq_1 (dqc_m (dqa_m (List.mem_of_getElem? (i := 2) rfl))) rfl⟩, List.forall_mem_cons.mpr ⟨⟨RX0, TX0, 9, rfl, by decide, rfl, lwq_3 (dqc_m (dqc_m (dqa_m (dqa_m (List.mem_of_getElem? (i := 7) rfl))))) rfl⟩, List.forall_mem_cons.mpr ⟨⟨RX0, TX0, 9, rfl, by decide, rfl, lwq_3 (dqc_m (dqc_m (dqa_m (dqa_m (dqa_m (List.mem_of_getElem? (i := 1) rfl)))))) rfl⟩, List.forall_mem_cons.mpr ⟨⟨RX8, TX8, 14, rfl, by decide, rfl, lwq_1 (dqc_m (dqc_m (dqa_m (dqa_m (List.mem_of_getElem? (i := 7) rfl))))) rfl⟩, List.forall_mem_cons.mpr ⟨⟨RX8, TX8, 14, rfl, by decide, rfl, lwq_1 (dqc_m (dqc_m (dqa_m (dqa_m (List.mem_of_getElem? (i := 0) rfl))))) rfl⟩, List.forall_mem_cons.mpr ⟨⟨RX8, TX8, 14, rfl, by decide, rfl, lwq_1 (dqc_m (dqc_m (dqa_m (dqa_m (List.mem_of_getElem? (i := 6) rfl))))) rfl⟩, List.forall_mem_cons.mpr ⟨⟨RX8, TX8, 14, rfl, by decide, rfl, lwq_1 (dqc_m (dqc_m (dqa_m (dqa_m (dqa_m (List.mem_of_getElem? (i := 0) rfl)))))) rfl⟩, List.forall_mem_cons.mpr ⟨⟨RX8, TX8, 14, rfl, by decide, rfl, lwq_1 (dqc_m (dqc_m (dqa_m (dqa_m (dqa_m (List.mem_of_getElem? (i := 2) rfl)))))) rfl⟩, List.forall_mem_cons.mpr ⟨⟨RX8, TX8, 14, rfl, by decide, rfl, lwq_1 (dqc_m (dqc_m (dqa_m (dqa_m (dqa_m (List.mem_of_getElem? (i := 4) rfl)))))) rfl⟩, List.forall_mem_cons.mpr ⟨⟨RX8, TX8, 14, rfl, by decide, rfl, lwq_1 (dqc_m (dqc_m (dqc_m (dqa_m (List.mem_of_getElem? (i := 0) rfl))))) rfl⟩, List.forall_mem_cons.mpr ⟨⟨RX8, TX8, 14, rfl, by decide, rfl, lwq_1 (dqc_m (dqc_m (dqc_m (List.mem_of_getElem? (i := 3) rfl)))) rfl⟩, List.forall_mem_cons.mpr ⟨⟨RX8, TX8, 14, rfl, by decide, rfl, lwq_1 (dqc_m (dqc_m (dqc_m (List.mem_of_getElem? (i := 6) rfl)))) rfl⟩, List.forall_mem_cons.mpr ⟨⟨RX8, TX8, 14, rfl, by decide, rfl, lwq_1 (dqc_m (dqc_m (dqc_m (dqa_m (List.mem_of_getElem? (i := 1) rfl))))) rfl⟩, List.forall_mem_cons.mpr ⟨⟨RX0, TX0, 9, rfl, by decide, rfl, lwq_3 (dqc_m (dqc_m (dqc_m (dqa_m (List.mem_of_getElem? (i := 2) rfl))))) rfl⟩, List.forall_mem_cons.mpr ⟨⟨RX0, TX0, 9, rfl, by decide, rfl, lwq_3 (dqc_m (dqc_m (dqc_m (List.mem_of_getElem? (i := 3) rfl)))) rfl⟩, List.forall_mem_cons.mpr ⟨⟨RX0, TX0, 9, rfl, by decide, rfl, lwq_3 (dqc_m (dqc_m (dqc_m (dqa_m (List.mem_of_getElem? (i := 0) rfl))))) rfl⟩, List.forall_mem_cons.mpr ⟨⟨RX0, TX0, 9, rfl, by decide, rfl, lwq_3 (dqc_m (dqc_m (dqa_m (dqa_m (dqa_m (List.mem_of_getElem? (i := 7) rfl)))))) rfl⟩, List.forall_mem_cons.mpr ⟨⟨RX6, TX6, 16, rfl, by decide, rfl, lwq_1 (dqc_m (dqc_m (dqc_m (dqc_m (dqa_m (dqa_m (dqa_m (List.mem_of_getElem? (i := 5) rfl)))))))) rfl⟩, List.forall_mem_cons.mpr ⟨⟨RX0, TX0, 9, rfl, by decide, rfl, lwq_3 (dqc_m (dqc_m (dqc_m (dqa_m (List.mem_of_getElem? (i := 6) rfl))))) rfl⟩, List.forall_mem_cons.mpr ⟨⟨RX6, TX6, 16, rfl, by decide, rfl, lwq_1 (dqc_m (dqc_m (dqc_m (dqc_m (dqa_m (dqa_m (dqa_m (List.mem_of_getElem? (i := 2) rfl)))))))) rfl⟩, List.forall_mem_cons.mpr ⟨⟨RX2, TX2, 11, rfl, by decide, rfl, lwq_3 (dqc_m (dqc_m (dqc_m (dqc_m (dqc_m (dqc_m (dqc_m (List.mem_of_getElem? (i := 3) rfl)))))))) rfl⟩, List.forall_mem_cons.mpr ⟨⟨RX0, TX0, 9, rfl, by decide, rfl, lwq_3 (dqc_m (dqc_m (dqa_m (dqa_m (List.mem_of_getElem? (i := 1) rfl))))) rfl⟩, List.forall_mem_cons.mpr ⟨⟨RX2, TX2, 11, rfl, by decide, rfl, lwq_3 (dqc_m (dqc_m (dqc_m (dqc_m (dqc_m (dqc_m (dqc_m (dqa_m (List.mem_of_getElem? (i := 1) rfl))))))))) rfl⟩, List.forall_mem_cons.mpr ⟨⟨RX2, TX2, 11, rfl, by decide, rfl, lwq_3 (dqc_m (dqc_m (dqc_m (dqc_m (dqc_m (dqc_m (dqc_m (dqa_m (List.mem_of_getElem? (i := 7) rfl))))))))) rfl⟩, List.forall_mem_cons.mpr ⟨⟨RX2, TX2, 11, rfl, by decide, rfl, lwq_4 (List.mem_of_getElem? (i := 5) rfl) rfl⟩, List.forall_mem_cons.mpr ⟨⟨RX2, TX2, 11, rfl, by decide, rfl, lwq_4 (dqa_m (List.mem_of_getElem? (i := 2) rfl)) rfl⟩, List.forall_mem_cons.mpr ⟨⟨RX6, TX6, 16, rfl, by decide, rfl, lwq_1 (dqc_m (dqc_m (dqc_m (dqc_m (dqc_m (dqa_m (List.mem_of_getElem? (i := 0) rfl))))))) rfl⟩, List.forall_mem_cons.mpr ⟨⟨RX6, TX6, 16, rfl, by decide, rfl, lwq_1 (dqc_m (dqc_m (dqc_m (dqc_m (dqc_m (List.mem_of_getElem? (i := 6) rfl)))))) rfl⟩, List.forall_mem_cons.mpr ⟨⟨RX6, TX6, 16, rfl, by decide, rfl, lwq_1 (dqc_m (dqc_m (dqc_m (dqc_m (dqc_m (List.mem_of_getElem? (i := 0) rfl)))))) rfl⟩, List.forall_mem_cons.mpr ⟨⟨RX2, TX2, 11, rfl, by decide, rfl, lwq_4 (dqa_m (dqa_m (List.mem_of_getElem? (i := 5) rfl))) rfl⟩, List.forall_mem_cons.mpr ⟨⟨RX2, TX2, 11, rfl, by decide, rfl, lwq_4 (dqa_m (dqa_m (List.mem_of_getElem? (i := 2) rfl))) rfl⟩, List.forall_mem_cons.mpr ⟨⟨RX2, TX2, 11, rfl, by decide, rfl, lwq_4 (dqa_m (dqa_m (dqa_m (List.mem_of_getElem? (i := 1) rfl)))) rfl⟩, List.forall_mem_cons.mpr ⟨⟨RX6, TX6, 16, rfl, by decide, rfl, lwq_1 (dqc_m (dqc_m (dqc_m (dqc_m (dqa_m (dqa_m (dqa_m (List.mem_of_getElem? (i := 6) rfl)))))))) rfl⟩, List.forall_mem_cons.mpr ⟨⟨RX3, TX3, 18, rfl, by decide, rfl, lwq_4 (dqc_m (dqc_m (dqc_m (dqc_m (dqc_m (dqc_m (dqa_m (dqa_m (List.mem_of_getElem? (i := 3) rfl))))))))) rfl⟩, List.forall_mem_cons.mpr ⟨⟨RX3, TX3, 18, rfl, by decide, rfl, lwq_4 (dqc_m (dqc_m (dqc_m (dqc_m (dqc_m (dqc_m (dqa_m (dqa_m (List.mem_of_getElem? (i := 7) rfl))))))))) rfl⟩, List.forall_mem_cons.mpr ⟨⟨RX3, TX3, 18, rfl, by decide, rfl, lwq_4 (dqc_m (dqc_m (dqc_m (dqc_m (dqc_m (dqc_m (dqa_m (dqa_m (List.mem_of_getElem? (i := 2) rfl))))))))) rfl⟩, List.forall_mem_cons.mpr ⟨⟨RX3, TX3, 18, rfl, by decide, rfl, lwq_4 (dqc_m (dqc_m (dqc_m (dqc_m (dqc_m (dqc_m (dqa_m (dqa_m (List.mem_of_getElem? (i := 6) rfl))))))))) rfl⟩, List.forall_mem_cons.mpr ⟨⟨RX3, TX3, 18, rfl, by decide, rfl, lwq_4 (dqc_m (dqc_m (dqc_m (dqc_m (dqc_m (dqa_m (dqa_m (dqa_m (List.mem_of_getElem? (i := 7) rfl))))))))) rfl⟩, List.forall_mem_cons.mpr ⟨⟨RX3, TX3, 18, rfl, by decide, rfl, lwq_4 (dqc_m (dqc_m (dqc_m (dqc_m (dqc_m (dqc_m (List.mem_of_getElem? (i := 3) rfl))))))) rfl⟩, List.forall_mem_cons.mpr ⟨⟨RX3, TX3, 18, rfl, by decide, rfl, lwq_4 (dqc_m (dqc_m (dqc_m (dqc_m (dqc_m (dqc_m (List.mem_of_getElem? (i := 5) rfl))))))) rfl⟩, List.forall_mem_cons.mpr ⟨⟨RX3, TX3, 18, rfl, by decide, rfl, lwq_4 (dqc_m (dqc_m (dqc_m (dqc_m (dqc_m (dqc_m (List.mem_of_getElem? (i := 1) rfl))))))) rfl⟩, List.forall_mem_cons.mpr ⟨⟨RX3, TX3, 18, rfl, by decide, rfl, lwq_4 (dqc_m (dqc_m (dqc_m (dqc_m (dqc_m (dqc_m (dqa_m (List.mem_of_getElem? (i := 1) rfl)))))))) rfl⟩, List.forall_mem_cons.mpr ⟨⟨RX3, TX3, 18, rfl, by decide, rfl, lwq_4 (dqc_m (dqc_m (dqc_m (dqc_m (dqc_m (dqc_m (dqa_m (List.mem_of_getElem? (i := 3) rfl)))))))) rfl⟩, List.forall_mem_cons.mpr ⟨⟨RX7, TX7, 14, rfl, by decide, rfl, lwq_1 (dqc_m (dqc_m (dqc_m (dqc_m (dqc_m (dqc_m (dqa_m (dqa_m (List.mem_of_getElem? (i := 7) rfl))))))))) rfl⟩, List.forall_mem_cons.mpr ⟨⟨RX7, TX7, 14, rfl, by decide, rfl, lwq_1 (dqc_m (dqc_m (dqc_m (dqc_m (dqc_m (dqc_m (dqa_m (dqa_m (dqa_m (List.mem_of_getElem? (i := 5) rfl)))))))))) rfl⟩, List.forall_mem_cons.mpr ⟨⟨RX7, TX7, 14, rfl, by decide, rfl, lwq_1 (dqc_m (dqc_m (dqc_m (dqc_m (dqc_m (dqc_m (dqa_m (dqa_m (dqa_m (List.mem_of_getElem? (i := 7) rfl)))))))))) rfl⟩, List.forall_mem_cons.mpr ⟨⟨RX10, TX10, 7, rfl, by decide, rfl, lwq_2 (dqc_m (dqc_m (dqc_m (dqc_m (dqc_m (dqa_m (List.mem_of_getElem? (i := 1) rfl))))))) rfl⟩, List.forall_mem_cons.mpr ⟨⟨RX9, TX9, 16, rfl, by decide, rfl, lwq_2 (dqa_m (dqa_m (dqa_m (List.mem_of_getElem? (i := 7) rfl)))) rfl⟩, List.forall_mem_cons.mpr ⟨⟨RX9, TX9, 16, rfl, by decide, rfl, lwq_2 (dqc_m (List.mem_of_getElem? (i := 3) rfl)) rfl⟩, List.forall_mem_cons.mpr ⟨⟨RX9, TX9, 16, rfl, by decide, rfl, lwq_2 (dqc_m (List.mem_of_getElem? (i := 1) rfl)) rfl⟩, List.forall_mem_cons.mpr ⟨⟨RX10, TX10, 7, rfl, by decide, rfl, lwq_2 (dqc_m (dqc_m (dqc_m (dqc_m (dqc_m (dqa_m (List.mem_of_getElem? (i := 2) rfl))))))) rfl⟩, List.forall_mem_cons.mpr ⟨⟨RX1, TX1, 16, rfl, by decide, rfl, lwq_2 (dqc_m (dqc_m (dqa_m (dqa_m (dqa_m (List.mem_of_getElem? (i := 0) rfl)))))) rfl⟩, List.forall_mem_cons.mpr ⟨⟨RX1, TX1, 16, rfl, by decide, rfl, lwq_2 (dqc_m (dqc_m (dqc_m (List.mem_of_getElem? (i := 4) rfl)))) rfl⟩, List.forall_mem_cons.mpr ⟨⟨RX1, TX1, 16, rfl, by decide, rfl, lwq_2 (dqc_m (dqc_m (dqa_m (dqa_m (dqa_m (List.mem_of_getElem? (i := 5) rfl)))))) rfl⟩, List.forall_mem_cons.mpr ⟨⟨RX1, TX1, 16, rfl, by decide, rfl, lwq_2 (dqc_m (dqc_m (dqc_m (dqa_m (List.mem_of_getElem? (i := 0) rfl))))) rfl⟩, List.forall_mem_cons.mpr ⟨⟨RX1, TX1, 16, rfl, by decide, rfl, lwq_2 (dqc_m (dqc_m (dqc_m (List.mem_of_getElem? (i := 1) rfl)))) rfl⟩, List.forall_mem_cons.mpr ⟨⟨RX1, TX1, 16, rfl, by decide, rfl, lwq_2 (dqc_m (dqc_m (dqa_m (dqa_m (dqa_m (List.mem_of_getElem? (i := 3) rfl)))))) rfl⟩, List.forall_mem_cons.mpr ⟨⟨RX1, TX1, 16, rfl, by decide, rfl, lwq_2 (dqc_m (dqc_m (dqc_m (List.mem_of_getElem? (i := 6) rfl)))) rfl⟩, List.forall_mem_cons.mpr ⟨⟨RX10, TX10, 7, rfl, by decide, rfl, lwq_2 (dqc_m (dqc_m (dqc_m (dqc_m (dqc_m (dqa_m (List.mem_of_getElem? (i := 3) rfl))))))) rfl⟩, List.forall_mem_cons.mpr ⟨⟨RX2, TX2, 11, rfl, by decide, rfl, lwq_4 (dqa_m (dqa_m (List.mem_of_getElem? (i := 0) rfl))) rfl⟩, fun _ h => absurd h List.not_mem_nil⟩⟩⟩⟩⟩⟩⟩⟩⟩⟩⟩⟩⟩⟩⟩⟩⟩⟩⟩⟩⟩⟩⟩⟩⟩⟩⟩⟩⟩⟩⟩⟩⟩⟩⟩⟩⟩⟩⟩⟩⟩⟩⟩⟩⟩⟩⟩⟩⟩⟩⟩⟩⟩⟩⟩⟩⟩⟩⟩⟩⟩⟩⟩⟩⟩⟩⟩⟩⟩⟩⟩
set_option maxRecDepth 100000 in
set_option maxHeartbeats 4000000 in
theorem tp_X10 : ∀ q ∈ fX10.2.1, fp_ RX10 q.1 q.2.1 q.2.2 := List.forall_mem_cons.mpr ⟨⟨RX5, TX5, 10, rfl, by decide, rfl, lwq_1 (dqc_m (List.mem_of_getElem? (i := 5) rfl)) rfl, by decide +kernel, Or.inl (by decide +kernel)⟩, List.forall_mem_cons.mpr ⟨⟨RX5, TX5, 10, rfl, by decide, rfl, lwq_1 (dqc_m (dqa_m (List.mem_of_getElem? (i := 2) rfl))) rfl, by decide +kernel, Or.inl (by decide +kernel)⟩, List.forall_mem_cons.mpr ⟨⟨RX6, TX6, 16, rfl, by decide, rfl, lwq_1 (dqc_m (dqc_m (dqc_m (dqc_m (dqa_m (dqa_m (List.mem_of_getElem? (i := 5) rfl))))))) rfl, by decide +kernel, Or.inl (by decide +kernel)⟩, List.forall_mem_cons.mpr ⟨⟨RX8, TX8, 14, rfl, by decide, rfl, lwq_1 (dqc_m (dqc_m (dqa_m (dqa_m (List.mem_of_getElem? (i := 7) rfl))))) rfl, by decide +kernel, Or.inl (by decide +kernel)⟩, List.forall_mem_cons.mpr ⟨⟨RX8, TX8, 14, rfl, by decide, rfl, lwq_1 (dqc_m (dqc_m (dqa_m (dqa_m (dqa_m (List.mem_of_getElem? (i := 0) rfl)))))) rfl, by decide +kernel, Or.inl (by decide +kernel)⟩, List.forall_mem_cons.mpr ⟨⟨RX8, TX8, 14, rfl, by decide, rfl, lwq_1 (dqc_m (dqc_m (dqc_m (dqa_m (List.mem_of_getElem? (i := 0) rfl))))) rfl, by decide +kernel, Or.inl (by decide +kernel)⟩, List.forall_mem_cons.mpr ⟨⟨RX8, TX8, 14, rfl, by decide, rfl, lwq_1 (dqc_m (dqc_m (dqc_m (dqa_m (List.mem_of_getElem? (i := 1) rfl))))) rfl, by decide +kernel, Or.inl (by decide +kernel)⟩, List.forall_mem_cons.mpr ⟨⟨RX0, TX0, 9, rfl, by decide, rfl, lwq_3 (dqc_m (dqc_m (dqc_m (dqa_m (List.mem_of_getElem? (i := 0) rfl))))) rfl, by decide +kernel, Or.inl (by decide +kernel)⟩, List.forall_mem_cons.mpr ⟨⟨RX2, TX2, 11, rfl, by decide, rfl, lwq_4 (dqa_m (List.mem_of_getElem? (i := 5) rfl)) rfl, by decide +kernel, Or.inl (by decide +kernel)⟩, List.forall_mem_cons.mpr ⟨⟨RX6, TX6, 16, rfl, by decide, rfl, lwq_1 (dqc_m (dqc_m (dqc_m (dqc_m (dqa_m (dqa_m (dqa_m (List.mem_of_getElem? (i := 6) rfl)))))))) rfl, by decide +kernel, Or.inl (by decide +kernel)⟩, List.forall_mem_cons.mpr ⟨⟨RX1, TX1, 16, rfl, by decide, rfl, lwq_2 (dqc_m (dqc_m (dqa_m (dqa_m (dqa_m (List.mem_of_getElem? (i := 7) rfl)))))) rfl, by decide +kernel, Or.inl (by decide +kernel)⟩, fun _ h => absurd h List.not_mem_nil⟩⟩⟩⟩⟩⟩⟩⟩⟩⟩⟩
theorem tb_X10 : tb_ RX10 fX10 := ⟨tg_X10, tp_X10, fun _ h => absurd h List.not_mem_nil, fun _ h => absurd h List.not_mem_nil⟩
def fX11 : Zf := ([(20, 11, 5), (252, 11, 1), (7, 11, 0), (259, 11, 62), (265, 11, 57), (271, 11, 60), (268, 11, 59), (288, 11, 61), (17, 11, 4), (168, 11, 69), (274, 11, 58), (156, 11, 65), (171, 11, 70), (159, 11, 66), (153, 11, 64), (162, 11, 67), (165, 11, 68), (308, 11, 6), (262, 11, 63), (13, 11, 2), (325, 11, 12), (39, 11, 13), (42, 11, 14), (328, 11, 15), (331, 11, 16), (45, 11, 17), (51, 11, 19), (54, 11, 20), (48, 11, 18), (334, 11, 21), (57, 11, 22), (60, 11, 23), (337, 11, 3), (26, 11, 8), (23, 11, 7), (29, 11, 9), (75, 11, 30), (343, 11, 29), (78, 11, 31), (81, 11, 32), (84, 11, 33), (87, 11, 34), (90, 11, 35), (99, 11, 38), (141, 11, 53), (147, 11, 55), (33, 11, 10), (36, 11, 11), (93, 11, 36), (96, 11, 37), (174, 11, 71), (356, 11, 73), (177, 11, 72), (180, 11, 74), (362, 11, 75), (365, 11, 24), (63, 11, 25), (66, 11, 26), (69, 11, 27), (72, 11, 28), (102, 11, 39), (105, 11, 40), (114, 11, 43), (111, 11, 42), (117, 11, 44), (108, 11, 41), (120, 11, 45), (123, 11, 46), (138, 11, 52), (150, 11, 56), (144, 11, 54), (463, 11, 47), (126, 11, 48), (129, 11, 49), (132, 11, 50), (135, 11, 51), (483, 11, 80), (192, 11, 81), (183, 11, 76), (477, 11, 82), (480, 11, 83), (499, 11, 85), (195, 11, 84), (198, 11, 86), (508, 11, 87), (186, 11, 77), (517, 11, 79), (189, 11, 78), (207, 11, 91), (210, 11, 92), (216, 11, 94), (219, 11, 96), (213, 11, 93), (545, 11, 95), (554, 11, 90), (204, 11, 89), (222, 11, 97), (201, 11, 88), (225, 11, 101), (228, 11, 102), (576, 11, 98), (579, 11, 99), (582, 11, 100), (231, 11, 104), (234, 11, 105), (599, 11, 103), (243, 11, 109), (246, 11, 110), (607, 11, 107), (249, 11, 111), (237, 11, 106), (240, 11, 108), (619, 11, 112), (622, 11, 113)], [(13, 11, 2), (201, 11, 88), (252, 11, 1), (259, 11, 62), (262, 11, 63), (265, 11, 57), (268, 11, 59), (271, 11, 60), (274, 11, 58), (288, 11, 61), (308, 11, 6), (325, 11, 12), (328, 11, 15), (331, 11, 16), (334, 11, 21), (337, 11, 3), (343, 11, 29), (356, 11, 73), (362, 11, 75), (365, 11, 24), (463, 11, 47), (477, 11, 82), (480, 11, 83), (508, 11, 87), (517, 11, 79), (499, 11, 85), (483, 11, 80), (554, 11, 90), (545, 11, 95), (576, 11, 98), (579, 11, 99), (582, 11, 100), (599, 11, 103), (619, 11, 112), (622, 11, 113), (607, 11, 107)], [(496, 1000003), (497, 73244475), (498, 2147483647), (602, 1664525), (603, 1013904223)], [(597, 2147483648)])
set_option maxRecDepth 100000 in
set_option maxHeartbeats 4000000 in
theorem tg_X11 : ∀ q ∈ fX11.1, fl_ RX11 q.1 q.2.1 q.2.2 := List.forall_mem_cons.mpr ⟨⟨RX11, TX11, 114, rfl, by decide, rfl, lwq_6 (dqc_m (dqc_m (dqc_m (dqc_m (dqc_m (dqc_m (dqc_m (dqa_m (List.mem_of_getElem? (i := 0) rfl))))))))) rfl⟩, List.forall_mem_cons.mpr ⟨⟨RX11, TX11, 114, rfl, by decide, rfl, lwq_6 (dqc_m (dqc_m (dqc_m (dqc_m (dqc_m (dqc_m (dqc_m (List.mem_of_getElem? (i := 4) rfl)))))))) rfl⟩, List.forall_mem_cons.mpr ⟨⟨RX11, TX11, 114, rfl, by decide, rfl, lwq_6 (dqc_m (dqc_m (dqc_m (dqc_m (dqc_m (dqc_m (dqc_m (List.mem_of_getElem? (i := 3) rfl)))))))) rfl⟩, List.forall_mem_cons.mpr ⟨⟨RX11, TX11, 114, rfl, by decide, rfl, lwq_7 (dqc_m (dqa_m (dqa_m (List.mem_of_getElem? (i := 1) rfl)))) rfl⟩, List.forall_mem_cons.mpr ⟨⟨RX11, TX11, 114, rfl, by decide, rfl, lwq_7 (dqc_m (dqa_m (List.mem_of_getElem? (i := 4) rfl))) rfl⟩, List.forall_mem_cons.mpr ⟨⟨RX11, TX11, 114, rfl, by decide, rfl, lwq_7 (dqc_m (dqa_m (List.mem_of_getElem? (i := 7) rfl))) rfl⟩, List.forall_mem_cons.mpr ⟨⟨RX11, TX11, 114, rfl, by decide, rfl, lwq_7 (dqc_m (dqa_m (List.mem_of_getElem? (i := 6) rfl))) rfl⟩, List.forall_mem_cons.mpr ⟨⟨RX11, TX11, 114, rfl, by decide, rfl, lwq_7 (dqc_m (dqa_m (dqa_m (List.mem_of_getElem? (i := 0) rfl)))) rfl⟩, List.forall_mem_cons.mpr ⟨⟨RX11, TX11, 114, rfl, by decide, rfl, lwq_6 (dqc_m (dqc_m (dqc_m (dqc_m (dqc_m (dqc_m (dqc_m (List.mem_of_getElem? (i := 7) rfl)))))))) rfl⟩, List.forall_mem_cons.mpr ⟨⟨RX11, TX11, 114, rfl, by decide, rfl, lwq_7 (dqc_m (dqa_m (dqa_m (dqa_m (List.mem_of_getElem? (i := 0) rfl))))) rfl⟩, List.forall_mem_cons.mpr ⟨⟨RX11, TX11, 114, rfl, by decide, rfl, lwq_7 (dqc_m (dqa_m (List.mem_of_getElem? (i := 5) rfl))) rfl⟩, List.forall_mem_cons.mpr ⟨⟨RX11, TX11, 114, rfl, by decide, rfl, lwq_7 (dqc_m (dqa_m (dqa_m (List.mem_of_getElem? (i := 4) rfl)))) rfl⟩, List.forall_mem_cons.mpr ⟨⟨RX11, TX11, 114, rfl, by decide, rfl, lwq_7 (dqc_m (dqa_m (dqa_m (dqa_m (List.mem_of_getElem? (i := 1) rfl))))) rfl⟩, List.forall_mem_cons.mpr ⟨⟨RX11, TX11, 114, rfl, by decide, rfl, lwq_7 (dqc_m (dqa_m (dqa_m (List.mem_of_getElem? (i := 5) rfl)))) rfl⟩, List.forall_mem_cons.mpr ⟨⟨RX11, TX11, 114, rfl, by decide, rfl, lwq_7 (dqc_m (dqa_m (dqa_m (List.mem_of_getElem? (i := 3) rfl)))) rfl⟩, List.forall_mem_cons.mpr ⟨⟨RX11, TX11, 114, rfl, by decide, rfl, lwq_7 (dqc_m (dqa_m (dqa_m (List.mem_of_getElem? (i := 6) rfl)))) rfl⟩, List.forall_mem_cons.mpr ⟨⟨RX11, TX11, 114, rfl, by decide, rfl, lwq_7 (dqc_m (dqa_m (dqa_m (List.mem_of_getElem? (i := 7) rfl)))) rfl⟩, List.forall_mem_cons.mpr ⟨⟨RX11, TX11, 114, rfl, by decide, rfl, lwq_6 (dqc_m (dqc_m (dqc_m (dqc_m (dqc_m (dqc_m (dqc_m (dqa_m (List.mem_of_getElem? (i := 1) rfl))))))))) rfl⟩, List.forall_mem_cons.mpr ⟨⟨RX11, TX11, 114, rfl, by decide, rfl, lwq_7 (dqc_m (dqa_m (dqa_m (List.mem_of_getElem? (i := 2) rfl)))) rfl⟩, List.forall_mem_cons.mpr ⟨⟨RX11, TX11, 114, rfl, by decide, rfl, lwq_6 (dqc_m (dqc_m (dqc_m (dqc_m (dqc_m (dqc_m (dqc_m (List.mem_of_getElem? (i := 5) rfl)))))))) rfl⟩, List.forall_mem_cons.mpr ⟨⟨RX11, TX11, 114, rfl, by decide, rfl, lwq_6 (dqc_m (dqc_m (dqc_m (dqc_m (dqc_m (dqc_m (dqc_m (dqa_m (List.mem_of_getElem? (i := 7) rfl))))))))) rfl⟩, List.forall_mem_cons.mpr ⟨⟨RX11, TX11, 114, rfl, by decide, rfl, lwq_7 (List.mem_of_getElem? (i := 0) rfl) rfl⟩, List.forall_mem_cons.mpr ⟨⟨RX11, TX11, 114, rfl, by decide, rfl, lwq_7 (List.mem_of_getElem? (i := 1) rfl) rfl⟩, List.forall_mem_cons.mpr ⟨⟨RX11, TX11, 114, rfl, by decide, rfl, lwq_7 (List.mem_of_getElem? (i := 2) rfl) rfl⟩, List.forall_mem_cons.mpr ⟨⟨RX11, TX11, 114, rfl, by decide, rfl, lwq_7 (List.mem_of_getElem? (i := 3) rfl) rfl⟩, List.forall_mem_cons.mpr ⟨⟨RX11, TX11, 114, rfl, by decide, rfl, lwq_7 (List.mem_of_getElem? (i := 4) rfl) rfl⟩, List.forall_mem_cons.mpr ⟨⟨RX11, TX11, 114, rfl, by decide, rfl, lwq_7 (List.mem_of_getElem? (i := 6) rfl) rfl⟩, List.forall_mem_cons.mpr ⟨⟨RX11, TX11, 114, rfl, by decide, rfl, lwq_7 (List.mem_of_getElem? (i := 7) rfl) rfl⟩, List.forall_mem_cons.mpr ⟨⟨RX11, TX11, 114, rfl, by decide, rfl, lwq_7 (List.mem_of_getElem? (i := 5) rfl) rfl⟩, List.forall_mem_cons.mpr ⟨⟨RX11, TX11, 114, rfl, by decide, rfl, lwq_7 (dqa_m (List.mem_of_getElem? (i := 0) rfl)) rfl⟩, List.forall_mem_cons.mpr ⟨⟨RX11, TX11, 114, rfl, by decide, rfl, lwq_7 (dqa_m (List.mem_of_getElem? (i := 1) rfl)) rfl⟩, List.forall_mem_cons.mpr ⟨⟨RX11, TX11, 114, rfl, by decide, rfl, lwq_7 (dqa_m (List.mem_of_getElem? (i := 2) rfl)) rfl⟩, List.forall_mem_cons.mpr ⟨⟨RX11, TX11, 114, rfl, by decide, rfl, lwq_6 (dqc_m (dqc_m (dqc_m (dqc_m (dqc_m (dqc_m (dqc_m (List.mem_of_getElem? (i := 6) rfl)))))))) rfl⟩, List.forall_mem_cons.mpr ⟨⟨RX11, TX11, 114, rfl, by decide, rfl, lwq_6 (dqc_m (dqc_m (dqc_m (dqc_m (dqc_m (dqc_m (dqc_m (dqa_m (List.mem_of_getElem? (i := 3) rfl))))))))) rfl⟩, List.forall_mem_cons.mpr ⟨⟨RX11, TX11, 114, rfl, by decide, rfl, lwq_6 (dqc_m (dqc_m (dqc_m (dqc_m (dqc_m (dqc_m (dqc_m (dqa_m (List.mem_of_getElem? (i := 2) rfl))))))))) rfl⟩, List.forall_mem_cons.mpr ⟨⟨RX11, TX11, 114, rfl, by decide, rfl, lwq_6 (dqc_m (dqc_m (dqc_m (dqc_m (dqc_m (dqc_m (dqc_m (dqa_m (List.mem_of_getElem? (i := 4) rfl))))))))) rfl⟩, List.forall_mem_cons.mpr ⟨⟨RX11, TX11, 114, rfl, by decide, rfl, lwq_7 (dqa_m (dqa_m (List.mem_of_getElem? (i := 1) rfl))) rfl⟩, List.forall_mem_cons.mpr ⟨⟨RX11, TX11, 114, rfl, by decide, rfl, lwq_7 (dqa_m (dqa_m (List.mem_of_getElem? (i := 0) rfl))) rfl⟩, List.forall_mem_cons.mpr ⟨⟨RX11, TX11, 114, rfl, by decide, rfl, lwq_7 (dqa_m (dqa_m (List.mem_of_getElem? (i := 2) rfl))) rfl⟩, List.forall_mem_cons.mpr ⟨⟨RX11, TX11, 114, rfl, by decide, rfl, lwq_7 (dqa_m (dqa_m (List.mem_of_getElem? (i := 3) rfl))) rfl⟩, List.forall_mem_cons.mpr ⟨⟨RX11, TX11, 114, rfl, by decide, rfl, lwq_7 (dqa_m (dqa_m (List.mem_of_getElem? (i := 4) rfl))) rfl⟩, List.forall_mem_cons.mpr ⟨⟨RX11, TX11, 114, rfl, by decide, rfl, lwq_7 (dqa_m (dqa_m (List.mem_of_getElem? (i := 5) rfl))) rfl⟩, List.forall_mem_cons.mpr ⟨⟨RX11, TX11, 114, rfl, by decide, rfl, lwq_7 (dqa_m (dqa_m (List.mem_of_getElem? (i := 6) rfl))) rfl⟩, List.forall_mem_cons.mpr ⟨⟨RX11, TX11, 114, rfl, by decide, rfl, lwq_7 (dqa_m (dqa_m (dqa_m (List.mem_of_getElem? (i := 1) rfl)))) rfl⟩, List.forall_mem_cons.mpr ⟨⟨RX11, TX11, 114, rfl, by decide, rfl, lwq_7 (dqc_m (dqa_m (List.mem_of_getElem? (i := 0) rfl))) rfl⟩, List.forall_mem_cons.mpr ⟨⟨RX11, TX11, 114, rfl, by decide, rfl, lwq_7 (dqc_m (dqa_m (List.mem_of_getElem? (i := 2) rfl))) rfl⟩, List.forall_mem_cons.mpr ⟨⟨RX11, TX11, 114, rfl, by decide, rfl, lwq_6 (dqc_m (dqc_m (dqc_m (dqc_m (dqc_m (dqc_m (dqc_m (dqa_m (List.mem_of_getElem? (i := 5) rfl))))))))) rfl⟩, List.forall_mem_cons.mpr ⟨⟨RX11, TX11, 114, rfl, by decide, rfl, lwq_6 (dqc_m (dqc_m (dqc_m (dqc_m (dqc_m (dqc_m (dqc_m (dqa_m (List.mem_of_getElem? (i := 6) rfl))))))))) rfl⟩, List.forall_mem_cons.mpr ⟨⟨RX11, TX11, 114, rfl, by decide, rfl, lwq_7 (dqa_m (dqa_m (List.mem_of_getElem? (i := 7) rfl))) rfl⟩, List.forall_mem_cons.mpr ⟨⟨RX11, TX11, 114, rfl, by decide, rfl, lwq_7 (dqa_m (dqa_m (dqa_m (List.mem_of_getElem? (i := 0) rfl)))) rfl⟩, List.forall_mem_cons.mpr ⟨⟨RX11, TX11, 114, rfl, by decide, rfl, lwq_7 (dqc_m (dqa_m (dqa_m (dqa_m (List.mem_of_getElem? (i := 2) rfl))))) rfl⟩, List.forall_mem_cons.mpr ⟨⟨RX11, TX11, 114, rfl, by decide, rfl, lwq_7 (dqc_m (dqa_m (dqa_m (dqa_m (List.mem_of_getElem? (i := 4) rfl))))) rfl⟩, List.forall_mem_cons.mpr ⟨⟨RX11, TX11, 114, rfl, by decide, rfl, lwq_7 (dqc_m (dqa_m (dqa_m (dqa_m (List.mem_of_getElem? (i := 3) rfl))))) rfl⟩, List.forall_mem_cons.mpr ⟨⟨RX11, TX11, 114, rfl, by decide, rfl, lwq_7 (dqc_m (dqa_m (dqa_m (dqa_m (List.mem_of_getElem? (i := 5) rfl))))) rfl⟩, List.forall_mem_cons.mpr ⟨⟨RX11, TX11, 114, rfl, by decide, rfl, lwq_7 (dqc_m (dqa_m (dqa_m (dqa_m (List.mem_of_getElem? (i := 6) rfl))))) rfl⟩, List.forall_mem_cons.mpr ⟨⟨RX11, TX11, 114, rfl, by decide, rfl, lwq_7 (dqa_m (List.mem_of_getElem? (i := 3) rfl)) rfl⟩, List.forall_mem_cons.mpr ⟨⟨RX11, TX11, 114, rfl, by decide, rfl, lwq_7 (dqa_m (List.mem_of_getElem? (i := 4) rfl)) rfl⟩, List.forall_mem_cons.mpr ⟨⟨RX11, TX11, 114, rfl, by decide, rfl, lwq_7 (dqa_m (List.mem_of_getElem? (i := 5) rfl)) rfl⟩, List.forall_mem_cons.mpr ⟨⟨RX11, TX11, 114, rfl, by decide, rfl, lwq_7 (dqa_m (List.mem_of_getElem? (i := 6) rfl)) rfl⟩, List.forall_mem_cons.mpr ⟨⟨RX11, TX11, 114, rfl, by decide, rfl, lwq_7 (dqa_m (List.mem_of_getElem? (i := 7) rfl)) rfl⟩, List.forall_mem_cons.mpr ⟨⟨RX11, TX11, 114, rfl, by decide, rfl, lwq_7 (dqa_m (dqa_m (dqa_m (List.mem_of_getElem? (i := 2) rfl)))) rfl⟩, List.forall_mem_cons.mpr ⟨⟨RX11, TX11, 114, rfl, by decide, rfl, lwq_7 (dqa_m (dqa_m (dqa_m (List.mem_of_getElem? (i := 3) rfl)))) rfl⟩, List.forall_mem_cons.mpr ⟨⟨RX11, TX11, 114, rfl, by decide, rfl, lwq_7 (dqa_m (dqa_m (dqa_m (List.mem_of_getElem? (i := 6) rfl)))) rfl⟩, List.forall_mem_cons.mpr ⟨⟨RX11, TX11, 114, rfl, by decide, rfl, lwq_7 (dqa_m (dqa_m (dqa_m (List.mem_of_getElem? (i := 5) rfl)))) rfl⟩, List.forall_mem_cons.mpr ⟨⟨RX11, TX11, 114, rfl, by decide, rfl, lwq_7 (dqa_m (dqa_m (dqa_m (List.mem_of_getElem? (i := 7) rfl)))) rfl⟩, List.forall_mem_cons.mpr ⟨⟨RX11, TX11, 114, rfl, by decide, rfl, lwq_7 (dqa_m (dqa_m (dqa_m (List.mem_of_getElem? (i := 4) rfl)))) rfl⟩, List.forall_mem_cons.mpr ⟨⟨RX11, TX11, 114, rfl, by decide, rfl, lwq_7 (dqc_m (List.mem_of_getElem? (i := 0) rfl)) rfl⟩, List.forall_mem_cons.mpr ⟨⟨RX11, TX11, 114, rfl, by decide, rfl, lwq_7 (dqc_m (List.mem_of_getElem? (i := 1) rfl)) rfl⟩, List.forall_mem_cons.mpr ⟨⟨RX11, TX11, 114, rfl, by decide, rfl, lwq_7 (dqc_m (List.mem_of_getElem? (i := 7) rfl)) rfl⟩, List.forall_mem_cons.mpr ⟨⟨RX11, TX11, 114, rfl, by decide, rfl, lwq_7 (dqc_m (dqa_m (List.mem_of_getElem? (i := 3) rfl))) rfl⟩, List.forall_mem_cons.mpr ⟨⟨RX11, TX11, 114, rfl, by decide, rfl, lwq_7 (dqc_m (dqa_m (List.mem_of_getElem? (i := 1) rfl))) rfl⟩, List.forall_mem_cons.mpr ⟨⟨RX11, TX11, 114, rfl, by decide, rfl, lwq_7 (dqc_m (List.mem_of_getElem? (i := 2) rfl)) rfl⟩, List.forall_mem_cons.mpr ⟨⟨RX11, TX11, 114, rfl, by decide, rfl, lwq_7 (dqc_m (List.mem_of_getElem? (i := 3) rfl)) rfl⟩, List.forall_mem_cons.mpr ⟨⟨RX11, TX11, 114, rfl, by decide, rfl, lwq_7 (dqc_m (List.mem_of_getElem? (i := 4) rfl)) rfl⟩, List.forall_mem_cons.mpr ⟨⟨RX11, TX11, 114, rfl, by decide, rfl, lwq_7 (dqc_m (List.mem_of_getElem? (i := 5) rfl)) rfl⟩, List.forall_mem_cons.mpr ⟨⟨RX11, TX11, 114, rfl, by decide, rfl, lwq_7 (dqc_m (List.mem_of_getElem? (i := 6) rfl)) rfl⟩, List.forall_mem_cons.mpr ⟨⟨RX11, TX11, 114, rfl, by decide, rfl, lwq_7 (dqc_m (dqc_m (List.mem_of_getElem? (i := 3) rfl))) rfl⟩, List.forall_mem_cons.mpr ⟨⟨RX11, TX11, 114, rfl, by decide, rfl, lwq_7 (dqc_m (dqc_m (List.mem_of_getElem? (i := 4) rfl))) rfl⟩, List.forall_mem_cons.mpr ⟨⟨RX11, TX11, 114, rfl, by decide, rfl, lwq_7 (dqc_m (dqa_m (dqa_m (dqa_m (List.mem_of_getElem? (i := 7) rfl))))) rfl⟩, List.forall_mem_cons.mpr ⟨⟨RX11, TX11, 114, rfl, by decide, rfl, lwq_7 (dqc_m (dqc_m (List.mem_of_getElem? (i := 5) rfl))) rfl⟩, List.forall_mem_cons.mpr ⟨⟨RX11, TX11, 114, rfl, by decide, rfl, lwq_7 (dqc_m (dqc_m (List.mem_of_getElem? (i := 6) rfl))) rfl⟩, List.forall_mem_cons.mpr ⟨⟨RX11, TX11, 114, rfl, by decide, rfl, lwq_7 (dqc_m (dqc_m (dqa_m (List.mem_of_getElem? (i := 0) rfl)))) rfl⟩, List.forall_mem_cons.mpr ⟨⟨RX11, TX11, 114, rfl, by decide, rfl, lwq_7 (dqc_m (dqc_m (List.mem_of_getElem? (i := 7) rfl))) rfl⟩, List.forall_mem_cons.mpr ⟨⟨RX11, TX11, 114, rfl, by decide, rfl, lwq_7 (dqc_m (dqc_m (dqa_m (List.mem_of_getElem? (i := 1) rfl)))) rfl⟩, List.forall_mem_cons.mpr ⟨⟨RX11, TX11, 114, rfl, by decide, rfl, lwq_7 (dqc_m (dqc_m (dqa_m (List.mem_of_getElem? (i := 2) rfl)))) rfl⟩, List.forall_mem_cons.mpr ⟨⟨RX11, TX11, 114, rfl, by decide, rfl, lwq_7 (dqc_m (dqc_m (List.mem_of_getElem? (i := 0) rfl))) rfl⟩, List.forall_mem_cons.mpr ⟨⟨RX11, TX11, 114, rfl, by decide, rfl, lwq_7 (dqc_m (dqc_m (List.mem_of_getElem? (i := 2) rfl))) rfl⟩, List.forall_mem_cons.mpr ⟨⟨RX11, TX11, 114, rfl, by decide, rfl, lwq_7 (dqc_m (dqc_m (List.mem_of_getElem? (i := 1) rfl))) rfl⟩, List.forall_mem_cons.mpr ⟨⟨RX11, TX11, 114, rfl, by decide, rfl, lwq_7 (dqc_m (dqc_m (dqa_m (List.mem_of_getElem? (i := 6) rfl)))) rfl⟩, List.forall_mem_cons.mpr ⟨⟨RX11, TX11, 114, rfl, by decide, rfl, lwq_7 (dqc_m (dqc_m (dqa_m (List.mem_of_getElem? (i := 7) rfl)))) rfl⟩, List.forall_mem_cons.mpr ⟨⟨RX11, TX11, 114, rfl, by decide, rfl, lwq_7 (dqc_m (dqc_m (dqa_m (dqa_m (List.mem_of_getElem? (i := 1) rfl))))) rfl⟩, List.forall_mem_cons.mpr ⟨⟨RX11, TX11, 114, rfl, by decide, rfl, lwq_7 (dqc_m (dqc_m (dqa_m (dqa_m (List.mem_of_getElem? (i := 3) rfl))))) rfl⟩, List.forall_mem_cons.mpr ⟨⟨RX11, TX11, 114, rfl, by decide, rfl, lwq_7 (dqc_m (dqc_m (dqa_m (dqa_m (List.mem_of_getElem? (i := 0) rfl))))) rfl⟩, List.forall_mem_cons.mpr ⟨⟨RX11, TX11, 114, rfl, by decide, rfl, lwq_7 (dqc_m (dqc_m (dqa_m (dqa_m (List.mem_of_getElem? (i := 2) rfl))))) rfl⟩, List.forall_mem_cons.mpr ⟨⟨RX11, TX11, 114, rfl, by decide, rfl, lwq_7 (dqc_m (dqc_m (dqa_m (List.mem_of_getElem? (i := 5) rfl)))) rfl⟩, List.forall_mem_cons.mpr ⟨⟨RX11, TX11, 114, rfl, by decide, rfl, lwq_7 (dqc_m (dqc_m (dqa_m (List.mem_of_getElem? (i := 4) rfl)))) rfl⟩, List.forall_mem_cons.mpr ⟨⟨RX11, TX11, 114, rfl, by decide, rfl, lwq_7 (dqc_m (dqc_m (dqa_m (dqa_m (List.mem_of_getElem? (i := 4) rfl))))) rfl⟩, List.forall_mem_cons.mpr ⟨⟨RX11, TX11, 114, rfl, by decide, rfl, lwq_7 (dqc_m (dqc_m (dqa_m (List.mem_of_getElem? (i := 3) rfl)))) rfl⟩, List.forall_mem_cons.mpr ⟨⟨RX11, TX11, 114, rfl, by decide, rfl, lwq_7 (dqc_m (dqc_m (dqa_m (dqa_m (dqa_m (List.mem_of_getElem? (i := 0) rfl)))))) rfl⟩, List.forall_mem_cons.mpr ⟨⟨RX11, TX11, 114, rfl, by decide, rfl, lwq_7 (dqc_m (dqc_m (dqa_m (dqa_m (dqa_m (List.mem_of_getElem? (i := 1) rfl)))))) rfl⟩, List.forall_mem_cons.mpr ⟨⟨RX11, TX11, 114, rfl, by decide, rfl, lwq_7 (dqc_m (dqc_m (dqa_m (dqa_m (List.mem_of_getElem? (i := 5) rfl))))) rfl⟩, List.forall_mem_cons.mpr ⟨⟨RX11, TX11, 114, rfl, by decide, rfl, lwq_7 (dqc_m (dqc_m (dqa_m (dqa_m (List.mem_of_getElem? (i := 6) rfl))))) rfl⟩, List.forall_mem_cons.mpr ⟨⟨RX11, TX11, 114, rfl, by decide, rfl, lwq_7 (dqc_m (dqc_m (dqa_m (dqa_m (List.mem_of_getElem? (i := 7) rfl))))) rfl⟩, List.forall_mem_cons.mpr ⟨⟨RX11, TX11, 114, rfl, by decide, rfl, lwq_7 (dqc_m (dqc_m (dqa_m (dqa_m (dqa_m (List.mem_of_getElem? (i := 3) rfl)))))) rfl⟩, List.forall_mem_cons.mpr ⟨⟨RX11, TX11, 114, rfl, by decide, rfl, lwq_7 (dqc_m (dqc_m (dqa_m (dqa_m (dqa_m (List.mem_of_getElem? (i := 4) rfl)))))) rfl⟩, List.forall_mem_cons.mpr ⟨⟨RX11, TX11, 114, rfl, by decide, rfl, lwq_7 (dqc_m (dqc_m (dqa_m (dqa_m (dqa_m (List.mem_of_getElem? (i := 2) rfl)))))) rfl⟩, List.forall_mem_cons.mpr ⟨⟨RX11, TX11, 114, rfl, by decide, rfl, lwq_7 (dqc_m (dqc_m (dqc_m (List.mem_of_getElem? (i := 0) rfl)))) rfl⟩, List.forall_mem_cons.mpr ⟨⟨RX11, TX11, 114, rfl, by decide, rfl, lwq_7 (dqc_m (dqc_m (dqc_m (List.mem_of_getElem? (i := 1) rfl)))) rfl⟩, List.forall_mem_cons.mpr ⟨⟨RX11, TX11, 114, rfl, by decide, rfl, lwq_7 (dqc_m (dqc_m (dqa_m (dqa_m (dqa_m (List.mem_of_getElem? (i := 6) rfl)))))) rfl⟩, List.forall_mem_cons.mpr ⟨⟨RX11, TX11, 114, rfl, by decide, rfl, lwq_7 (dqc_m (dqc_m (dqc_m (List.mem_of_getElem? (i := 2) rfl)))) rfl⟩, List.forall_mem_cons.mpr ⟨⟨RX11, TX11, 114, rfl, by decide, rfl, lwq_7 (dqc_m (dqc_m (dqa_m (dqa_m (dqa_m (List.mem_of_getElem? (i := 5) rfl)))))) rfl⟩, List.forall_mem_cons.mpr ⟨⟨RX11, TX11, 114, rfl, by decide, rfl, lwq_7 (dqc_m (dqc_m (dqa_m (dqa_m (dqa_m (List.mem_of_getElem? (i := 7) rfl)))))) rfl⟩, List.forall_mem_cons.mpr ⟨⟨RX11, TX11, 114, rfl, by decide, rfl, lwq_7 (dqc_m (dqc_m (dqc_m (List.mem_of_getElem? (i := 3) rfl)))) rfl⟩, List.forall_mem_cons.mpr ⟨⟨RX11, TX11, 114, rfl, by decide, rfl, lwq_7 (dqc_m (dqc_m (dqc_m (List.mem_of_getElem? (i := 4) rfl)))) rfl⟩, fun _ h => absurd h List.not_mem_nil⟩⟩⟩⟩⟩⟩⟩⟩⟩⟩⟩⟩⟩⟩⟩⟩⟩⟩⟩⟩⟩⟩⟩⟩⟩⟩⟩⟩⟩⟩⟩⟩⟩⟩⟩⟩⟩⟩⟩⟩⟩⟩⟩⟩⟩⟩⟩⟩⟩⟩⟩⟩⟩⟩⟩⟩⟩⟩⟩⟩⟩⟩⟩⟩⟩⟩⟩⟩⟩⟩⟩⟩⟩⟩⟩⟩⟩⟩⟩⟩⟩⟩⟩⟩⟩⟩⟩⟩⟩⟩⟩⟩⟩⟩⟩⟩⟩⟩⟩⟩⟩⟩⟩⟩⟩⟩⟩⟩⟩⟩⟩⟩⟩⟩
set_option maxRecDepth 100000 in
set_option maxHeartbeats 4000000 in
theorem tp_X11 : ∀ q ∈ fX11.2.1, fp_ RX11 q.1 q.2.1 q.2.2 := List.forall_mem_cons.mpr ⟨⟨RX11, TX11, 114, rfl, by decide, rfl, lwq_6 (dqc_m (dqc_m (dqc_m (dqc_m (dqc_m (dqc_m (dqc_m (List.mem_of_getElem? (i := 5) rfl)))))))) rfl, by decide +kernel, Or.inl (by decide +kernel)⟩, List.forall_mem_cons.mpr ⟨⟨RX11, TX11, 114, rfl, by decide, rfl, lwq_7 (dqc_m (dqc_m (dqa_m (List.mem_of_getElem? (i := 3) rfl)))) rfl, by decide +kernel, Or.inl (by decide +kernel)⟩, List.forall_mem_cons.mpr ⟨⟨RX11, TX11, 114, rfl, by decide, rfl, lwq_6 (dqc_m (dqc_m (dqc_m (dqc_m (dqc_m (dqc_m (dqc_m (List.mem_of_getElem? (i := 4) rfl)))))))) rfl, by decide +kernel, Or.inl (by decide +kernel)⟩, List.forall_mem_cons.mpr ⟨⟨RX11, TX11, 114, rfl, by decide, rfl, lwq_7 (dqc_m (dqa_m (dqa_m (List.mem_of_getElem? (i := 1) rfl)))) rfl, by decide +kernel, Or.inl (by decide +kernel)⟩, List.forall_mem_cons.mpr ⟨⟨RX11, TX11, 114, rfl, by decide, rfl, lwq_7 (dqc_m (dqa_m (dqa_m (List.mem_of_getElem? (i := 2) rfl)))) rfl, by decide +kernel, Or.inl (by decide +kernel)⟩, List.forall_mem_cons.mpr ⟨⟨RX11, TX11, 114, rfl, by decide, rfl, lwq_7 (dqc_m (dqa_m (List.mem_of_getElem? (i := 4) rfl))) rfl, by decide +kernel, Or.inl (by decide +kernel)⟩, List.forall_mem_cons.mpr ⟨⟨RX11, TX11, 114, rfl, by decide, rfl, lwq_7 (dqc_m (dqa_m (List.mem_of_getElem? (i := 6) rfl))) rfl, by decide +kernel, Or.inl (by decide +kernel)⟩, List.forall_mem_cons.mpr ⟨⟨RX11, TX11, 114, rfl, by decide, rfl, lwq_7 (dqc_m (dqa_m (List.mem_of_getElem? (i := 7) rfl))) rfl, by decide +kernel, Or.inl (by decide +kernel)⟩, List.forall_mem_cons.mpr ⟨⟨RX11, TX11, 114, rfl, by decide, rfl, lwq_7 (dqc_m (dqa_m (List.mem_of_getElem? (i := 5) rfl))) rfl, by decide +kernel, Or.inl (by decide +kernel)⟩, List.forall_mem_cons.mpr ⟨⟨RX11, TX11, 114, rfl, by decide, rfl, lwq_7 (dqc_m (dqa_m (dqa_m (List.mem_of_getElem? (i := 0) rfl)))) rfl, by decide +kernel, Or.inl (by decide +kernel)⟩, List.forall_mem_cons.mpr ⟨⟨RX11, TX11, 114, rfl, by decide, rfl, lwq_6 (dqc_m (dqc_m (dqc_m (dqc_m (dqc_m (dqc_m (dqc_m (dqa_m (List.mem_of_getElem? (i := 1) rfl))))))))) rfl, by decide +kernel, Or.inl (by decide +kernel)⟩, List.forall_mem_cons.mpr ⟨⟨RX11, TX11, 114, rfl, by decide, rfl, lwq_6 (dqc_m (dqc_m (dqc_m (dqc_m (dqc_m (dqc_m (dqc_m (dqa_m (List.mem_of_getElem? (i := 7) rfl))))))))) rfl, by decide +kernel, Or.inl (by decide +kernel)⟩, List.forall_mem_cons.mpr ⟨⟨RX11, TX11, 114, rfl, by decide, rfl, lwq_7 (List.mem_of_getElem? (i := 2) rfl) rfl, by decide +kernel, Or.inl (by decide +kernel)⟩, List.forall_mem_cons.mpr ⟨⟨RX11, TX11, 114, rfl, by decide, rfl, lwq_7 (List.mem_of_getElem? (i := 3) rfl) rfl, by decide +kernel, Or.inl (by decide +kernel)⟩, List.forall_mem_cons.mpr ⟨⟨RX11, TX11, 114, rfl, by decide, rfl, lwq_7 (dqa_m (List.mem_of_getElem? (i := 0) rfl)) rfl, by decide +kernel, Or.inl (by decide +kernel)⟩, List.forall_mem_cons.mpr ⟨⟨RX11, TX11, 114, rfl, by decide, rfl, lwq_6 (dqc_m (dqc_m (dqc_m (dqc_m (dqc_m (dqc_m (dqc_m (List.mem_of_getElem? (i := 6) rfl)))))))) rfl, by decide +kernel, Or.inl (by decide +kernel)⟩, List.forall_mem_cons.mpr ⟨⟨RX11, TX11, 114, rfl, by decide, rfl, lwq_7 (dqa_m (dqa_m (List.mem_of_getElem? (i := 0) rfl))) rfl, by decide +kernel, Or.inl (by decide +kernel)⟩, List.forall_mem_cons.mpr ⟨⟨RX11, TX11, 114, rfl, by decide, rfl, lwq_7 (dqc_m (dqa_m (dqa_m (dqa_m (List.mem_of_getElem? (i := 4) rfl))))) rfl, by decide +kernel, Or.inl (by decide +kernel)⟩, List.forall_mem_cons.mpr ⟨⟨RX11, TX11, 114, rfl, by decide, rfl, lwq_7 (dqc_m (dqa_m (dqa_m (dqa_m (List.mem_of_getElem? (i := 6) rfl))))) rfl, by decide +kernel, Or.inl (by decide +kernel)⟩, List.forall_mem_cons.mpr ⟨⟨RX11, TX11, 114, rfl, by decide, rfl, lwq_7 (dqa_m (List.mem_of_getElem? (i := 3) rfl)) rfl, by decide +kernel, Or.inl (by decide +kernel)⟩, List.forall_mem_cons.mpr ⟨⟨RX11, TX11, 114, rfl, by decide, rfl, lwq_7 (dqc_m (List.mem_of_getElem? (i := 2) rfl)) rfl, by decide +kernel, Or.inl (by decide +kernel)⟩, List.forall_mem_cons.mpr ⟨⟨RX11, TX11, 114, rfl, by decide, rfl, lwq_7 (dqc_m (dqc_m (List.mem_of_getElem? (i := 5) rfl))) rfl, by decide +kernel, Or.inl (by decide +kernel)⟩, List.forall_mem_cons.mpr ⟨⟨RX11, TX11, 114, rfl, by decide, rfl, lwq_7 (dqc_m (dqc_m (List.mem_of_getElem? (i := 6) rfl))) rfl, by decide +kernel, Or.inl (by decide +kernel)⟩, List.forall_mem_cons.mpr ⟨⟨RX11, TX11, 114, rfl, by decide, rfl, lwq_7 (dqc_m (dqc_m (dqa_m (List.mem_of_getElem? (i := 2) rfl)))) rfl, by decide +kernel, Or.inl (by decide +kernel)⟩, List.forall_mem_cons.mpr ⟨⟨RX11, TX11, 114, rfl, by decide, rfl, lwq_7 (dqc_m (dqc_m (List.mem_of_getElem? (i := 2) rfl))) rfl, by decide +kernel, Or.inl (by decide +kernel)⟩, List.forall_mem_cons.mpr ⟨⟨RX11, TX11, 114, rfl, by decide, rfl, lwq_7 (dqc_m (dqc_m (dqa_m (List.mem_of_getElem? (i := 0) rfl)))) rfl, by decide +kernel, Or.inl (by decide +kernel)⟩, List.forall_mem_cons.mpr ⟨⟨RX11, TX11, 114, rfl, by decide, rfl, lwq_7 (dqc_m (dqc_m (List.mem_of_getElem? (i := 3) rfl))) rfl, by decide +kernel, Or.inr ⟨by decide +kernel, 0, by decide +kernel⟩⟩, List.forall_mem_cons.mpr ⟨⟨RX11, TX11, 114, rfl, by decide, rfl, lwq_7 (dqc_m (dqc_m (dqa_m (List.mem_of_getElem? (i := 5) rfl)))) rfl, by decide +kernel, Or.inl (by decide +kernel)⟩, List.forall_mem_cons.mpr ⟨⟨RX11, TX11, 114, rfl, by decide, rfl, lwq_7 (dqc_m (dqc_m (dqa_m (dqa_m (List.mem_of_getElem? (i := 2) rfl))))) rfl, by decide +kernel, Or.inl (by decide +kernel)⟩, List.forall_mem_cons.mpr ⟨⟨RX11, TX11, 114, rfl, by decide, rfl, lwq_7 (dqc_m (dqc_m (dqa_m (dqa_m (List.mem_of_getElem? (i := 5) rfl))))) rfl, by decide +kernel, Or.inr ⟨by decide +kernel, 0, by decide +kernel⟩⟩, List.forall_mem_cons.mpr ⟨⟨RX11, TX11, 114, rfl, by decide, rfl, lwq_7 (dqc_m (dqc_m (dqa_m (dqa_m (List.mem_of_getElem? (i := 6) rfl))))) rfl, by decide +kernel, Or.inl (by decide +kernel)⟩, List.forall_mem_cons.mpr ⟨⟨RX11, TX11, 114, rfl, by decide, rfl, lwq_7 (dqc_m (dqc_m (dqa_m (dqa_m (List.mem_of_getElem? (i := 7) rfl))))) rfl, by decide +kernel, Or.inl (by decide +kernel)⟩, List.forall_mem_cons.mpr ⟨⟨RX11, TX11, 114, rfl, by decide, rfl, lwq_7 (dqc_m (dqc_m (dqa_m (dqa_m (dqa_m (List.mem_of_getElem? (i := 2) rfl)))))) rfl, by decide +kernel, Or.inl (by decide +kernel)⟩, List.forall_mem_cons.mpr ⟨⟨RX11, TX11, 114, rfl, by decide, rfl, lwq_7 (dqc_m (dqc_m (dqc_m (List.mem_of_getElem? (i := 3) rfl)))) rfl, by decide +kernel, Or.inl (by decide +kernel)⟩, List.forall_mem_cons.mpr ⟨⟨RX11, TX11, 114, rfl, by decide, rfl, lwq_7 (dqc_m (dqc_m (dqc_m (List.mem_of_getElem? (i := 4) rfl)))) rfl, by decide +kernel, Or.inl (by decide +kernel)⟩, List.forall_mem_cons.mpr ⟨⟨RX11, TX11, 114, rfl, by decide, rfl, lwq_7 (dqc_m (dqc_m (dqa_m (dqa_m (dqa_m (List.mem_of_getElem? (i := 6) rfl)))))) rfl, by decide +kernel, Or.inl (by decide +kernel)⟩, fun _ h => absurd h List.not_mem_nil⟩⟩⟩⟩⟩⟩⟩⟩⟩⟩⟩⟩⟩⟩⟩⟩⟩⟩⟩⟩⟩⟩⟩⟩⟩⟩⟩⟩⟩⟩⟩⟩⟩⟩⟩⟩
theorem tb_X11 : tb_ RX11 fX11 := ⟨tg_X11, tp_X11, List.forall_mem_cons.mpr ⟨⟨lwq_9 (dqc_m (dqc_m (dqc_m (dqc_m (dqc_m (dqc_m (dqa_m (List.mem_of_getElem? (i := 1) rfl)))))))) rfl, by decide, by decide⟩, List.forall_mem_cons.mpr ⟨⟨lwq_9 (dqc_m (dqc_m (dqc_m (dqc_m (dqc_m (dqc_m (dqa_m (List.mem_of_getElem? (i := 2) rfl)))))))) rfl, by decide, by decide⟩, List.forall_mem_cons.mpr ⟨⟨lwq_9 (dqc_m (dqc_m (dqc_m (dqc_m (dqc_m (dqc_m (dqa_m (List.mem_of_getElem? (i := 3) rfl)))))))) rfl, by decide, by decide⟩, List.forall_mem_cons.mpr ⟨⟨lwq_10 (dqc_m (dqc_m (dqa_m (dqa_m (List.mem_of_getElem? (i := 0) rfl))))) rfl, by decide, by decide⟩, List.forall_mem_cons.mpr ⟨⟨lwq_10 (dqc_m (dqc_m (dqa_m (dqa_m (List.mem_of_getElem? (i := 1) rfl))))) rfl, by decide, by decide⟩, fun _ h => absurd h List.not_mem_nil⟩⟩⟩⟩⟩, List.forall_mem_cons.mpr ⟨⟨lwq_10 (dqc_m (dqc_m (dqa_m (List.mem_of_getElem? (i := 7) rfl)))) rfl, by decide, by decide⟩, fun _ h => absurd h List.not_mem_nil⟩⟩
-- the table's bounds of a picture
theorem bd_f {T : Zt} (hT : ok_T T) (k j : Nat) {c k' : Nat} {lo hi : Int} (h : (tf_ k)[j]? = some (c, k', lo, hi)) (i : Int) : lo ≤ T k i (j : Int) ∧ T k i (j : Int) ≤ hi := hT.2.1 k j c k' lo hi h i
theorem bd_a {T : Zt} (hT : ok_T T) (k : Nat) {t : Nat} {n : Option Int} {lo hi : Int} (h : ta_ k = some (t, n, lo, hi)) (i : Int) {x : Int} (hx : 0 ≤ x) : lo ≤ T k i x ∧ T k i x ≤ hi := hT.1 k t n lo hi h i x hx
-- blocks, checked over the row of bytes that begins at their place
theorem qb_u1 {cc : ByteArray} {p : Nat} {b : UInt8} {r : List UInt8} (h : cc.data.toList.drop p = b :: r) : (Reader.u1 (ε := DecodeError)) cc p = Except.ok (b.toNat, p + 1) := by
  have hl : p < cc.data.toList.length := by
    apply Classical.byContradiction
    intro n
    rw [List.drop_eq_nil_of_le (by omega)] at h
    cases h
  have hs : p < cc.size := hl
  have hb : cc[p]'hs = b := by
    have q := List.drop_eq_getElem_cons hl
    rw [h] at q
    exact (List.cons.inj q).1.symm
  unfold Reader.u1
  show (dite (p < cc.size) (fun h => (bind (set (p + 1)) (fun _ => pure (cc[p]'h).toNat) : Reader DecodeError Nat)) (fun _ => throw (HasTruncated.truncated p))) cc p = _
  rw [dif_pos hs]
  show (Except.ok ((cc[p]'hs).toNat, p + 1) : Except DecodeError (Nat × Nat)) = _
  rw [hb]
theorem qb_d {cc : ByteArray} {pc nx : Nat} {i : Instr} (h : (Decoder.instr pc) cc pc = Except.ok (i, nx)) : decode cc pc = Except.ok (i, nx - pc) := by
  show Except.bind ((Decoder.instr pc) cc pc) _ = _
  rw [h]
  rfl
theorem qb_s1 {cc : ByteArray} {p x : Nat} (h : (Reader.u1 (ε := DecodeError)) cc p = Except.ok (x, p + 1)) : (Reader.s1 (ε := DecodeError)) cc p = Except.ok (Reader.signed 8 x, p + 1) := by
  show Except.bind ((Reader.u1 (ε := DecodeError)) cc p) _ = _
  rw [h]
  rfl
theorem qb_u2 {cc : ByteArray} {p x y : Nat} (h : (Reader.u1 (ε := DecodeError)) cc p = Except.ok (x, p + 1)) (g : (Reader.u1 (ε := DecodeError)) cc (p + 1) = Except.ok (y, p + 2)) : (Reader.u2 (ε := DecodeError)) cc p = Except.ok (x * 256 + y, p + 2) := by
  show Except.bind ((Reader.u1 (ε := DecodeError)) cc p) _ = _
  rw [h]
  show Except.bind ((Reader.u1 (ε := DecodeError)) cc (p + 1)) _ = _
  rw [g]
  rfl
theorem qb_s2 {cc : ByteArray} {p x y : Nat} (h : (Reader.u1 (ε := DecodeError)) cc p = Except.ok (x, p + 1)) (g : (Reader.u1 (ε := DecodeError)) cc (p + 1) = Except.ok (y, p + 2)) : (Reader.s2 (ε := DecodeError)) cc p = Except.ok (Reader.signed 16 (x * 256 + y), p + 2) := by
  show Except.bind ((Reader.u2 (ε := DecodeError)) cc p) _ = _
  rw [qb_u2 h g]
  rfl
def Qb0_ (q : Nat × Instr) : Prop := ∀ (cc : ByteArray) (pc : Nat), (Reader.u1 (ε := DecodeError)) cc pc = Except.ok (q.1, pc + 1) → (Decoder.instr pc) cc pc = Except.ok (q.2, pc + 1)
def Qb1_ (q : Nat × (Nat → Instr)) : Prop := ∀ (cc : ByteArray) (pc x : Nat), (Reader.u1 (ε := DecodeError)) cc pc = Except.ok (q.1, pc + 1) → (Reader.u1 (ε := DecodeError)) cc (pc + 1) = Except.ok (x, pc + 2) → (Decoder.instr pc) cc pc = Except.ok (q.2 x, pc + 2)
def Qb2_ (q : Nat × (Nat → Nat → Instr)) : Prop := ∀ (cc : ByteArray) (pc x y : Nat), (Reader.u1 (ε := DecodeError)) cc pc = Except.ok (q.1, pc + 1) → (Reader.u1 (ε := DecodeError)) cc (pc + 1) = Except.ok (x, pc + 2) → (Reader.u1 (ε := DecodeError)) cc (pc + 2) = Except.ok (y, pc + 3) → (Decoder.instr pc) cc pc = Except.ok (q.2 x y, pc + 3)
set_option maxRecDepth 4000 in
theorem qb0_42 : Qb0_ (42, .aload_n 0) := fun cc pc h => by
  show Except.bind ((Reader.u1 (ε := DecodeError)) cc pc) _ = _
  rw [h]
  rfl
set_option maxRecDepth 4000 in
theorem qb0_27 : Qb0_ (27, .iload_n 1) := fun cc pc h => by
  show Except.bind ((Reader.u1 (ε := DecodeError)) cc pc) _ = _
  rw [h]
  rfl
set_option maxRecDepth 4000 in
theorem qb0_28 : Qb0_ (28, .iload_n 2) := fun cc pc h => by
  show Except.bind ((Reader.u1 (ε := DecodeError)) cc pc) _ = _
  rw [h]
  rfl
set_option maxRecDepth 4000 in
theorem qb0_29 : Qb0_ (29, .iload_n 3) := fun cc pc h => by
  show Except.bind ((Reader.u1 (ε := DecodeError)) cc pc) _ = _
  rw [h]
  rfl
set_option maxRecDepth 4000 in
theorem qb0_26 : Qb0_ (26, .iload_n 0) := fun cc pc h => by
  show Except.bind ((Reader.u1 (ε := DecodeError)) cc pc) _ = _
  rw [h]
  rfl
set_option maxRecDepth 4000 in
theorem qb0_43 : Qb0_ (43, .aload_n 1) := fun cc pc h => by
  show Except.bind ((Reader.u1 (ε := DecodeError)) cc pc) _ = _
  rw [h]
  rfl
set_option maxRecDepth 4000 in
theorem qb0_44 : Qb0_ (44, .aload_n 2) := fun cc pc h => by
  show Except.bind ((Reader.u1 (ε := DecodeError)) cc pc) _ = _
  rw [h]
  rfl
set_option maxRecDepth 4000 in
theorem qb0_45 : Qb0_ (45, .aload_n 3) := fun cc pc h => by
  show Except.bind ((Reader.u1 (ε := DecodeError)) cc pc) _ = _
  rw [h]
  rfl
set_option maxRecDepth 4000 in
theorem qb0_46 : Qb0_ (46, .iaload) := fun cc pc h => by
  show Except.bind ((Reader.u1 (ε := DecodeError)) cc pc) _ = _
  rw [h]
  rfl
set_option maxRecDepth 4000 in
theorem qb0_79 : Qb0_ (79, .iastore) := fun cc pc h => by
  show Except.bind ((Reader.u1 (ε := DecodeError)) cc pc) _ = _
  rw [h]
  rfl
set_option maxRecDepth 4000 in
theorem qb0_3 : Qb0_ (3, .iconst 0) := fun cc pc h => by
  show Except.bind ((Reader.u1 (ε := DecodeError)) cc pc) _ = _
  rw [h]
  rfl
set_option maxRecDepth 4000 in
theorem qb0_4 : Qb0_ (4, .iconst 1) := fun cc pc h => by
  show Except.bind ((Reader.u1 (ε := DecodeError)) cc pc) _ = _
  rw [h]
  rfl
set_option maxRecDepth 4000 in
theorem qb0_5 : Qb0_ (5, .iconst 2) := fun cc pc h => by
  show Except.bind ((Reader.u1 (ε := DecodeError)) cc pc) _ = _
  rw [h]
  rfl
set_option maxRecDepth 4000 in
theorem qb0_2 : Qb0_ (2, .iconst (-1)) := fun cc pc h => by
  show Except.bind ((Reader.u1 (ε := DecodeError)) cc pc) _ = _
  rw [h]
  rfl
set_option maxRecDepth 4000 in
theorem qb0_6 : Qb0_ (6, .iconst 3) := fun cc pc h => by
  show Except.bind ((Reader.u1 (ε := DecodeError)) cc pc) _ = _
  rw [h]
  rfl
set_option maxRecDepth 4000 in
theorem qb0_7 : Qb0_ (7, .iconst 4) := fun cc pc h => by
  show Except.bind ((Reader.u1 (ε := DecodeError)) cc pc) _ = _
  rw [h]
  rfl
set_option maxRecDepth 4000 in
theorem qb0_8 : Qb0_ (8, .iconst 5) := fun cc pc h => by
  show Except.bind ((Reader.u1 (ε := DecodeError)) cc pc) _ = _
  rw [h]
  rfl
set_option maxRecDepth 4000 in
theorem qb0_96 : Qb0_ (96, .iadd) := fun cc pc h => by
  show Except.bind ((Reader.u1 (ε := DecodeError)) cc pc) _ = _
  rw [h]
  rfl
set_option maxRecDepth 4000 in
theorem qb0_100 : Qb0_ (100, .isub) := fun cc pc h => by
  show Except.bind ((Reader.u1 (ε := DecodeError)) cc pc) _ = _
  rw [h]
  rfl
set_option maxRecDepth 4000 in
theorem qb0_104 : Qb0_ (104, .imul) := fun cc pc h => by
  show Except.bind ((Reader.u1 (ε := DecodeError)) cc pc) _ = _
  rw [h]
  rfl
set_option maxRecDepth 4000 in
theorem qb0_172 : Qb0_ (172, .ireturn) := fun cc pc h => by
  show Except.bind ((Reader.u1 (ε := DecodeError)) cc pc) _ = _
  rw [h]
  rfl
set_option maxRecDepth 4000 in
theorem qb0_177 : Qb0_ (177, .return_) := fun cc pc h => by
  show Except.bind ((Reader.u1 (ε := DecodeError)) cc pc) _ = _
  rw [h]
  rfl
set_option maxRecDepth 4000 in
theorem qb0_61 : Qb0_ (61, .istore_n 2) := fun cc pc h => by
  show Except.bind ((Reader.u1 (ε := DecodeError)) cc pc) _ = _
  rw [h]
  rfl
set_option maxRecDepth 4000 in
theorem qb0_62 : Qb0_ (62, .istore_n 3) := fun cc pc h => by
  show Except.bind ((Reader.u1 (ε := DecodeError)) cc pc) _ = _
  rw [h]
  rfl
set_option maxRecDepth 4000 in
theorem qb0_60 : Qb0_ (60, .istore_n 1) := fun cc pc h => by
  show Except.bind ((Reader.u1 (ε := DecodeError)) cc pc) _ = _
  rw [h]
  rfl
set_option maxRecDepth 4000 in
theorem qb0_59 : Qb0_ (59, .istore_n 0) := fun cc pc h => by
  show Except.bind ((Reader.u1 (ε := DecodeError)) cc pc) _ = _
  rw [h]
  rfl
set_option maxRecDepth 4000 in
theorem qb0_89 : Qb0_ (89, .dup) := fun cc pc h => by
  show Except.bind ((Reader.u1 (ε := DecodeError)) cc pc) _ = _
  rw [h]
  rfl
set_option maxRecDepth 4000 in
theorem qb0_92 : Qb0_ (92, .dup2) := fun cc pc h => by
  show Except.bind ((Reader.u1 (ε := DecodeError)) cc pc) _ = _
  rw [h]
  rfl
set_option maxRecDepth 4000 in
theorem qb0_87 : Qb0_ (87, .pop) := fun cc pc h => by
  show Except.bind ((Reader.u1 (ε := DecodeError)) cc pc) _ = _
  rw [h]
  rfl
set_option maxRecDepth 4000 in
theorem qb0_50 : Qb0_ (50, .aaload) := fun cc pc h => by
  show Except.bind ((Reader.u1 (ε := DecodeError)) cc pc) _ = _
  rw [h]
  rfl
set_option maxRecDepth 4000 in
theorem qb0_51 : Qb0_ (51, .baload) := fun cc pc h => by
  show Except.bind ((Reader.u1 (ε := DecodeError)) cc pc) _ = _
  rw [h]
  rfl
set_option maxRecDepth 4000 in
theorem qb0_84 : Qb0_ (84, .bastore) := fun cc pc h => by
  show Except.bind ((Reader.u1 (ε := DecodeError)) cc pc) _ = _
  rw [h]
  rfl
set_option maxRecDepth 4000 in
theorem qb0_190 : Qb0_ (190, .arraylength) := fun cc pc h => by
  show Except.bind ((Reader.u1 (ε := DecodeError)) cc pc) _ = _
  rw [h]
  rfl
set_option maxRecDepth 4000 in
theorem qb0_126 : Qb0_ (126, .iand) := fun cc pc h => by
  show Except.bind ((Reader.u1 (ε := DecodeError)) cc pc) _ = _
  rw [h]
  rfl
set_option maxRecDepth 4000 in
theorem qb0_128 : Qb0_ (128, .ior) := fun cc pc h => by
  show Except.bind ((Reader.u1 (ε := DecodeError)) cc pc) _ = _
  rw [h]
  rfl
set_option maxRecDepth 4000 in
theorem qb0_120 : Qb0_ (120, .ishl) := fun cc pc h => by
  show Except.bind ((Reader.u1 (ε := DecodeError)) cc pc) _ = _
  rw [h]
  rfl
set_option maxRecDepth 4000 in
theorem qb0_122 : Qb0_ (122, .ishr) := fun cc pc h => by
  show Except.bind ((Reader.u1 (ε := DecodeError)) cc pc) _ = _
  rw [h]
  rfl
set_option maxRecDepth 4000 in
theorem qb0_124 : Qb0_ (124, .iushr) := fun cc pc h => by
  show Except.bind ((Reader.u1 (ε := DecodeError)) cc pc) _ = _
  rw [h]
  rfl
set_option maxRecDepth 4000 in
theorem qb0_130 : Qb0_ (130, .ixor) := fun cc pc h => by
  show Except.bind ((Reader.u1 (ε := DecodeError)) cc pc) _ = _
  rw [h]
  rfl
set_option maxRecDepth 4000 in
theorem qb0_108 : Qb0_ (108, .idiv) := fun cc pc h => by
  show Except.bind ((Reader.u1 (ε := DecodeError)) cc pc) _ = _
  rw [h]
  rfl
set_option maxRecDepth 4000 in
theorem qb0_112 : Qb0_ (112, .irem) := fun cc pc h => by
  show Except.bind ((Reader.u1 (ε := DecodeError)) cc pc) _ = _
  rw [h]
  rfl
set_option maxRecDepth 4000 in
theorem qb0_116 : Qb0_ (116, .ineg) := fun cc pc h => by
  show Except.bind ((Reader.u1 (ε := DecodeError)) cc pc) _ = _
  rw [h]
  rfl
set_option maxRecDepth 4000 in
theorem qb0_133 : Qb0_ (133, .i2l) := fun cc pc h => by
  show Except.bind ((Reader.u1 (ε := DecodeError)) cc pc) _ = _
  rw [h]
  rfl
set_option maxRecDepth 4000 in
theorem qb0_136 : Qb0_ (136, .l2i) := fun cc pc h => by
  show Except.bind ((Reader.u1 (ε := DecodeError)) cc pc) _ = _
  rw [h]
  rfl
set_option maxRecDepth 4000 in
theorem qb0_9 : Qb0_ (9, .lconst 0) := fun cc pc h => by
  show Except.bind ((Reader.u1 (ε := DecodeError)) cc pc) _ = _
  rw [h]
  rfl
set_option maxRecDepth 4000 in
theorem qb0_10 : Qb0_ (10, .lconst 1) := fun cc pc h => by
  show Except.bind ((Reader.u1 (ε := DecodeError)) cc pc) _ = _
  rw [h]
  rfl
set_option maxRecDepth 4000 in
theorem qb0_30 : Qb0_ (30, .lload_n 0) := fun cc pc h => by
  show Except.bind ((Reader.u1 (ε := DecodeError)) cc pc) _ = _
  rw [h]
  rfl
set_option maxRecDepth 4000 in
theorem qb0_31 : Qb0_ (31, .lload_n 1) := fun cc pc h => by
  show Except.bind ((Reader.u1 (ε := DecodeError)) cc pc) _ = _
  rw [h]
  rfl
set_option maxRecDepth 4000 in
theorem qb0_32 : Qb0_ (32, .lload_n 2) := fun cc pc h => by
  show Except.bind ((Reader.u1 (ε := DecodeError)) cc pc) _ = _
  rw [h]
  rfl
set_option maxRecDepth 4000 in
theorem qb0_33 : Qb0_ (33, .lload_n 3) := fun cc pc h => by
  show Except.bind ((Reader.u1 (ε := DecodeError)) cc pc) _ = _
  rw [h]
  rfl
set_option maxRecDepth 4000 in
theorem qb0_47 : Qb0_ (47, .laload) := fun cc pc h => by
  show Except.bind ((Reader.u1 (ε := DecodeError)) cc pc) _ = _
  rw [h]
  rfl
set_option maxRecDepth 4000 in
theorem qb0_63 : Qb0_ (63, .lstore_n 0) := fun cc pc h => by
  show Except.bind ((Reader.u1 (ε := DecodeError)) cc pc) _ = _
  rw [h]
  rfl
set_option maxRecDepth 4000 in
theorem qb0_64 : Qb0_ (64, .lstore_n 1) := fun cc pc h => by
  show Except.bind ((Reader.u1 (ε := DecodeError)) cc pc) _ = _
  rw [h]
  rfl
set_option maxRecDepth 4000 in
theorem qb0_65 : Qb0_ (65, .lstore_n 2) := fun cc pc h => by
  show Except.bind ((Reader.u1 (ε := DecodeError)) cc pc) _ = _
  rw [h]
  rfl
set_option maxRecDepth 4000 in
theorem qb0_66 : Qb0_ (66, .lstore_n 3) := fun cc pc h => by
  show Except.bind ((Reader.u1 (ε := DecodeError)) cc pc) _ = _
  rw [h]
  rfl
set_option maxRecDepth 4000 in
theorem qb0_75 : Qb0_ (75, .astore_n 0) := fun cc pc h => by
  show Except.bind ((Reader.u1 (ε := DecodeError)) cc pc) _ = _
  rw [h]
  rfl
set_option maxRecDepth 4000 in
theorem qb0_76 : Qb0_ (76, .astore_n 1) := fun cc pc h => by
  show Except.bind ((Reader.u1 (ε := DecodeError)) cc pc) _ = _
  rw [h]
  rfl
set_option maxRecDepth 4000 in
theorem qb0_77 : Qb0_ (77, .astore_n 2) := fun cc pc h => by
  show Except.bind ((Reader.u1 (ε := DecodeError)) cc pc) _ = _
  rw [h]
  rfl
set_option maxRecDepth 4000 in
theorem qb0_78 : Qb0_ (78, .astore_n 3) := fun cc pc h => by
  show Except.bind ((Reader.u1 (ε := DecodeError)) cc pc) _ = _
  rw [h]
  rfl
set_option maxRecDepth 4000 in
theorem qb0_80 : Qb0_ (80, .lastore) := fun cc pc h => by
  show Except.bind ((Reader.u1 (ε := DecodeError)) cc pc) _ = _
  rw [h]
  rfl
set_option maxRecDepth 4000 in
theorem qb0_97 : Qb0_ (97, .ladd) := fun cc pc h => by
  show Except.bind ((Reader.u1 (ε := DecodeError)) cc pc) _ = _
  rw [h]
  rfl
set_option maxRecDepth 4000 in
theorem qb0_101 : Qb0_ (101, .lsub) := fun cc pc h => by
  show Except.bind ((Reader.u1 (ε := DecodeError)) cc pc) _ = _
  rw [h]
  rfl
set_option maxRecDepth 4000 in
theorem qb0_105 : Qb0_ (105, .lmul) := fun cc pc h => by
  show Except.bind ((Reader.u1 (ε := DecodeError)) cc pc) _ = _
  rw [h]
  rfl
set_option maxRecDepth 4000 in
theorem qb0_113 : Qb0_ (113, .lrem) := fun cc pc h => by
  show Except.bind ((Reader.u1 (ε := DecodeError)) cc pc) _ = _
  rw [h]
  rfl
set_option maxRecDepth 4000 in
theorem qb0_148 : Qb0_ (148, .lcmp) := fun cc pc h => by
  show Except.bind ((Reader.u1 (ε := DecodeError)) cc pc) _ = _
  rw [h]
  rfl
set_option maxRecDepth 4000 in
theorem qb0_173 : Qb0_ (173, .lreturn) := fun cc pc h => by
  show Except.bind ((Reader.u1 (ε := DecodeError)) cc pc) _ = _
  rw [h]
  rfl
set_option maxRecDepth 4000 in
theorem qb1_21 : Qb1_ (21, fun x => .iload x) := fun cc pc x h g => by
  show Except.bind ((Reader.u1 (ε := DecodeError)) cc pc) _ = _
  rw [h]
  show Except.bind ((Reader.u1 (ε := DecodeError)) cc (pc + 1)) _ = _
  rw [g]
  rfl
set_option maxRecDepth 4000 in
theorem qb1_54 : Qb1_ (54, fun x => .istore x) := fun cc pc x h g => by
  show Except.bind ((Reader.u1 (ε := DecodeError)) cc pc) _ = _
  rw [h]
  show Except.bind ((Reader.u1 (ε := DecodeError)) cc (pc + 1)) _ = _
  rw [g]
  rfl
set_option maxRecDepth 4000 in
theorem qb1_16 : Qb1_ (16, fun x => .bipush (Reader.signed 8 x)) := fun cc pc x h g => by
  show Except.bind ((Reader.u1 (ε := DecodeError)) cc pc) _ = _
  rw [h]
  show Except.bind ((Reader.s1 (ε := DecodeError)) cc (pc + 1)) _ = _
  rw [qb_s1 g]
  rfl
set_option maxRecDepth 4000 in
theorem qb1_25 : Qb1_ (25, fun x => .aload x) := fun cc pc x h g => by
  show Except.bind ((Reader.u1 (ε := DecodeError)) cc pc) _ = _
  rw [h]
  show Except.bind ((Reader.u1 (ε := DecodeError)) cc (pc + 1)) _ = _
  rw [g]
  rfl
set_option maxRecDepth 4000 in
theorem qb1_58 : Qb1_ (58, fun x => .astore x) := fun cc pc x h g => by
  show Except.bind ((Reader.u1 (ε := DecodeError)) cc pc) _ = _
  rw [h]
  show Except.bind ((Reader.u1 (ε := DecodeError)) cc (pc + 1)) _ = _
  rw [g]
  rfl
set_option maxRecDepth 4000 in
theorem qb1_18 : Qb1_ (18, fun x => .ldc x) := fun cc pc x h g => by
  show Except.bind ((Reader.u1 (ε := DecodeError)) cc pc) _ = _
  rw [h]
  show Except.bind ((Reader.u1 (ε := DecodeError)) cc (pc + 1)) _ = _
  rw [g]
  rfl
set_option maxRecDepth 4000 in
theorem qb1_22 : Qb1_ (22, fun x => .lload x) := fun cc pc x h g => by
  show Except.bind ((Reader.u1 (ε := DecodeError)) cc pc) _ = _
  rw [h]
  show Except.bind ((Reader.u1 (ε := DecodeError)) cc (pc + 1)) _ = _
  rw [g]
  rfl
set_option maxRecDepth 4000 in
theorem qb1_55 : Qb1_ (55, fun x => .lstore x) := fun cc pc x h g => by
  show Except.bind ((Reader.u1 (ε := DecodeError)) cc pc) _ = _
  rw [h]
  show Except.bind ((Reader.u1 (ε := DecodeError)) cc (pc + 1)) _ = _
  rw [g]
  rfl
set_option maxRecDepth 4000 in
theorem qb2_180 : Qb2_ (180, fun x y => .getfield (x * 256 + y)) := fun cc pc x y h g e => by
  show Except.bind ((Reader.u1 (ε := DecodeError)) cc pc) _ = _
  rw [h]
  show Except.bind ((Reader.u2 (ε := DecodeError)) cc (pc + 1)) _ = _
  rw [qb_u2 g e]
  rfl
set_option maxRecDepth 4000 in
theorem qb2_181 : Qb2_ (181, fun x y => .putfield (x * 256 + y)) := fun cc pc x y h g e => by
  show Except.bind ((Reader.u1 (ε := DecodeError)) cc pc) _ = _
  rw [h]
  show Except.bind ((Reader.u2 (ε := DecodeError)) cc (pc + 1)) _ = _
  rw [qb_u2 g e]
  rfl
set_option maxRecDepth 4000 in
theorem qb2_167 : Qb2_ (167, fun x y => .goto (Reader.signed 16 (x * 256 + y))) := fun cc pc x y h g e => by
  show Except.bind ((Reader.u1 (ε := DecodeError)) cc pc) _ = _
  rw [h]
  show Except.bind ((Reader.s2 (ε := DecodeError)) cc (pc + 1)) _ = _
  rw [qb_s2 g e]
  rfl
set_option maxRecDepth 4000 in
theorem qb2_153 : Qb2_ (153, fun x y => .ifCond .eq (Reader.signed 16 (x * 256 + y))) := fun cc pc x y h g e => by
  show Except.bind ((Reader.u1 (ε := DecodeError)) cc pc) _ = _
  rw [h]
  show Except.bind ((Reader.s2 (ε := DecodeError)) cc (pc + 1)) _ = _
  rw [qb_s2 g e]
  rfl
set_option maxRecDepth 4000 in
theorem qb2_154 : Qb2_ (154, fun x y => .ifCond .ne (Reader.signed 16 (x * 256 + y))) := fun cc pc x y h g e => by
  show Except.bind ((Reader.u1 (ε := DecodeError)) cc pc) _ = _
  rw [h]
  show Except.bind ((Reader.s2 (ε := DecodeError)) cc (pc + 1)) _ = _
  rw [qb_s2 g e]
  rfl
set_option maxRecDepth 4000 in
theorem qb2_155 : Qb2_ (155, fun x y => .ifCond .lt (Reader.signed 16 (x * 256 + y))) := fun cc pc x y h g e => by
  show Except.bind ((Reader.u1 (ε := DecodeError)) cc pc) _ = _
  rw [h]
  show Except.bind ((Reader.s2 (ε := DecodeError)) cc (pc + 1)) _ = _
  rw [qb_s2 g e]
  rfl
set_option maxRecDepth 4000 in
theorem qb2_156 : Qb2_ (156, fun x y => .ifCond .ge (Reader.signed 16 (x * 256 + y))) := fun cc pc x y h g e => by
  show Except.bind ((Reader.u1 (ε := DecodeError)) cc pc) _ = _
  rw [h]
  show Except.bind ((Reader.s2 (ε := DecodeError)) cc (pc + 1)) _ = _
  rw [qb_s2 g e]
  rfl
set_option maxRecDepth 4000 in
theorem qb2_157 : Qb2_ (157, fun x y => .ifCond .gt (Reader.signed 16 (x * 256 + y))) := fun cc pc x y h g e => by
  show Except.bind ((Reader.u1 (ε := DecodeError)) cc pc) _ = _
  rw [h]
  show Except.bind ((Reader.s2 (ε := DecodeError)) cc (pc + 1)) _ = _
  rw [qb_s2 g e]
  rfl
set_option maxRecDepth 4000 in
theorem qb2_158 : Qb2_ (158, fun x y => .ifCond .le (Reader.signed 16 (x * 256 + y))) := fun cc pc x y h g e => by
  show Except.bind ((Reader.u1 (ε := DecodeError)) cc pc) _ = _
  rw [h]
  show Except.bind ((Reader.s2 (ε := DecodeError)) cc (pc + 1)) _ = _
  rw [qb_s2 g e]
  rfl
set_option maxRecDepth 4000 in
theorem qb2_159 : Qb2_ (159, fun x y => .if_icmp .eq (Reader.signed 16 (x * 256 + y))) := fun cc pc x y h g e => by
  show Except.bind ((Reader.u1 (ε := DecodeError)) cc pc) _ = _
  rw [h]
  show Except.bind ((Reader.s2 (ε := DecodeError)) cc (pc + 1)) _ = _
  rw [qb_s2 g e]
  rfl
set_option maxRecDepth 4000 in
theorem qb2_160 : Qb2_ (160, fun x y => .if_icmp .ne (Reader.signed 16 (x * 256 + y))) := fun cc pc x y h g e => by
  show Except.bind ((Reader.u1 (ε := DecodeError)) cc pc) _ = _
  rw [h]
  show Except.bind ((Reader.s2 (ε := DecodeError)) cc (pc + 1)) _ = _
  rw [qb_s2 g e]
  rfl
set_option maxRecDepth 4000 in
theorem qb2_161 : Qb2_ (161, fun x y => .if_icmp .lt (Reader.signed 16 (x * 256 + y))) := fun cc pc x y h g e => by
  show Except.bind ((Reader.u1 (ε := DecodeError)) cc pc) _ = _
  rw [h]
  show Except.bind ((Reader.s2 (ε := DecodeError)) cc (pc + 1)) _ = _
  rw [qb_s2 g e]
  rfl
set_option maxRecDepth 4000 in
theorem qb2_162 : Qb2_ (162, fun x y => .if_icmp .ge (Reader.signed 16 (x * 256 + y))) := fun cc pc x y h g e => by
  show Except.bind ((Reader.u1 (ε := DecodeError)) cc pc) _ = _
  rw [h]
  show Except.bind ((Reader.s2 (ε := DecodeError)) cc (pc + 1)) _ = _
  rw [qb_s2 g e]
  rfl
set_option maxRecDepth 4000 in
theorem qb2_163 : Qb2_ (163, fun x y => .if_icmp .gt (Reader.signed 16 (x * 256 + y))) := fun cc pc x y h g e => by
  show Except.bind ((Reader.u1 (ε := DecodeError)) cc pc) _ = _
  rw [h]
  show Except.bind ((Reader.s2 (ε := DecodeError)) cc (pc + 1)) _ = _
  rw [qb_s2 g e]
  rfl
set_option maxRecDepth 4000 in
theorem qb2_164 : Qb2_ (164, fun x y => .if_icmp .le (Reader.signed 16 (x * 256 + y))) := fun cc pc x y h g e => by
  show Except.bind ((Reader.u1 (ε := DecodeError)) cc pc) _ = _
  rw [h]
  show Except.bind ((Reader.s2 (ε := DecodeError)) cc (pc + 1)) _ = _
  rw [qb_s2 g e]
  rfl
set_option maxRecDepth 4000 in
theorem qb2_132 : Qb2_ (132, fun x y => .iinc x (Reader.signed 8 y)) := fun cc pc x y h g e => by
  show Except.bind ((Reader.u1 (ε := DecodeError)) cc pc) _ = _
  rw [h]
  show Except.bind ((Reader.u1 (ε := DecodeError)) cc (pc + 1)) _ = _
  rw [g]
  show Except.bind ((Reader.s1 (ε := DecodeError)) cc (pc + 2)) _ = _
  rw [qb_s1 e]
  rfl
set_option maxRecDepth 4000 in
theorem qb2_17 : Qb2_ (17, fun x y => .sipush (Reader.signed 16 (x * 256 + y))) := fun cc pc x y h g e => by
  show Except.bind ((Reader.u1 (ε := DecodeError)) cc pc) _ = _
  rw [h]
  show Except.bind ((Reader.s2 (ε := DecodeError)) cc (pc + 1)) _ = _
  rw [qb_s2 g e]
  rfl
set_option maxRecDepth 4000 in
theorem qb2_19 : Qb2_ (19, fun x y => .ldc_w (x * 256 + y)) := fun cc pc x y h g e => by
  show Except.bind ((Reader.u1 (ε := DecodeError)) cc pc) _ = _
  rw [h]
  show Except.bind ((Reader.u2 (ε := DecodeError)) cc (pc + 1)) _ = _
  rw [qb_u2 g e]
  rfl
set_option maxRecDepth 4000 in
theorem qb2_20 : Qb2_ (20, fun x y => .ldc2_w (x * 256 + y)) := fun cc pc x y h g e => by
  show Except.bind ((Reader.u1 (ε := DecodeError)) cc pc) _ = _
  rw [h]
  show Except.bind ((Reader.u2 (ε := DecodeError)) cc (pc + 1)) _ = _
  rw [qb_u2 g e]
  rfl
set_option maxRecDepth 4000 in
theorem qb2_198 : Qb2_ (198, fun x y => .ifnull (Reader.signed 16 (x * 256 + y))) := fun cc pc x y h g e => by
  show Except.bind ((Reader.u1 (ε := DecodeError)) cc pc) _ = _
  rw [h]
  show Except.bind ((Reader.s2 (ε := DecodeError)) cc (pc + 1)) _ = _
  rw [qb_s2 g e]
  rfl
set_option maxRecDepth 4000 in
theorem qb2_199 : Qb2_ (199, fun x y => .ifnonnull (Reader.signed 16 (x * 256 + y))) := fun cc pc x y h g e => by
  show Except.bind ((Reader.u1 (ε := DecodeError)) cc pc) _ = _
  rw [h]
  show Except.bind ((Reader.s2 (ε := DecodeError)) cc (pc + 1)) _ = _
  rw [qb_s2 g e]
  rfl
set_option maxRecDepth 4000 in
theorem qb2_182 : Qb2_ (182, fun x y => .invokevirtual (x * 256 + y)) := fun cc pc x y h g e => by
  show Except.bind ((Reader.u1 (ε := DecodeError)) cc pc) _ = _
  rw [h]
  show Except.bind ((Reader.u2 (ε := DecodeError)) cc (pc + 1)) _ = _
  rw [qb_u2 g e]
  rfl
set_option maxRecDepth 4000 in
theorem qb2_183 : Qb2_ (183, fun x y => .invokespecial (x * 256 + y)) := fun cc pc x y h g e => by
  show Except.bind ((Reader.u1 (ε := DecodeError)) cc pc) _ = _
  rw [h]
  show Except.bind ((Reader.u2 (ε := DecodeError)) cc (pc + 1)) _ = _
  rw [qb_u2 g e]
  rfl
set_option maxRecDepth 4000 in
theorem qb2_184 : Qb2_ (184, fun x y => .invokestatic (x * 256 + y)) := fun cc pc x y h g e => by
  show Except.bind ((Reader.u1 (ε := DecodeError)) cc pc) _ = _
  rw [h]
  show Except.bind ((Reader.u2 (ε := DecodeError)) cc (pc + 1)) _ = _
  rw [qb_u2 g e]
  rfl
abbrev Qk_ : Type := Instr ⊕ ((Nat → Instr) ⊕ (Nat → Nat → Instr))
def Qg_ (n : Nat) : Qk_ → Prop
  | .inl i => Qb0_ (n, i)
  | .inr (.inl f) => Qb1_ (n, f)
  | .inr (.inr f) => Qb2_ (n, f)
def qlf_ (k : Nat) (v : Qk_) (n : Nat) : Option Qk_ := match Nat.beq n k with
  | true => some v
  | false => none
def qbr_ (m : Nat) (a b : Nat → Option Qk_) (n : Nat) : Option Qk_ := match Nat.ble n m with
  | true => a n
  | false => b n
def Qs_ (f : Nat → Option Qk_) : Prop := ∀ n v, f n = some v → Qg_ n v
theorem qs_lf {k : Nat} {v : Qk_} (h : Qg_ k v) : Qs_ (qlf_ k v) := fun n w e => by
  unfold qlf_ at e
  cases hb : Nat.beq n k with
  | true =>
    rw [hb] at e
    have e1 : n = k := Nat.eq_of_beq_eq_true hb
    have e2 : v = w := Option.some.inj e
    rw [e1, ← e2]
    exact h
  | false =>
    rw [hb] at e
    cases e
theorem qs_br {m : Nat} {a b : Nat → Option Qk_} (ha : Qs_ a) (hb : Qs_ b) : Qs_ (qbr_ m a b) := fun n w e => by
  unfold qbr_ at e
  cases hc : Nat.ble n m with
  | true =>
    rw [hc] at e
    exact ha n w e
  | false =>
    rw [hc] at e
    exact hb n w e
def qt_ : Nat → Option Qk_ := qbr_ 79 (qbr_ 32 (qbr_ 18 (qbr_ 7 (qbr_ 4 (qbr_ 2 (qlf_ 2 (.inl (.iconst (-1)))) (qbr_ 3 (qlf_ 3 (.inl (.iconst 0))) (qlf_ 4 (.inl (.iconst 1))))) (qbr_ 5 (qlf_ 5 (.inl (.iconst 2))) (qbr_ 6 (qlf_ 6 (.inl (.iconst 3))) (qlf_ 7 (.inl (.iconst 4)))))) (qbr_ 10 (qbr_ 8 (qlf_ 8 (.inl (.iconst 5))) (qbr_ 9 (qlf_ 9 (.inl (.lconst 0))) (qlf_ 10 (.inl (.lconst 1))))) (qbr_ 16 (qlf_ 16 (.inr (.inl (fun x => .bipush (Reader.signed 8 x))))) (qbr_ 17 (qlf_ 17 (.inr (.inr (fun x y => .sipush (Reader.signed 16 (x * 256 + y)))))) (qlf_ 18 (.inr (.inl (fun x => .ldc x)))))))) (qbr_ 26 (qbr_ 21 (qbr_ 19 (qlf_ 19 (.inr (.inr (fun x y => .ldc_w (x * 256 + y))))) (qbr_ 20 (qlf_ 20 (.inr (.inr (fun x y => .ldc2_w (x * 256 + y))))) (qlf_ 21 (.inr (.inl (fun x => .iload x)))))) (qbr_ 22 (qlf_ 22 (.inr (.inl (fun x => .lload x)))) (qbr_ 25 (qlf_ 25 (.inr (.inl (fun x => .aload x)))) (qlf_ 26 (.inl (.iload_n 0)))))) (qbr_ 29 (qbr_ 27 (qlf_ 27 (.inl (.iload_n 1))) (qbr_ 28 (qlf_ 28 (.inl (.iload_n 2))) (qlf_ 29 (.inl (.iload_n 3))))) (qbr_ 30 (qlf_ 30 (.inl (.lload_n 0))) (qbr_ 31 (qlf_ 31 (.inl (.lload_n 1))) (qlf_ 32 (.inl (.lload_n 2)))))))) (qbr_ 58 (qbr_ 46 (qbr_ 43 (qbr_ 33 (qlf_ 33 (.inl (.lload_n 3))) (qbr_ 42 (qlf_ 42 (.inl (.aload_n 0))) (qlf_ 43 (.inl (.aload_n 1))))) (qbr_ 44 (qlf_ 44 (.inl (.aload_n 2))) (qbr_ 45 (qlf_ 45 (.inl (.aload_n 3))) (qlf_ 46 (.inl (.iaload)))))) (qbr_ 51 (qbr_ 47 (qlf_ 47 (.inl (.laload))) (qbr_ 50 (qlf_ 50 (.inl (.aaload))) (qlf_ 51 (.inl (.baload))))) (qbr_ 54 (qlf_ 54 (.inr (.inl (fun x => .istore x)))) (qbr_ 55 (qlf_ 55 (.inr (.inl (fun x => .lstore x)))) (qlf_ 58 (.inr (.inl (fun x => .astore x)))))))) (qbr_ 64 (qbr_ 61 (qbr_ 59 (qlf_ 59 (.inl (.istore_n 0))) (qbr_ 60 (qlf_ 60 (.inl (.istore_n 1))) (qlf_ 61 (.inl (.istore_n 2))))) (qbr_ 62 (qlf_ 62 (.inl (.istore_n 3))) (qbr_ 63 (qlf_ 63 (.inl (.lstore_n 0))) (qlf_ 64 (.inl (.lstore_n 1)))))) (qbr_ 75 (qbr_ 65 (qlf_ 65 (.inl (.lstore_n 2))) (qbr_ 66 (qlf_ 66 (.inl (.lstore_n 3))) (qlf_ 75 (.inl (.astore_n 0))))) (qbr_ 77 (qbr_ 76 (qlf_ 76 (.inl (.astore_n 1))) (qlf_ 77 (.inl (.astore_n 2)))) (qbr_ 78 (qlf_ 78 (.inl (.astore_n 3))) (qlf_ 79 (.inl (.iastore))))))))) (qbr_ 136 (qbr_ 108 (qbr_ 96 (qbr_ 87 (qbr_ 80 (qlf_ 80 (.inl (.lastore))) (qbr_ 84 (qlf_ 84 (.inl (.bastore))) (qlf_ 87 (.inl (.pop))))) (qbr_ 89 (qlf_ 89 (.inl (.dup))) (qbr_ 92 (qlf_ 92 (.inl (.dup2))) (qlf_ 96 (.inl (.iadd)))))) (qbr_ 101 (qbr_ 97 (qlf_ 97 (.inl (.ladd))) (qbr_ 100 (qlf_ 100 (.inl (.isub))) (qlf_ 101 (.inl (.lsub))))) (qbr_ 104 (qlf_ 104 (.inl (.imul))) (qbr_ 105 (qlf_ 105 (.inl (.lmul))) (qlf_ 108 (.inl (.idiv))))))) (qbr_ 124 (qbr_ 116 (qbr_ 112 (qlf_ 112 (.inl (.irem))) (qbr_ 113 (qlf_ 113 (.inl (.lrem))) (qlf_ 116 (.inl (.ineg))))) (qbr_ 120 (qlf_ 120 (.inl (.ishl))) (qbr_ 122 (qlf_ 122 (.inl (.ishr))) (qlf_ 124 (.inl (.iushr)))))) (qbr_ 130 (qbr_ 126 (qlf_ 126 (.inl (.iand))) (qbr_ 128 (qlf_ 128 (.inl (.ior))) (qlf_ 130 (.inl (.ixor))))) (qbr_ 132 (qlf_ 132 (.inr (.inr (fun x y => .iinc x (Reader.signed 8 y))))) (qbr_ 133 (qlf_ 133 (.inl (.i2l))) (qlf_ 136 (.inl (.l2i)))))))) (qbr_ 163 (qbr_ 157 (qbr_ 154 (qbr_ 148 (qlf_ 148 (.inl (.lcmp))) (qbr_ 153 (qlf_ 153 (.inr (.inr (fun x y => .ifCond .eq (Reader.signed 16 (x * 256 + y)))))) (qlf_ 154 (.inr (.inr (fun x y => .ifCond .ne (Reader.signed 16 (x * 256 + y)))))))) (qbr_ 155 (qlf_ 155 (.inr (.inr (fun x y => .ifCond .lt (Reader.signed 16 (x * 256 + y)))))) (qbr_ 156 (qlf_ 156 (.inr (.inr (fun x y => .ifCond .ge (Reader.signed 16 (x * 256 + y)))))) (qlf_ 157 (.inr (.inr (fun x y => .ifCond .gt (Reader.signed 16 (x * 256 + y))))))))) (qbr_ 160 (qbr_ 158 (qlf_ 158 (.inr (.inr (fun x y => .ifCond .le (Reader.signed 16 (x * 256 + y)))))) (qbr_ 159 (qlf_ 159 (.inr (.inr (fun x y => .if_icmp .eq (Reader.signed 16 (x * 256 + y)))))) (qlf_ 160 (.inr (.inr (fun x y => .if_icmp .ne (Reader.signed 16 (x * 256 + y)))))))) (qbr_ 161 (qlf_ 161 (.inr (.inr (fun x y => .if_icmp .lt (Reader.signed 16 (x * 256 + y)))))) (qbr_ 162 (qlf_ 162 (.inr (.inr (fun x y => .if_icmp .ge (Reader.signed 16 (x * 256 + y)))))) (qlf_ 163 (.inr (.inr (fun x y => .if_icmp .gt (Reader.signed 16 (x * 256 + y)))))))))) (qbr_ 180 (qbr_ 172 (qbr_ 164 (qlf_ 164 (.inr (.inr (fun x y => .if_icmp .le (Reader.signed 16 (x * 256 + y)))))) (qbr_ 167 (qlf_ 167 (.inr (.inr (fun x y => .goto (Reader.signed 16 (x * 256 + y)))))) (qlf_ 172 (.inl (.ireturn))))) (qbr_ 173 (qlf_ 173 (.inl (.lreturn))) (qbr_ 177 (qlf_ 177 (.inl (.return_))) (qlf_ 180 (.inr (.inr (fun x y => .getfield (x * 256 + y)))))))) (qbr_ 183 (qbr_ 181 (qlf_ 181 (.inr (.inr (fun x y => .putfield (x * 256 + y))))) (qbr_ 182 (qlf_ 182 (.inr (.inr (fun x y => .invokevirtual (x * 256 + y))))) (qlf_ 183 (.inr (.inr (fun x y => .invokespecial (x * 256 + y))))))) (qbr_ 190 (qbr_ 184 (qlf_ 184 (.inr (.inr (fun x y => .invokestatic (x * 256 + y))))) (qlf_ 190 (.inl (.arraylength)))) (qbr_ 198 (qlf_ 198 (.inr (.inr (fun x y => .ifnull (Reader.signed 16 (x * 256 + y)))))) (qlf_ 199 (.inr (.inr (fun x y => .ifnonnull (Reader.signed 16 (x * 256 + y))))))))))))
set_option maxRecDepth 4000 in
theorem qt_s : Qs_ qt_ := (qs_br (qs_br (qs_br (qs_br (qs_br (qs_br (qs_lf qb0_2) (qs_br (qs_lf qb0_3) (qs_lf qb0_4))) (qs_br (qs_lf qb0_5) (qs_br (qs_lf qb0_6) (qs_lf qb0_7)))) (qs_br (qs_br (qs_lf qb0_8) (qs_br (qs_lf qb0_9) (qs_lf qb0_10))) (qs_br (qs_lf qb1_16) (qs_br (qs_lf qb2_17) (qs_lf qb1_18))))) (qs_br (qs_br (qs_br (qs_lf qb2_19) (qs_br (qs_lf qb2_20) (qs_lf qb1_21))) (qs_br (qs_lf qb1_22) (qs_br (qs_lf qb1_25) (qs_lf qb0_26)))) (qs_br (qs_br (qs_lf qb0_27) (qs_br (qs_lf qb0_28) (qs_lf qb0_29))) (qs_br (qs_lf qb0_30) (qs_br (qs_lf qb0_31) (qs_lf qb0_32)))))) (qs_br (qs_br (qs_br (qs_br (qs_lf qb0_33) (qs_br (qs_lf qb0_42) (qs_lf qb0_43))) (qs_br (qs_lf qb0_44) (qs_br (qs_lf qb0_45) (qs_lf qb0_46)))) (qs_br (qs_br (qs_lf qb0_47) (qs_br (qs_lf qb0_50) (qs_lf qb0_51))) (qs_br (qs_lf qb1_54) (qs_br (qs_lf qb1_55) (qs_lf qb1_58))))) (qs_br (qs_br (qs_br (qs_lf qb0_59) (qs_br (qs_lf qb0_60) (qs_lf qb0_61))) (qs_br (qs_lf qb0_62) (qs_br (qs_lf qb0_63) (qs_lf qb0_64)))) (qs_br (qs_br (qs_lf qb0_65) (qs_br (qs_lf qb0_66) (qs_lf qb0_75))) (qs_br (qs_br (qs_lf qb0_76) (qs_lf qb0_77)) (qs_br (qs_lf qb0_78) (qs_lf qb0_79))))))) (qs_br (qs_br (qs_br (qs_br (qs_br (qs_lf qb0_80) (qs_br (qs_lf qb0_84) (qs_lf qb0_87))) (qs_br (qs_lf qb0_89) (qs_br (qs_lf qb0_92) (qs_lf qb0_96)))) (qs_br (qs_br (qs_lf qb0_97) (qs_br (qs_lf qb0_100) (qs_lf qb0_101))) (qs_br (qs_lf qb0_104) (qs_br (qs_lf qb0_105) (qs_lf qb0_108))))) (qs_br (qs_br (qs_br (qs_lf qb0_112) (qs_br (qs_lf qb0_113) (qs_lf qb0_116))) (qs_br (qs_lf qb0_120) (qs_br (qs_lf qb0_122) (qs_lf qb0_124)))) (qs_br (qs_br (qs_lf qb0_126) (qs_br (qs_lf qb0_128) (qs_lf qb0_130))) (qs_br (qs_lf qb2_132) (qs_br (qs_lf qb0_133) (qs_lf qb0_136)))))) (qs_br (qs_br (qs_br (qs_br (qs_lf qb0_148) (qs_br (qs_lf qb2_153) (qs_lf qb2_154))) (qs_br (qs_lf qb2_155) (qs_br (qs_lf qb2_156) (qs_lf qb2_157)))) (qs_br (qs_br (qs_lf qb2_158) (qs_br (qs_lf qb2_159) (qs_lf qb2_160))) (qs_br (qs_lf qb2_161) (qs_br (qs_lf qb2_162) (qs_lf qb2_163))))) (qs_br (qs_br (qs_br (qs_lf qb2_164) (qs_br (qs_lf qb2_167) (qs_lf qb0_172))) (qs_br (qs_lf qb0_173) (qs_br (qs_lf qb0_177) (qs_lf qb2_180)))) (qs_br (qs_br (qs_lf qb2_181) (qs_br (qs_lf qb2_182) (qs_lf qb2_183))) (qs_br (qs_br (qs_lf qb2_184) (qs_lf qb0_190)) (qs_br (qs_lf qb2_198) (qs_lf qb2_199))))))))
/-- a row without its first n -/
noncomputable def qdr_ (n : Nat) (l : List UInt8) : List UInt8 := (Nat.rec (motive := fun _ => List UInt8 → List UInt8) (fun l => l) (fun _ f l => f l.tail) n : List UInt8 → List UInt8) l
theorem qdr_e : ∀ (n : Nat) (l : List UInt8), qdr_ n l = l.drop n
  | 0, _ => rfl
  | n + 1, l => by
    show qdr_ n l.tail = _
    rw [qdr_e n l.tail]
    cases l with
    | nil => simp
    | cons a l => rfl
/-- the instruction at the head of a row of bytes -/
def qv_ (l : List UInt8) : Option Qk_ → Option (Instr × Nat)
  | none => none
  | some (.inl i) => some (i, 1)
  | some (.inr (.inl f)) => (match l with
    | x :: _ => some (f x.toNat, 2)
    | [] => none)
  | some (.inr (.inr f)) => (match l with
    | x :: y :: _ => some (f x.toNat y.toNat, 3)
    | _ => none)
def qd_ : List UInt8 → Option (Instr × Nat)
  | [] => none
  | b :: r => qv_ r (qt_ b.toNat)
theorem qd_s {cc : ByteArray} {pc : Nat} {x : Instr} {n : Nat} : ∀ l : List UInt8, cc.data.toList.drop pc = l → qd_ l = some (x, n) → decode cc pc = Except.ok (x, n)
  | [], _, h => by cases h
  | b :: r, hl, h => by
    have u0 := qb_u1 hl
    have d1 : cc.data.toList.drop (pc + 1) = r := by
      rw [← List.drop_drop, hl]
      rfl
    have h' : qv_ r (qt_ b.toNat) = some (x, n) := h
    cases hq : qt_ b.toNat with
    | none =>
      rw [hq] at h'
      cases h'
    | some v =>
      have hg := qt_s _ _ hq
      rw [hq] at h'
      match v, hg, h' with
      | .inl i, hg, h' =>
        have e : (i, 1) = (x, n) := Option.some.inj h'
        have e1 : i = x := congrArg Prod.fst e
        have e2 : 1 = n := congrArg Prod.snd e
        have g := qb_d (hg cc pc u0)
        rw [← e1, ← e2, g, show pc + 1 - pc = 1 by omega]
      | .inr (.inl f), hg, h' =>
        match r, d1, h' with
        | [], _, h' => cases h'
        | c :: r, d1, h' =>
          have e : (f c.toNat, 2) = (x, n) := Option.some.inj h'
          have e1 : f c.toNat = x := congrArg Prod.fst e
          have e2 : 2 = n := congrArg Prod.snd e
          have g := qb_d (hg cc pc c.toNat u0 (qb_u1 d1))
          rw [← e1, ← e2, g, show pc + 2 - pc = 2 by omega]
      | .inr (.inr f), hg, h' =>
        match r, d1, h' with
        | [], _, h' => cases h'
        | [_], _, h' => cases h'
        | c :: y :: r, d1, h' =>
          have d2 : cc.data.toList.drop (pc + 2) = y :: r := by
            rw [show pc + 2 = pc + 1 + 1 by omega, ← List.drop_drop, d1]
            rfl
          have e : (f c.toNat y.toNat, 3) = (x, n) := Option.some.inj h'
          have e1 : f c.toNat y.toNat = x := congrArg Prod.fst e
          have e2 : 3 = n := congrArg Prod.snd e
          have g := qb_d (hg cc pc c.toNat y.toNat u0 (qb_u1 d1) (qb_u1 d2))
          rw [← e1, ← e2, g, show pc + 3 - pc = 3 by omega]
/-- a place at which a call is made -/
theorem qd_c {cc : ByteArray} {pc : Nat} {x : Instr} {n : Nat} (h : qd_ (qdr_ pc cc.data.toList) = some (x, n)) : decode cc pc = Except.ok (x, n) := by
  rw [qdr_e] at h
  exact qd_s _ rfl h
/-- decoding, by the row of bytes where that serves -/
noncomputable def qdec_ (cc : ByteArray) (pc : Nat) : Except DecodeError (Instr × Nat) := match qd_ (qdr_ pc cc.data.toList) with
  | some q => Except.ok q
  | none => decode cc pc
theorem qdec_e (cc : ByteArray) (pc : Nat) : qdec_ cc pc = decode cc pc := by
  unfold qdec_
  cases h : qd_ (qdr_ pc cc.data.toList) with
  | none => rfl
  | some q =>
    obtain ⟨x, n⟩ := q
    exact (qd_c h).symm
def qck_ (F : Zf) (ret : Option FieldType) : List UInt8 → Int → List Instr → Int → Bool
  | _, pc, [], pe => decide (pc = pe)
  | l, pc, i :: r, pe => match qd_ l with
    | some (x, n) => decide (no_ F ret pc x = some (de_ i)) && decide (n = il_ x) && qck_ F ret (l.drop n) (pc + (n : Int)) r pe
    | none => false
theorem qck_s {F : Zf} {ret : Option FieldType} {cc : ByteArray} : ∀ (ins : List Instr) (pc : Int) (l : List UInt8) (pe : Int), 0 ≤ pc → cc.data.toList.drop pc.toNat = l → qck_ F ret l pc ins pe = true → ck_ F ret cc pc ins pe = true
  | [], pc, l, pe, _, _, h => by
    unfold qck_ at h
    unfold ck_
    exact h
  | i :: r, pc, l, pe, hp, hl, h => by
    unfold qck_ at h
    cases hf : qd_ l with
    | none =>
      rw [hf] at h
      cases h
    | some q =>
      obtain ⟨x, n⟩ := q
      rw [hf] at h
      have h' : (decide (no_ F ret pc x = some (de_ i)) && decide (n = il_ x) && qck_ F ret (l.drop n) (pc + (n : Int)) r pe) = true := h
      have d := qd_s l hl hf
      rw [Bool.and_eq_true] at h'
      have g := qck_s (F := F) (ret := ret) (cc := cc) r (pc + (n : Int)) (l.drop n) pe (by omega) (by rw [show (pc + (n : Int)).toNat = pc.toNat + n by omega, ← List.drop_drop, hl]) h'.2
      unfold ck_
      rw [d]
      show (decide (no_ F ret pc x = some (de_ i)) && decide (n = il_ x) && ck_ F ret cc (pc + (n : Int)) r pe) = true
      rw [Bool.and_eq_true]
      exact ⟨h'.1, g⟩
theorem qck_r {F : Zf} {ret : Option FieldType} {cc : ByteArray} {ins : List Instr} {pc pe : Int} (hp : 0 ≤ pc) (h : qck_ F ret (qdr_ pc.toNat cc.data.toList) pc ins pe = true) : ck_ F ret cc pc ins pe = true := qck_s ins pc _ pe hp rfl (by rw [← qdr_e]; exact h)
