-- names of classes and descriptors, told once
theorem nmh_0 : "SportsHouse" ≠ "java/lang/invoke/MethodHandle" ∧ "SportsHouse" ≠ "java/lang/invoke/VarHandle" := ⟨by decide +kernel, by decide +kernel⟩
theorem nmh_1 : "SportsHouseModel" ≠ "java/lang/invoke/MethodHandle" ∧ "SportsHouseModel" ≠ "java/lang/invoke/VarHandle" := ⟨by decide +kernel, by decide +kernel⟩
theorem nmh_2 : "SportsHouse$Lots" ≠ "java/lang/invoke/MethodHandle" ∧ "SportsHouse$Lots" ≠ "java/lang/invoke/VarHandle" := ⟨by decide +kernel, by decide +kernel⟩
theorem nmh_3 : "SportsHouse$Play" ≠ "java/lang/invoke/MethodHandle" ∧ "SportsHouse$Play" ≠ "java/lang/invoke/VarHandle" := ⟨by decide +kernel, by decide +kernel⟩
theorem nmh_4 : "SportsHouse$Referees" ≠ "java/lang/invoke/MethodHandle" ∧ "SportsHouse$Referees" ≠ "java/lang/invoke/VarHandle" := ⟨by decide +kernel, by decide +kernel⟩
theorem nmh_5 : "SportsHouse$RuleText" ≠ "java/lang/invoke/MethodHandle" ∧ "SportsHouse$RuleText" ≠ "java/lang/invoke/VarHandle" := ⟨by decide +kernel, by decide +kernel⟩
theorem nmh_6 : "SportsHouse$Season" ≠ "java/lang/invoke/MethodHandle" ∧ "SportsHouse$Season" ≠ "java/lang/invoke/VarHandle" := ⟨by decide +kernel, by decide +kernel⟩
theorem nmh_7 : "SportsHouse$Standings" ≠ "java/lang/invoke/MethodHandle" ∧ "SportsHouse$Standings" ≠ "java/lang/invoke/VarHandle" := ⟨by decide +kernel, by decide +kernel⟩
theorem nmh_8 : "SportsHouse$Title" ≠ "java/lang/invoke/MethodHandle" ∧ "SportsHouse$Title" ≠ "java/lang/invoke/VarHandle" := ⟨by decide +kernel, by decide +kernel⟩
theorem nmh_9 : "SportsHouse$Things" ≠ "java/lang/invoke/MethodHandle" ∧ "SportsHouse$Things" ≠ "java/lang/invoke/VarHandle" := ⟨by decide +kernel, by decide +kernel⟩
theorem nmh_10 : "SportsHouse$Match" ≠ "java/lang/invoke/MethodHandle" ∧ "SportsHouse$Match" ≠ "java/lang/invoke/VarHandle" := ⟨by decide +kernel, by decide +kernel⟩
theorem nmh_11 : "SportsHouse$Competition" ≠ "java/lang/invoke/MethodHandle" ∧ "SportsHouse$Competition" ≠ "java/lang/invoke/VarHandle" := ⟨by decide +kernel, by decide +kernel⟩
theorem pdq_0 : (parseMethodDescriptor "(II)V").map (fun d => d.parameters.length) = some 2 := by decide +kernel
theorem pdq_1 : (parseMethodDescriptor "()V").map (fun d => d.parameters.length) = some 0 := by decide +kernel
theorem pdq_2 : (parseMethodDescriptor "([I)I").map (fun d => d.parameters.length) = some 1 := by decide +kernel
theorem pdq_3 : (parseMethodDescriptor "(III)V").map (fun d => d.parameters.length) = some 3 := by decide +kernel
theorem pdq_4 : (parseMethodDescriptor "(II)I").map (fun d => d.parameters.length) = some 2 := by decide +kernel
theorem pdq_5 : (parseMethodDescriptor "(II)Z").map (fun d => d.parameters.length) = some 2 := by decide +kernel
theorem pdq_6 : (parseMethodDescriptor "(IIIII)V").map (fun d => d.parameters.length) = some 5 := by decide +kernel
theorem pdq_7 : (parseMethodDescriptor "(I)Z").map (fun d => d.parameters.length) = some 1 := by decide +kernel
theorem pdq_8 : (parseMethodDescriptor "(III)I").map (fun d => d.parameters.length) = some 3 := by decide +kernel
theorem pdq_9 : (parseMethodDescriptor "(I)V").map (fun d => d.parameters.length) = some 1 := by decide +kernel
theorem pdq_10 : (parseMethodDescriptor "(IIII)Z").map (fun d => d.parameters.length) = some 4 := by decide +kernel
theorem pdq_11 : (parseMethodDescriptor "(III)Z").map (fun d => d.parameters.length) = some 3 := by decide +kernel
theorem pdq_12 : (parseMethodDescriptor "(IIII)V").map (fun d => d.parameters.length) = some 4 := by decide +kernel
theorem pdq_13 : (parseMethodDescriptor "(IIIII)I").map (fun d => d.parameters.length) = some 5 := by decide +kernel
theorem pdq_14 : (parseMethodDescriptor "(IIZ)V").map (fun d => d.parameters.length) = some 3 := by decide +kernel
theorem pdq_15 : (parseMethodDescriptor "(I)I").map (fun d => d.parameters.length) = some 1 := by decide +kernel
theorem pdq_16 : (parseMethodDescriptor "(IIIZ)I").map (fun d => d.parameters.length) = some 4 := by decide +kernel
theorem pdq_17 : (parseMethodDescriptor "()I").map (fun d => d.parameters.length) = some 0 := by decide +kernel
theorem pdq_18 : (parseMethodDescriptor "()Z").map (fun d => d.parameters.length) = some 0 := by decide +kernel
theorem pdq_19 : (parseMethodDescriptor "(II)J").map (fun d => d.parameters.length) = some 2 := by decide +kernel
theorem pdq_20 : (parseMethodDescriptor "(III)J").map (fun d => d.parameters.length) = some 3 := by decide +kernel
theorem pdq_21 : (parseMethodDescriptor "(ILSportsHouse$Match;)I").map (fun d => d.parameters.length) = some 2 := by decide +kernel
theorem pdq_22 : (parseMethodDescriptor "(ILSportsHouse$Match;)Z").map (fun d => d.parameters.length) = some 2 := by decide +kernel
theorem pdq_23 : (parseMethodDescriptor "(ILSportsHouse$Match;I)I").map (fun d => d.parameters.length) = some 3 := by decide +kernel
theorem pdq_24 : (parseMethodDescriptor "(LSportsHouse$Competition;I)I").map (fun d => d.parameters.length) = some 2 := by decide +kernel
theorem pdq_25 : (parseMethodDescriptor "(LSportsHouse$Match;LSportsHouse$Match;)Z").map (fun d => d.parameters.length) = some 2 := by decide +kernel
theorem pdq_26 : (parseMethodDescriptor "(LSportsHouse$Match;)V").map (fun d => d.parameters.length) = some 1 := by decide +kernel
theorem pdq_27 : (parseMethodDescriptor "(LSportsHouse$Match;II)Z").map (fun d => d.parameters.length) = some 3 := by decide +kernel
theorem pdq_28 : (parseMethodDescriptor "(LSportsHouse$Match;)I").map (fun d => d.parameters.length) = some 1 := by decide +kernel
theorem pdq_29 : (parseMethodDescriptor "(LSportsHouse$Match;I)I").map (fun d => d.parameters.length) = some 2 := by decide +kernel
theorem pdq_30 : (parseMethodDescriptor "(LSportsHouse$Match;II)V").map (fun d => d.parameters.length) = some 3 := by decide +kernel
theorem pdq_31 : (parseMethodDescriptor "(LSportsHouse$Competition;I)V").map (fun d => d.parameters.length) = some 2 := by decide +kernel
theorem pdq_32 : (parseMethodDescriptor "(IIII)I").map (fun d => d.parameters.length) = some 4 := by decide +kernel
theorem pdq_33 : (parseMethodDescriptor "(IIIII)Z").map (fun d => d.parameters.length) = some 5 := by decide +kernel
theorem pdq_34 : (parseMethodDescriptor "(LSportsHouse$Competition;IIII)V").map (fun d => d.parameters.length) = some 5 := by decide +kernel
theorem pdq_35 : (parseMethodDescriptor "(LSportsHouse$Competition;IIZI)V").map (fun d => d.parameters.length) = some 5 := by decide +kernel
theorem pdq_36 : (parseMethodDescriptor "(LSportsHouse$Match;II)I").map (fun d => d.parameters.length) = some 3 := by decide +kernel
theorem pdq_37 : (parseMethodDescriptor "(LSportsHouse$Match;III)I").map (fun d => d.parameters.length) = some 4 := by decide +kernel
theorem pdq_38 : (parseMethodDescriptor "(Ljava/lang/String;)I").map (fun d => d.parameters.length) = some 1 := by decide +kernel
theorem pdq_39 : (parseMethodDescriptor "(IIIIII)I").map (fun d => d.parameters.length) = some 6 := by decide +kernel
theorem pdq_40 : (parseMethodDescriptor "(IZ)I").map (fun d => d.parameters.length) = some 2 := by decide +kernel
-- eight at a time
def dqa_ : List Cond → List Cond
  | _ :: _ :: _ :: _ :: _ :: _ :: _ :: _ :: t => t
  | _ => []
theorem dqa_m {w : Cond} : ∀ {l : List Cond}, w ∈ dqa_ l → w ∈ l
  | _ :: _ :: _ :: _ :: _ :: _ :: _ :: _ :: t, h => List.mem_cons_of_mem _ (List.mem_cons_of_mem _ (List.mem_cons_of_mem _ (List.mem_cons_of_mem _ (List.mem_cons_of_mem _ (List.mem_cons_of_mem _ (List.mem_cons_of_mem _ (List.mem_cons_of_mem _ h)))))))
  | [], h => absurd (show w ∈ ([] : List Cond) from h) List.not_mem_nil
  | [_], h => absurd (show w ∈ ([] : List Cond) from h) List.not_mem_nil
  | [_, _], h => absurd (show w ∈ ([] : List Cond) from h) List.not_mem_nil
  | [_, _, _], h => absurd (show w ∈ ([] : List Cond) from h) List.not_mem_nil
  | [_, _, _, _], h => absurd (show w ∈ ([] : List Cond) from h) List.not_mem_nil
  | [_, _, _, _, _], h => absurd (show w ∈ ([] : List Cond) from h) List.not_mem_nil
  | [_, _, _, _, _, _], h => absurd (show w ∈ ([] : List Cond) from h) List.not_mem_nil
  | [_, _, _, _, _, _, _], h => absurd (show w ∈ ([] : List Cond) from h) List.not_mem_nil
def dqc_ (l : List Cond) : List Cond := dqa_ (dqa_ (dqa_ (dqa_ l)))
theorem dqc_m {w : Cond} {l : List Cond} (h : w ∈ dqc_ l) : w ∈ l := dqa_m (dqa_m (dqa_m (dqa_m h)))
-- the pieces of the tables
theorem lt_b1 {w : Cond} (h : w ∈ tables_1_1) : w ∈ tables_1 := by
  unfold tables_1
  exact List.mem_append_left _ h
theorem lt_b2 {w : Cond} (h : w ∈ tables_1_2) : w ∈ tables_1 := by
  unfold tables_1
  exact List.mem_append_right _ (List.mem_append_left _ h)
theorem lt_b3 {w : Cond} (h : w ∈ tables_1_3) : w ∈ tables_1 := by
  unfold tables_1
  exact List.mem_append_right _ (List.mem_append_right _ (List.mem_append_left _ h))
theorem lt_b4 {w : Cond} (h : w ∈ tables_1_4) : w ∈ tables_1 := by
  unfold tables_1
  exact List.mem_append_right _ (List.mem_append_right _ (List.mem_append_right _ (List.mem_append_left _ h)))
theorem lt_b5 {w : Cond} (h : w ∈ tables_1_5) : w ∈ tables_1 := by
  unfold tables_1
  exact List.mem_append_right _ (List.mem_append_right _ (List.mem_append_right _ (List.mem_append_right _ (List.mem_append_left _ h))))
theorem lt_b6 {w : Cond} (h : w ∈ tables_1_6) : w ∈ tables_1 := by
  unfold tables_1
  exact List.mem_append_right _ (List.mem_append_right _ (List.mem_append_right _ (List.mem_append_right _ (List.mem_append_right _ (List.mem_append_left _ h)))))
theorem lt_b7 {w : Cond} (h : w ∈ tables_1_7) : w ∈ tables_1 := by
  unfold tables_1
  exact List.mem_append_right _ (List.mem_append_right _ (List.mem_append_right _ (List.mem_append_right _ (List.mem_append_right _ (List.mem_append_right _ (List.mem_append_left _ h))))))
theorem lt_b8 {w : Cond} (h : w ∈ tables_1_8) : w ∈ tables_1 := by
  unfold tables_1
  exact List.mem_append_right _ (List.mem_append_right _ (List.mem_append_right _ (List.mem_append_right _ (List.mem_append_right _ (List.mem_append_right _ (List.mem_append_right _ (List.mem_append_left _ h)))))))
theorem lt_b9 {w : Cond} (h : w ∈ tables_1_9) : w ∈ tables_1 := by
  unfold tables_1
  exact List.mem_append_right _ (List.mem_append_right _ (List.mem_append_right _ (List.mem_append_right _ (List.mem_append_right _ (List.mem_append_right _ (List.mem_append_right _ (List.mem_append_right _ (List.mem_append_left _ h))))))))
theorem lt_b10 {w : Cond} (h : w ∈ tables_1_10) : w ∈ tables_1 := by
  unfold tables_1
  exact List.mem_append_right _ (List.mem_append_right _ (List.mem_append_right _ (List.mem_append_right _ (List.mem_append_right _ (List.mem_append_right _ (List.mem_append_right _ (List.mem_append_right _ (List.mem_append_right _ (h)))))))))
theorem imq_0 : Cond.instantiable "SportsHouse" 7 ∈ tables_1 := (lt_b1 (dqa_m (dqa_m (List.mem_of_getElem? (i := 6) rfl))))
theorem imq_1 : Cond.instantiable "SportsHouseModel" 114 ∈ tables_1 := (lt_b6 (dqc_m (dqc_m (dqc_m (dqc_m (dqc_m (dqc_m (dqa_m (dqa_m (dqa_m (List.mem_of_getElem? (i := 6) rfl)))))))))))
theorem imq_2 : Cond.instantiable "SportsHouse$Lots" 16 ∈ tables_1 := (lt_b2 (dqc_m (dqc_m (dqa_m (dqa_m (List.mem_of_getElem? (i := 1) rfl))))))
theorem imq_3 : Cond.instantiable "SportsHouse$Play" 18 ∈ tables_1 := (lt_b4 (dqc_m (dqc_m (dqc_m (dqc_m (dqc_m (dqa_m (dqa_m (List.mem_of_getElem? (i := 4) rfl)))))))))
theorem imq_4 : Cond.instantiable "SportsHouse$Referees" 5 ∈ tables_1 := (lt_b2 (dqc_m (dqc_m (dqc_m (dqc_m (dqa_m (dqa_m (List.mem_of_getElem? (i := 0) rfl))))))))
theorem imq_5 : Cond.instantiable "SportsHouse$RuleText" 10 ∈ tables_1 := (lt_b1 (dqa_m (dqa_m (dqa_m (List.mem_of_getElem? (i := 6) rfl)))))
theorem imq_6 : Cond.instantiable "SportsHouse$Season" 16 ∈ tables_1 := (lt_b1 (dqc_m (dqc_m (dqc_m (dqc_m (dqa_m (List.mem_of_getElem? (i := 1) rfl)))))))
theorem imq_7 : Cond.instantiable "SportsHouse$Standings" 14 ∈ tables_1 := (lt_b1 (dqc_m (dqc_m (dqc_m (dqc_m (dqc_m (dqc_m (dqa_m (List.mem_of_getElem? (i := 6) rfl)))))))))
theorem imq_8 : Cond.instantiable "SportsHouse$Title" 16 ∈ tables_1 := (lt_b2 (dqa_m (dqa_m (List.mem_of_getElem? (i := 4) rfl))))
/-- a private method of a class that the tables say can be made, by its rows of tables_1 -/
def lw_okq (q : MethodName × Nat) : Prop := (q.1.cls ≠ "java/lang/invoke/MethodHandle" ∧ q.1.cls ≠ "java/lang/invoke/VarHandle") ∧ Cond.instantiable q.1.cls q.2 ∈ tables_1 ∧ Cond.privateMethod q.1 ∈ tables_1 ∧ Cond.instanceMethod q.1 ∈ tables_1
theorem lw_p0 : lw_okq (⟨"SportsHouse", "isClub", "(I)Z"⟩, 7) := ⟨nmh_0, imq_0, (lt_b3 (dqc_m (dqc_m (dqc_m (dqc_m (dqc_m (List.mem_of_getElem? (i := 6) rfl))))))), (lt_b3 (dqc_m (dqc_m (dqc_m (dqc_m (dqc_m (List.mem_of_getElem? (i := 7) rfl)))))))⟩
theorem lw_p1 : lw_okq (⟨"SportsHouse", "isCompetition", "(I)Z"⟩, 7) := ⟨nmh_0, imq_0, (lt_b3 (dqc_m (dqc_m (dqc_m (dqc_m (dqa_m (List.mem_of_getElem? (i := 7) rfl))))))), (lt_b3 (dqc_m (dqc_m (dqc_m (dqc_m (dqa_m (dqa_m (List.mem_of_getElem? (i := 0) rfl))))))))⟩
theorem lw_p2 : lw_okq (⟨"SportsHouse", "isMatch", "(I)Z"⟩, 7) := ⟨nmh_0, imq_0, (lt_b4 (dqc_m (dqa_m (dqa_m (List.mem_of_getElem? (i := 6) rfl))))), (lt_b4 (dqc_m (dqa_m (dqa_m (List.mem_of_getElem? (i := 7) rfl)))))⟩
theorem lw_p3 : lw_okq (⟨"SportsHouse", "isPerson", "(I)Z"⟩, 7) := ⟨nmh_0, imq_0, (lt_b3 (dqc_m (dqc_m (dqc_m (dqc_m (dqc_m (List.mem_of_getElem? (i := 2) rfl))))))), (lt_b3 (dqc_m (dqc_m (dqc_m (dqc_m (dqc_m (List.mem_of_getElem? (i := 3) rfl)))))))⟩
theorem lw_p4 : lw_okq (⟨"SportsHouseModel", "addMatch", "(IIIII)V"⟩, 114) := ⟨nmh_1, imq_1, (lt_b8 (dqc_m (dqc_m (dqc_m (dqc_m (dqc_m (dqc_m (List.mem_of_getElem? (i := 0) rfl)))))))), (lt_b8 (dqc_m (dqc_m (dqc_m (dqc_m (dqc_m (dqc_m (List.mem_of_getElem? (i := 1) rfl))))))))⟩
theorem lw_p5 : lw_okq (⟨"SportsHouseModel", "addScore", "(III)V"⟩, 114) := ⟨nmh_1, imq_1, (lt_b9 (dqc_m (dqc_m (dqa_m (dqa_m (List.mem_of_getElem? (i := 3) rfl)))))), (lt_b9 (dqc_m (dqc_m (dqa_m (dqa_m (List.mem_of_getElem? (i := 4) rfl))))))⟩
theorem lw_p6 : lw_okq (⟨"SportsHouseModel", "advance", "(IIII)V"⟩, 114) := ⟨nmh_1, imq_1, (lt_b9 (dqc_m (dqc_m (dqc_m (dqa_m (dqa_m (List.mem_of_getElem? (i := 7) rfl))))))), (lt_b9 (dqc_m (dqc_m (dqc_m (dqa_m (dqa_m (dqa_m (List.mem_of_getElem? (i := 0) rfl))))))))⟩
theorem lw_p7 : lw_okq (⟨"SportsHouseModel", "bad", "(II)V"⟩, 114) := ⟨nmh_1, imq_1, (lt_b8 (dqc_m (dqc_m (dqc_m (dqa_m (dqa_m (List.mem_of_getElem? (i := 6) rfl))))))), (lt_b8 (dqc_m (dqc_m (dqc_m (dqa_m (dqa_m (List.mem_of_getElem? (i := 7) rfl)))))))⟩
theorem lw_p8 : lw_okq (⟨"SportsHouseModel", "canEven", "(III)I"⟩, 114) := ⟨nmh_1, imq_1, (lt_b10 (List.mem_of_getElem? (i := 1) rfl)), (lt_b10 (List.mem_of_getElem? (i := 2) rfl))⟩
theorem lw_p9 : lw_okq (⟨"SportsHouseModel", "canTry", "(II)I"⟩, 114) := ⟨nmh_1, imq_1, (lt_b10 (dqa_m (dqa_m (List.mem_of_getElem? (i := 4) rfl)))), (lt_b10 (dqa_m (dqa_m (List.mem_of_getElem? (i := 5) rfl))))⟩
theorem lw_p10 : lw_okq (⟨"SportsHouseModel", "chanceOf", "(II)I"⟩, 114) := ⟨nmh_1, imq_1, (lt_b10 (dqc_m (dqc_m (List.mem_of_getElem? (i := 4) rfl)))), (lt_b10 (dqc_m (dqc_m (List.mem_of_getElem? (i := 5) rfl))))⟩
theorem lw_p11 : lw_okq (⟨"SportsHouseModel", "clubOf", "(II)I"⟩, 114) := ⟨nmh_1, imq_1, (lt_b8 (dqc_m (dqc_m (dqc_m (dqc_m (dqc_m (dqc_m (dqc_m (dqa_m (List.mem_of_getElem? (i := 4) rfl)))))))))), (lt_b8 (dqc_m (dqc_m (dqc_m (dqc_m (dqc_m (dqc_m (dqc_m (dqa_m (List.mem_of_getElem? (i := 5) rfl))))))))))⟩
theorem lw_p12 : lw_okq (⟨"SportsHouseModel", "compareClubs", "(II)I"⟩, 114) := ⟨nmh_1, imq_1, (lt_b9 (dqc_m (dqc_m (dqc_m (dqc_m (dqc_m (dqc_m (dqa_m (dqa_m (List.mem_of_getElem? (i := 1) rfl)))))))))), (lt_b9 (dqc_m (dqc_m (dqc_m (dqc_m (dqc_m (dqc_m (dqa_m (dqa_m (List.mem_of_getElem? (i := 2) rfl))))))))))⟩
theorem lw_p13 : lw_okq (⟨"SportsHouseModel", "countLeft", "(I)V"⟩, 114) := ⟨nmh_1, imq_1, (lt_b9 (dqc_m (dqc_m (dqc_m (dqc_m (dqc_m (dqc_m (dqc_m (List.mem_of_getElem? (i := 5) rfl))))))))), (lt_b9 (dqc_m (dqc_m (dqc_m (dqc_m (dqc_m (dqc_m (dqc_m (List.mem_of_getElem? (i := 6) rfl)))))))))⟩
theorem lw_p14 : lw_okq (⟨"SportsHouseModel", "countWays", "(II)I"⟩, 114) := ⟨nmh_1, imq_1, (lt_b10 (dqc_m (dqa_m (dqa_m (dqa_m (List.mem_of_getElem? (i := 0) rfl)))))), (lt_b10 (dqc_m (dqa_m (dqa_m (dqa_m (List.mem_of_getElem? (i := 1) rfl))))))⟩
theorem lw_p15 : lw_okq (⟨"SportsHouseModel", "counts", "(II)Z"⟩, 114) := ⟨nmh_1, imq_1, (lt_b9 (dqc_m (dqc_m (dqc_m (dqc_m (dqc_m (dqa_m (List.mem_of_getElem? (i := 3) rfl)))))))), (lt_b9 (dqc_m (dqc_m (dqc_m (dqc_m (dqc_m (dqa_m (List.mem_of_getElem? (i := 4) rfl))))))))⟩
theorem lw_p16 : lw_okq (⟨"SportsHouseModel", "distanceOf", "(II)I"⟩, 114) := ⟨nmh_1, imq_1, (lt_b10 (dqc_m (dqc_m (dqc_m (List.mem_of_getElem? (i := 3) rfl))))), (lt_b10 (dqc_m (dqc_m (dqc_m (List.mem_of_getElem? (i := 4) rfl)))))⟩
theorem lw_p17 : lw_okq (⟨"SportsHouseModel", "fairOf", "(I)I"⟩, 114) := ⟨nmh_1, imq_1, (lt_b9 (dqc_m (dqc_m (dqc_m (dqc_m (dqc_m (dqa_m (dqa_m (List.mem_of_getElem? (i := 3) rfl))))))))), (lt_b9 (dqc_m (dqc_m (dqc_m (dqc_m (dqc_m (dqa_m (dqa_m (List.mem_of_getElem? (i := 4) rfl)))))))))⟩
theorem lw_p18 : lw_okq (⟨"SportsHouseModel", "findPaths", "(II)V"⟩, 114) := ⟨nmh_1, imq_1, (lt_b10 (dqc_m (dqc_m (dqa_m (dqa_m (dqa_m (List.mem_of_getElem? (i := 7) rfl))))))), (lt_b10 (dqc_m (dqc_m (dqc_m (List.mem_of_getElem? (i := 0) rfl)))))⟩
theorem lw_p19 : lw_okq (⟨"SportsHouseModel", "hasEntered", "(II)Z"⟩, 114) := ⟨nmh_1, imq_1, (lt_b8 (dqc_m (dqc_m (dqc_m (dqc_m (dqc_m (dqa_m (dqa_m (dqa_m (List.mem_of_getElem? (i := 0) rfl)))))))))), (lt_b8 (dqc_m (dqc_m (dqc_m (dqc_m (dqc_m (dqa_m (dqa_m (dqa_m (List.mem_of_getElem? (i := 1) rfl))))))))))⟩
theorem lw_p20 : lw_okq (⟨"SportsHouseModel", "hit", "(III)V"⟩, 114) := ⟨nmh_1, imq_1, (lt_b9 (dqc_m (dqc_m (dqc_m (dqa_m (dqa_m (List.mem_of_getElem? (i := 3) rfl))))))), (lt_b9 (dqc_m (dqc_m (dqc_m (dqa_m (dqa_m (List.mem_of_getElem? (i := 4) rfl)))))))⟩
theorem lw_p21 : lw_okq (⟨"SportsHouseModel", "isAhead", "(II)Z"⟩, 114) := ⟨nmh_1, imq_1, (lt_b9 (dqa_m (List.mem_of_getElem? (i := 0) rfl))), (lt_b9 (dqa_m (List.mem_of_getElem? (i := 1) rfl)))⟩
theorem lw_p22 : lw_okq (⟨"SportsHouseModel", "isBanned", "(II)Z"⟩, 114) := ⟨nmh_1, imq_1, (lt_b9 (List.mem_of_getElem? (i := 0) rfl)), (lt_b9 (List.mem_of_getElem? (i := 1) rfl))⟩
theorem lw_p23 : lw_okq (⟨"SportsHouseModel", "isElsewhere", "(II)Z"⟩, 114) := ⟨nmh_1, imq_1, (lt_b9 (dqa_m (dqa_m (List.mem_of_getElem? (i := 0) rfl)))), (lt_b9 (dqa_m (dqa_m (List.mem_of_getElem? (i := 1) rfl))))⟩
theorem lw_p24 : lw_okq (⟨"SportsHouseModel", "isInDraw", "(I)Z"⟩, 114) := ⟨nmh_1, imq_1, (lt_b10 (dqc_m (dqa_m (dqa_m (List.mem_of_getElem? (i := 0) rfl))))), (lt_b10 (dqc_m (dqa_m (dqa_m (List.mem_of_getElem? (i := 1) rfl)))))⟩
theorem lw_p25 : lw_okq (⟨"SportsHouseModel", "isKind", "(II)Z"⟩, 114) := ⟨nmh_1, imq_1, (lt_b9 (dqc_m (dqa_m (dqa_m (List.mem_of_getElem? (i := 0) rfl))))), (lt_b9 (dqc_m (dqa_m (dqa_m (List.mem_of_getElem? (i := 1) rfl)))))⟩
theorem lw_p26 : lw_okq (⟨"SportsHouseModel", "isLeft", "(I)Z"⟩, 114) := ⟨nmh_1, imq_1, (lt_b9 (dqc_m (dqc_m (dqc_m (dqc_m (dqc_m (dqc_m (dqc_m (dqa_m (List.mem_of_getElem? (i := 1) rfl)))))))))), (lt_b9 (dqc_m (dqc_m (dqc_m (dqc_m (dqc_m (dqc_m (dqc_m (dqa_m (List.mem_of_getElem? (i := 2) rfl))))))))))⟩
theorem lw_p27 : lw_okq (⟨"SportsHouseModel", "isRowWell", "(III)Z"⟩, 114) := ⟨nmh_1, imq_1, (lt_b10 (dqa_m (dqa_m (dqa_m (List.mem_of_getElem? (i := 0) rfl))))), (lt_b10 (dqa_m (dqa_m (dqa_m (List.mem_of_getElem? (i := 1) rfl)))))⟩
theorem lw_p28 : lw_okq (⟨"SportsHouseModel", "isTold", "(III)Z"⟩, 114) := ⟨nmh_1, imq_1, (lt_b9 (dqc_m (dqa_m (List.mem_of_getElem? (i := 4) rfl)))), (lt_b9 (dqc_m (dqa_m (List.mem_of_getElem? (i := 5) rfl))))⟩
theorem lw_p29 : lw_okq (⟨"SportsHouseModel", "lawOf", "(IIIII)I"⟩, 114) := ⟨nmh_1, imq_1, (lt_b9 (dqc_m (dqa_m (List.mem_of_getElem? (i := 0) rfl)))), (lt_b9 (dqc_m (dqa_m (List.mem_of_getElem? (i := 1) rfl))))⟩
theorem lw_p30 : lw_okq (⟨"SportsHouseModel", "lay", "(III)V"⟩, 114) := ⟨nmh_1, imq_1, (lt_b9 (dqc_m (dqc_m (dqc_m (dqc_m (dqc_m (dqa_m (dqa_m (List.mem_of_getElem? (i := 7) rfl))))))))), (lt_b9 (dqc_m (dqc_m (dqc_m (dqc_m (dqc_m (dqa_m (dqa_m (dqa_m (List.mem_of_getElem? (i := 0) rfl))))))))))⟩
theorem lw_p31 : lw_okq (⟨"SportsHouseModel", "layBeginning", "(I)V"⟩, 114) := ⟨nmh_1, imq_1, (lt_b9 (dqa_m (dqa_m (dqa_m (List.mem_of_getElem? (i := 4) rfl))))), (lt_b9 (dqa_m (dqa_m (dqa_m (List.mem_of_getElem? (i := 5) rfl)))))⟩
theorem lw_p32 : lw_okq (⟨"SportsHouseModel", "layBetween", "(II)V"⟩, 114) := ⟨nmh_1, imq_1, (lt_b10 (List.mem_of_getElem? (i := 5) rfl)), (lt_b10 (List.mem_of_getElem? (i := 6) rfl))⟩
theorem lw_p33 : lw_okq (⟨"SportsHouseModel", "layDefaults", "()V"⟩, 114) := ⟨nmh_1, imq_1, (lt_b8 (dqc_m (dqc_m (dqc_m (dqa_m (List.mem_of_getElem? (i := 3) rfl)))))), (lt_b8 (dqc_m (dqc_m (dqc_m (dqa_m (List.mem_of_getElem? (i := 4) rfl))))))⟩
theorem lw_p34 : lw_okq (⟨"SportsHouseModel", "laySlack", "(I)I"⟩, 114) := ⟨nmh_1, imq_1, (lt_b10 (dqa_m (List.mem_of_getElem? (i := 1) rfl))), (lt_b10 (dqa_m (List.mem_of_getElem? (i := 2) rfl)))⟩
theorem lw_p35 : lw_okq (⟨"SportsHouseModel", "liveOf", "(II)I"⟩, 114) := ⟨nmh_1, imq_1, (lt_b9 (dqc_m (dqa_m (dqa_m (List.mem_of_getElem? (i := 4) rfl))))), (lt_b9 (dqc_m (dqa_m (dqa_m (List.mem_of_getElem? (i := 5) rfl)))))⟩
theorem lw_p36 : lw_okq (⟨"SportsHouseModel", "matchRest", "(II)V"⟩, 114) := ⟨nmh_1, imq_1, (lt_b10 (dqc_m (dqc_m (dqa_m (dqa_m (dqa_m (List.mem_of_getElem? (i := 3) rfl))))))), (lt_b10 (dqc_m (dqc_m (dqa_m (dqa_m (dqa_m (List.mem_of_getElem? (i := 4) rfl)))))))⟩
theorem lw_p37 : lw_okq (⟨"SportsHouseModel", "mayLead", "(II)Z"⟩, 114) := ⟨nmh_1, imq_1, (lt_b10 (dqc_m (dqc_m (dqc_m (List.mem_of_getElem? (i := 7) rfl))))), (lt_b10 (dqc_m (dqc_m (dqc_m (dqa_m (List.mem_of_getElem? (i := 0) rfl))))))⟩
theorem lw_p38 : lw_okq (⟨"SportsHouseModel", "mayStand", "(II)Z"⟩, 114) := ⟨nmh_1, imq_1, (lt_b10 (dqc_m (dqa_m (dqa_m (dqa_m (List.mem_of_getElem? (i := 4) rfl)))))), (lt_b10 (dqc_m (dqa_m (dqa_m (dqa_m (List.mem_of_getElem? (i := 5) rfl))))))⟩
theorem lw_p39 : lw_okq (⟨"SportsHouseModel", "nextMatch", "(III)I"⟩, 114) := ⟨nmh_1, imq_1, (lt_b9 (List.mem_of_getElem? (i := 4) rfl)), (lt_b9 (List.mem_of_getElem? (i := 5) rfl))⟩
theorem lw_p40 : lw_okq (⟨"SportsHouseModel", "nothingAgainst", "(I)Z"⟩, 114) := ⟨nmh_1, imq_1, (lt_b8 (dqc_m (dqc_m (dqc_m (dqc_m (dqc_m (dqc_m (dqa_m (dqa_m (dqa_m (List.mem_of_getElem? (i := 0) rfl))))))))))), (lt_b8 (dqc_m (dqc_m (dqc_m (dqc_m (dqc_m (dqc_m (dqa_m (dqa_m (dqa_m (List.mem_of_getElem? (i := 1) rfl)))))))))))⟩
theorem lw_p41 : lw_okq (⟨"SportsHouseModel", "orderAll", "(II)V"⟩, 114) := ⟨nmh_1, imq_1, (lt_b9 (dqc_m (dqc_m (dqc_m (dqc_m (dqc_m (List.mem_of_getElem? (i := 3) rfl))))))), (lt_b9 (dqc_m (dqc_m (dqc_m (dqc_m (dqc_m (List.mem_of_getElem? (i := 4) rfl)))))))⟩
theorem lw_p42 : lw_okq (⟨"SportsHouseModel", "orderPart", "(IIIII)V"⟩, 114) := ⟨nmh_1, imq_1, (lt_b9 (dqc_m (dqc_m (dqc_m (dqc_m (dqc_m (dqa_m (dqa_m (dqa_m (List.mem_of_getElem? (i := 3) rfl)))))))))), (lt_b9 (dqc_m (dqc_m (dqc_m (dqc_m (dqc_m (dqa_m (dqa_m (dqa_m (List.mem_of_getElem? (i := 4) rfl))))))))))⟩
theorem lw_p43 : lw_okq (⟨"SportsHouseModel", "othersOf", "(II)I"⟩, 114) := ⟨nmh_1, imq_1, (lt_b9 (dqc_m (dqc_m (dqc_m (dqc_m (dqc_m (dqc_m (dqc_m (dqa_m (List.mem_of_getElem? (i := 5) rfl)))))))))), (lt_b9 (dqc_m (dqc_m (dqc_m (dqc_m (dqc_m (dqc_m (dqc_m (dqa_m (List.mem_of_getElem? (i := 6) rfl))))))))))⟩
theorem lw_p44 : lw_okq (⟨"SportsHouseModel", "out", "(I)V"⟩, 114) := ⟨nmh_1, imq_1, (lt_b9 (dqc_m (dqc_m (dqc_m (dqa_m (dqa_m (dqa_m (List.mem_of_getElem? (i := 7) rfl)))))))), (lt_b9 (dqc_m (dqc_m (dqc_m (dqc_m (List.mem_of_getElem? (i := 0) rfl))))))⟩
theorem lw_p45 : lw_okq (⟨"SportsHouseModel", "placeOf", "(I)I"⟩, 114) := ⟨nmh_1, imq_1, (lt_b9 (dqc_m (dqc_m (dqc_m (dqc_m (dqc_m (dqc_m (dqa_m (dqa_m (List.mem_of_getElem? (i := 5) rfl)))))))))), (lt_b9 (dqc_m (dqc_m (dqc_m (dqc_m (dqc_m (dqc_m (dqa_m (dqa_m (List.mem_of_getElem? (i := 6) rfl))))))))))⟩
theorem lw_p46 : lw_okq (⟨"SportsHouseModel", "play", "(IIIII)V"⟩, 114) := ⟨nmh_1, imq_1, (lt_b9 (dqc_m (dqc_m (List.mem_of_getElem? (i := 7) rfl)))), (lt_b9 (dqc_m (dqc_m (dqa_m (List.mem_of_getElem? (i := 0) rfl)))))⟩
theorem lw_p47 : lw_okq (⟨"SportsHouseModel", "playAnew", "(I)I"⟩, 114) := ⟨nmh_1, imq_1, (lt_b9 (dqc_m (dqc_m (dqc_m (dqc_m (dqa_m (List.mem_of_getElem? (i := 3) rfl))))))), (lt_b9 (dqc_m (dqc_m (dqc_m (dqc_m (dqa_m (List.mem_of_getElem? (i := 4) rfl)))))))⟩
theorem lw_p48 : lw_okq (⟨"SportsHouseModel", "playBaseball", "(IIII)V"⟩, 114) := ⟨nmh_1, imq_1, (lt_b9 (dqc_m (dqc_m (dqc_m (dqa_m (List.mem_of_getElem? (i := 7) rfl)))))), (lt_b9 (dqc_m (dqc_m (dqc_m (dqa_m (dqa_m (List.mem_of_getElem? (i := 0) rfl)))))))⟩
theorem lw_p49 : lw_okq (⟨"SportsHouseModel", "playFootball", "(IIIII)V"⟩, 114) := ⟨nmh_1, imq_1, (lt_b9 (dqc_m (dqc_m (dqa_m (List.mem_of_getElem? (i := 3) rfl))))), (lt_b9 (dqc_m (dqc_m (dqa_m (List.mem_of_getElem? (i := 4) rfl)))))⟩
theorem lw_p50 : lw_okq (⟨"SportsHouseModel", "playTennis", "(III)V"⟩, 114) := ⟨nmh_1, imq_1, (lt_b9 (dqc_m (dqc_m (dqc_m (dqa_m (List.mem_of_getElem? (i := 3) rfl)))))), (lt_b9 (dqc_m (dqc_m (dqc_m (dqa_m (List.mem_of_getElem? (i := 4) rfl))))))⟩
theorem lw_p51 : lw_okq (⟨"SportsHouseModel", "playVolleyball", "(IIIII)V"⟩, 114) := ⟨nmh_1, imq_1, (lt_b9 (dqc_m (dqc_m (dqa_m (dqa_m (dqa_m (List.mem_of_getElem? (i := 7) rfl))))))), (lt_b9 (dqc_m (dqc_m (dqc_m (List.mem_of_getElem? (i := 0) rfl)))))⟩
theorem lw_p52 : lw_okq (⟨"SportsHouseModel", "putBehind", "(IIZ)V"⟩, 114) := ⟨nmh_1, imq_1, (lt_b9 (dqc_m (dqa_m (dqa_m (dqa_m (List.mem_of_getElem? (i := 7) rfl)))))), (lt_b9 (dqc_m (dqc_m (List.mem_of_getElem? (i := 0) rfl))))⟩
theorem lw_p53 : lw_okq (⟨"SportsHouseModel", "reach", "(III)Z"⟩, 114) := ⟨nmh_1, imq_1, (lt_b10 (dqc_m (dqc_m (dqc_m (dqa_m (List.mem_of_getElem? (i := 3) rfl)))))), (lt_b10 (dqc_m (dqc_m (dqc_m (dqa_m (List.mem_of_getElem? (i := 4) rfl))))))⟩
theorem lw_p54 : lw_okq (⟨"SportsHouseModel", "readOrder", "()V"⟩, 114) := ⟨nmh_1, imq_1, (lt_b8 (dqc_m (dqc_m (dqc_m (dqc_m (List.mem_of_getElem? (i := 5) rfl)))))), (lt_b8 (dqc_m (dqc_m (dqc_m (dqc_m (List.mem_of_getElem? (i := 6) rfl))))))⟩
theorem lw_p55 : lw_okq (⟨"SportsHouseModel", "readSport", "()V"⟩, 114) := ⟨nmh_1, imq_1, (lt_b8 (dqc_m (dqc_m (dqc_m (dqc_m (dqa_m (List.mem_of_getElem? (i := 1) rfl))))))), (lt_b8 (dqc_m (dqc_m (dqc_m (dqc_m (dqa_m (List.mem_of_getElem? (i := 2) rfl)))))))⟩
theorem lw_p56 : lw_okq (⟨"SportsHouseModel", "readStatement", "()V"⟩, 114) := ⟨nmh_1, imq_1, (lt_b8 (dqc_m (dqc_m (dqc_m (dqa_m (dqa_m (dqa_m (List.mem_of_getElem? (i := 5) rfl)))))))), (lt_b8 (dqc_m (dqc_m (dqc_m (dqa_m (dqa_m (dqa_m (List.mem_of_getElem? (i := 6) rfl))))))))⟩
theorem lw_p57 : lw_okq (⟨"SportsHouseModel", "rotate", "(I)V"⟩, 114) := ⟨nmh_1, imq_1, (lt_b9 (dqc_m (dqc_m (dqc_m (List.mem_of_getElem? (i := 3) rfl))))), (lt_b9 (dqc_m (dqc_m (dqc_m (List.mem_of_getElem? (i := 4) rfl)))))⟩
theorem lw_p58 : lw_okq (⟨"SportsHouseModel", "rowAt", "(II)I"⟩, 114) := ⟨nmh_1, imq_1, (lt_b9 (dqc_m (dqc_m (List.mem_of_getElem? (i := 3) rfl)))), (lt_b9 (dqc_m (dqc_m (List.mem_of_getElem? (i := 4) rfl))))⟩
theorem lw_p59 : lw_okq (⟨"SportsHouseModel", "rule0", "(II)I"⟩, 114) := ⟨nmh_1, imq_1, (lt_b8 (dqc_m (dqc_m (dqc_m (dqc_m (dqa_m (dqa_m (dqa_m (List.mem_of_getElem? (i := 4) rfl))))))))), (lt_b8 (dqc_m (dqc_m (dqc_m (dqc_m (dqa_m (dqa_m (dqa_m (List.mem_of_getElem? (i := 5) rfl)))))))))⟩
theorem lw_p60 : lw_okq (⟨"SportsHouseModel", "say", "(III)V"⟩, 114) := ⟨nmh_1, imq_1, (lt_b9 (dqc_m (dqc_m (dqc_m (dqc_m (dqc_m (dqa_m (dqa_m (dqa_m (List.mem_of_getElem? (i := 7) rfl)))))))))), (lt_b9 (dqc_m (dqc_m (dqc_m (dqc_m (dqc_m (dqc_m (List.mem_of_getElem? (i := 0) rfl))))))))⟩
theorem lw_p61 : lw_okq (⟨"SportsHouseModel", "sayHead", "(II)V"⟩, 114) := ⟨nmh_1, imq_1, (lt_b9 (dqc_m (dqc_m (dqc_m (dqc_m (dqc_m (dqc_m (List.mem_of_getElem? (i := 3) rfl)))))))), (lt_b9 (dqc_m (dqc_m (dqc_m (dqc_m (dqc_m (dqc_m (List.mem_of_getElem? (i := 4) rfl))))))))⟩
theorem lw_p62 : lw_okq (⟨"SportsHouseModel", "scoreOf", "(II)I"⟩, 114) := ⟨nmh_1, imq_1, (lt_b9 (dqc_m (dqc_m (dqc_m (List.mem_of_getElem? (i := 7) rfl))))), (lt_b9 (dqc_m (dqc_m (dqc_m (dqa_m (List.mem_of_getElem? (i := 0) rfl))))))⟩
theorem lw_p63 : lw_okq (⟨"SportsHouseModel", "sendOff", "(III)V"⟩, 114) := ⟨nmh_1, imq_1, (lt_b9 (dqc_m (dqc_m (dqa_m (dqa_m (List.mem_of_getElem? (i := 7) rfl)))))), (lt_b9 (dqc_m (dqc_m (dqa_m (dqa_m (dqa_m (List.mem_of_getElem? (i := 0) rfl)))))))⟩
theorem lw_p64 : lw_okq (⟨"SportsHouseModel", "setLive", "(III)V"⟩, 114) := ⟨nmh_1, imq_1, (lt_b9 (dqc_m (dqc_m (dqa_m (List.mem_of_getElem? (i := 7) rfl))))), (lt_b9 (dqc_m (dqc_m (dqa_m (dqa_m (List.mem_of_getElem? (i := 0) rfl))))))⟩
theorem lw_p65 : lw_okq (⟨"SportsHouseModel", "settle", "(IIIZ)I"⟩, 114) := ⟨nmh_1, imq_1, (lt_b10 (dqa_m (List.mem_of_getElem? (i := 5) rfl))), (lt_b10 (dqa_m (List.mem_of_getElem? (i := 6) rfl)))⟩
theorem lw_p66 : lw_okq (⟨"SportsHouseModel", "shareClub", "(II)Z"⟩, 114) := ⟨nmh_1, imq_1, (lt_b8 (dqc_m (dqc_m (dqc_m (dqc_m (dqc_m (dqc_m (dqa_m (dqa_m (List.mem_of_getElem? (i := 4) rfl)))))))))), (lt_b8 (dqc_m (dqc_m (dqc_m (dqc_m (dqc_m (dqc_m (dqa_m (dqa_m (List.mem_of_getElem? (i := 5) rfl))))))))))⟩
theorem lw_p67 : lw_okq (⟨"SportsHouseModel", "slotOf", "(II)I"⟩, 114) := ⟨nmh_1, imq_1, (lt_b9 (dqa_m (List.mem_of_getElem? (i := 4) rfl))), (lt_b9 (dqa_m (List.mem_of_getElem? (i := 5) rfl)))⟩
theorem lw_p68 : lw_okq (⟨"SportsHouseModel", "sortPart", "(II)V"⟩, 114) := ⟨nmh_1, imq_1, (lt_b9 (dqc_m (dqc_m (dqc_m (dqc_m (dqc_m (dqc_m (dqa_m (List.mem_of_getElem? (i := 5) rfl))))))))), (lt_b9 (dqc_m (dqc_m (dqc_m (dqc_m (dqc_m (dqc_m (dqa_m (List.mem_of_getElem? (i := 6) rfl)))))))))⟩
theorem lw_p69 : lw_okq (⟨"SportsHouseModel", "standAgainst", "(II)Z"⟩, 114) := ⟨nmh_1, imq_1, (lt_b8 (dqc_m (dqc_m (dqc_m (dqc_m (dqc_m (dqc_m (dqa_m (dqa_m (List.mem_of_getElem? (i := 0) rfl)))))))))), (lt_b8 (dqc_m (dqc_m (dqc_m (dqc_m (dqc_m (dqc_m (dqa_m (dqa_m (List.mem_of_getElem? (i := 1) rfl))))))))))⟩
theorem lw_p70 : lw_okq (⟨"SportsHouseModel", "stands", "(IIII)Z"⟩, 114) := ⟨nmh_1, imq_1, (lt_b9 (dqc_m (dqa_m (dqa_m (dqa_m (List.mem_of_getElem? (i := 0) rfl)))))), (lt_b9 (dqc_m (dqa_m (dqa_m (dqa_m (List.mem_of_getElem? (i := 1) rfl))))))⟩
theorem lw_p71 : lw_okq (⟨"SportsHouseModel", "substitute", "(IIII)V"⟩, 114) := ⟨nmh_1, imq_1, (lt_b9 (dqc_m (dqc_m (dqa_m (dqa_m (dqa_m (List.mem_of_getElem? (i := 3) rfl))))))), (lt_b9 (dqc_m (dqc_m (dqa_m (dqa_m (dqa_m (List.mem_of_getElem? (i := 4) rfl)))))))⟩
theorem lw_p72 : lw_okq (⟨"SportsHouseModel", "take", "()V"⟩, 114) := ⟨nmh_1, imq_1, (lt_b8 (dqc_m (dqc_m (dqc_m (dqa_m (List.mem_of_getElem? (i := 7) rfl)))))), (lt_b8 (dqc_m (dqc_m (dqc_m (dqa_m (dqa_m (List.mem_of_getElem? (i := 0) rfl)))))))⟩
theorem lw_p73 : lw_okq (⟨"SportsHouseModel", "takenBelow", "(I)I"⟩, 114) := ⟨nmh_1, imq_1, (lt_b10 (dqc_m (dqc_m (dqa_m (List.mem_of_getElem? (i := 4) rfl))))), (lt_b10 (dqc_m (dqc_m (dqa_m (List.mem_of_getElem? (i := 5) rfl)))))⟩
theorem lw_p74 : lw_okq (⟨"SportsHouseModel", "tellAll", "(II)V"⟩, 114) := ⟨nmh_1, imq_1, (lt_b9 (dqc_m (dqc_m (dqc_m (dqc_m (dqc_m (List.mem_of_getElem? (i := 7) rfl))))))), (lt_b9 (dqc_m (dqc_m (dqc_m (dqc_m (dqc_m (dqa_m (List.mem_of_getElem? (i := 0) rfl))))))))⟩
theorem lw_p75 : lw_okq (⟨"SportsHouseModel", "tellResult", "(IIII)V"⟩, 114) := ⟨nmh_1, imq_1, (lt_b9 (dqc_m (dqc_m (dqc_m (dqc_m (dqc_m (dqa_m (List.mem_of_getElem? (i := 7) rfl)))))))), (lt_b9 (dqc_m (dqc_m (dqc_m (dqc_m (dqc_m (dqa_m (dqa_m (List.mem_of_getElem? (i := 0) rfl)))))))))⟩
theorem lw_p76 : lw_okq (⟨"SportsHouseModel", "turnSides", "(I)V"⟩, 114) := ⟨nmh_1, imq_1, (lt_b9 (dqc_m (dqc_m (dqc_m (dqc_m (List.mem_of_getElem? (i := 3) rfl)))))), (lt_b9 (dqc_m (dqc_m (dqc_m (dqc_m (List.mem_of_getElem? (i := 4) rfl))))))⟩
theorem lw_p77 : lw_okq (⟨"SportsHouseModel", "walk", "(II)V"⟩, 114) := ⟨nmh_1, imq_1, (lt_b9 (dqc_m (dqc_m (dqc_m (dqa_m (dqa_m (dqa_m (List.mem_of_getElem? (i := 3) rfl)))))))), (lt_b9 (dqc_m (dqc_m (dqc_m (dqa_m (dqa_m (dqa_m (List.mem_of_getElem? (i := 4) rfl))))))))⟩
theorem lw_p78 : lw_okq (⟨"SportsHouseModel", "wantNumber", "(III)V"⟩, 114) := ⟨nmh_1, imq_1, (lt_b8 (dqc_m (dqc_m (dqc_m (dqc_m (dqa_m (List.mem_of_getElem? (i := 5) rfl))))))), (lt_b8 (dqc_m (dqc_m (dqc_m (dqc_m (dqa_m (List.mem_of_getElem? (i := 6) rfl)))))))⟩
theorem lw_p79 : lw_okq (⟨"SportsHouseModel", "whichOf", "([I)I"⟩, 114) := ⟨nmh_1, imq_1, (lt_b8 (dqc_m (dqc_m (dqc_m (dqc_m (List.mem_of_getElem? (i := 1) rfl)))))), (lt_b8 (dqc_m (dqc_m (dqc_m (dqc_m (List.mem_of_getElem? (i := 2) rfl))))))⟩
theorem lw_p80 : lw_okq (⟨"SportsHouseModel", "whyNot", "(III)I"⟩, 114) := ⟨nmh_1, imq_1, (lt_b8 (dqc_m (dqc_m (dqc_m (dqc_m (dqc_m (dqc_m (dqc_m (dqa_m (List.mem_of_getElem? (i := 0) rfl)))))))))), (lt_b8 (dqc_m (dqc_m (dqc_m (dqc_m (dqc_m (dqc_m (dqc_m (dqa_m (List.mem_of_getElem? (i := 1) rfl))))))))))⟩
theorem lw_p81 : lw_okq (⟨"SportsHouse$Lots", "countFrom", "(I)I"⟩, 16) := ⟨nmh_2, imq_2, (lt_b6 (dqc_m (dqc_m (dqc_m (dqc_m (dqa_m (dqa_m (List.mem_of_getElem? (i := 3) rfl)))))))), (lt_b6 (dqc_m (dqc_m (dqc_m (dqc_m (dqa_m (dqa_m (List.mem_of_getElem? (i := 4) rfl))))))))⟩
theorem lw_p82 : lw_okq (⟨"SportsHouse$Lots", "takeBelow", "(I)I"⟩, 16) := ⟨nmh_2, imq_2, (lt_b6 (dqc_m (dqc_m (dqc_m (dqc_m (dqc_m (List.mem_of_getElem? (i := 7) rfl))))))), (lt_b6 (dqc_m (dqc_m (dqc_m (dqc_m (dqc_m (dqa_m (List.mem_of_getElem? (i := 0) rfl))))))))⟩
theorem lw_p83 : lw_okq (⟨"SportsHouse$Play", "benchPlace", "(II)I"⟩, 18) := ⟨nmh_3, imq_3, (lt_b5 (dqc_m (dqa_m (dqa_m (List.mem_of_getElem? (i := 5) rfl))))), (lt_b5 (dqc_m (dqa_m (dqa_m (List.mem_of_getElem? (i := 6) rfl)))))⟩
theorem lw_p84 : lw_okq (⟨"SportsHouse$Play", "closeGap", "(II)V"⟩, 18) := ⟨nmh_3, imq_3, (lt_b5 (dqc_m (dqc_m (dqa_m (dqa_m (List.mem_of_getElem? (i := 1) rfl)))))), (lt_b5 (dqc_m (dqc_m (dqa_m (dqa_m (List.mem_of_getElem? (i := 2) rfl))))))⟩
theorem lw_p85 : lw_okq (⟨"SportsHouse$Play", "countOut", "()V"⟩, 18) := ⟨nmh_3, imq_3, (lt_b5 (dqc_m (dqc_m (dqc_m (dqa_m (dqa_m (dqa_m (List.mem_of_getElem? (i := 6) rfl)))))))), (lt_b5 (dqc_m (dqc_m (dqc_m (dqa_m (dqa_m (dqa_m (List.mem_of_getElem? (i := 7) rfl))))))))⟩
theorem lw_p86 : lw_okq (⟨"SportsHouse$Play", "endHalf", "()V"⟩, 18) := ⟨nmh_3, imq_3, (lt_b5 (dqc_m (dqc_m (dqc_m (dqc_m (List.mem_of_getElem? (i := 2) rfl)))))), (lt_b5 (dqc_m (dqc_m (dqc_m (dqc_m (List.mem_of_getElem? (i := 3) rfl))))))⟩
theorem lw_p87 : lw_okq (⟨"SportsHouse$Play", "fieldPlace", "(II)I"⟩, 18) := ⟨nmh_3, imq_3, (lt_b5 (dqc_m (dqa_m (List.mem_of_getElem? (i := 5) rfl)))), (lt_b5 (dqc_m (dqa_m (List.mem_of_getElem? (i := 6) rfl))))⟩
theorem lw_p88 : lw_okq (⟨"SportsHouse$Play", "goOnBase", "(II)V"⟩, 18) := ⟨nmh_3, imq_3, (lt_b5 (dqc_m (dqc_m (dqc_m (dqa_m (dqa_m (List.mem_of_getElem? (i := 2) rfl))))))), (lt_b5 (dqc_m (dqc_m (dqc_m (dqa_m (dqa_m (List.mem_of_getElem? (i := 3) rfl)))))))⟩
theorem lw_p89 : lw_okq (⟨"SportsHouse$Play", "hit", "(II)V"⟩, 18) := ⟨nmh_3, imq_3, (lt_b5 (dqc_m (dqc_m (dqc_m (dqa_m (List.mem_of_getElem? (i := 0) rfl)))))), (lt_b5 (dqc_m (dqc_m (dqc_m (dqa_m (List.mem_of_getElem? (i := 1) rfl))))))⟩
theorem lw_p90 : lw_okq (⟨"SportsHouse$Play", "isAllowed", "(II)Z"⟩, 18) := ⟨nmh_3, imq_3, (lt_b5 (dqc_m (List.mem_of_getElem? (i := 5) rfl))), (lt_b5 (dqc_m (List.mem_of_getElem? (i := 6) rfl)))⟩
theorem lw_p91 : lw_okq (⟨"SportsHouse$Play", "isLastInning", "()Z"⟩, 18) := ⟨nmh_3, imq_3, (lt_b5 (dqc_m (dqc_m (dqc_m (dqa_m (dqa_m (List.mem_of_getElem? (i := 6) rfl))))))), (lt_b5 (dqc_m (dqc_m (dqc_m (dqa_m (dqa_m (List.mem_of_getElem? (i := 7) rfl)))))))⟩
theorem lw_p92 : lw_okq (⟨"SportsHouse$Play", "needsPerson", "(I)Z"⟩, 18) := ⟨nmh_3, imq_3, (lt_b5 (dqc_m (dqa_m (List.mem_of_getElem? (i := 1) rfl)))), (lt_b5 (dqc_m (dqa_m (List.mem_of_getElem? (i := 2) rfl))))⟩
theorem lw_p93 : lw_okq (⟨"SportsHouse$Play", "playBaseball", "(III)V"⟩, 18) := ⟨nmh_3, imq_3, (lt_b5 (dqc_m (dqc_m (dqc_m (List.mem_of_getElem? (i := 4) rfl))))), (lt_b5 (dqc_m (dqc_m (dqc_m (List.mem_of_getElem? (i := 5) rfl)))))⟩
theorem lw_p94 : lw_okq (⟨"SportsHouse$Play", "playFootball", "(III)V"⟩, 18) := ⟨nmh_3, imq_3, (lt_b5 (dqc_m (dqc_m (List.mem_of_getElem? (i := 5) rfl)))), (lt_b5 (dqc_m (dqc_m (List.mem_of_getElem? (i := 6) rfl))))⟩
theorem lw_p95 : lw_okq (⟨"SportsHouse$Play", "playTennis", "(II)V"⟩, 18) := ⟨nmh_3, imq_3, (lt_b5 (dqc_m (dqc_m (dqc_m (List.mem_of_getElem? (i := 0) rfl))))), (lt_b5 (dqc_m (dqc_m (dqc_m (List.mem_of_getElem? (i := 1) rfl)))))⟩
theorem lw_p96 : lw_okq (⟨"SportsHouse$Play", "playVolleyball", "(I)V"⟩, 18) := ⟨nmh_3, imq_3, (lt_b5 (dqc_m (dqc_m (dqa_m (dqa_m (List.mem_of_getElem? (i := 5) rfl)))))), (lt_b5 (dqc_m (dqc_m (dqa_m (dqa_m (List.mem_of_getElem? (i := 6) rfl))))))⟩
theorem lw_p97 : lw_okq (⟨"SportsHouse$Play", "putAside", "(IIII)V"⟩, 18) := ⟨nmh_3, imq_3, (lt_b5 (dqc_m (dqc_m (dqc_m (dqc_m (dqc_m (List.mem_of_getElem? (i := 6) rfl))))))), (lt_b5 (dqc_m (dqc_m (dqc_m (dqc_m (dqc_m (List.mem_of_getElem? (i := 7) rfl)))))))⟩
theorem lw_p98 : lw_okq (⟨"SportsHouse$Play", "rotate", "(I)V"⟩, 18) := ⟨nmh_3, imq_3, (lt_b5 (dqc_m (dqc_m (dqa_m (dqa_m (dqa_m (List.mem_of_getElem? (i := 1) rfl))))))), (lt_b5 (dqc_m (dqc_m (dqa_m (dqa_m (dqa_m (List.mem_of_getElem? (i := 2) rfl)))))))⟩
theorem lw_p99 : lw_okq (⟨"SportsHouse$Play", "sendOff", "(II)V"⟩, 18) := ⟨nmh_3, imq_3, (lt_b5 (dqc_m (dqc_m (dqa_m (List.mem_of_getElem? (i := 5) rfl))))), (lt_b5 (dqc_m (dqc_m (dqa_m (List.mem_of_getElem? (i := 6) rfl)))))⟩
theorem lw_p100 : lw_okq (⟨"SportsHouse$Play", "showYellow", "(II)V"⟩, 18) := ⟨nmh_3, imq_3, (lt_b5 (dqc_m (dqc_m (dqa_m (List.mem_of_getElem? (i := 1) rfl))))), (lt_b5 (dqc_m (dqc_m (dqa_m (List.mem_of_getElem? (i := 2) rfl)))))⟩
theorem lw_p101 : lw_okq (⟨"SportsHouse$Play", "substitute", "(III)V"⟩, 18) := ⟨nmh_3, imq_3, (lt_b5 (dqc_m (dqc_m (List.mem_of_getElem? (i := 1) rfl)))), (lt_b5 (dqc_m (dqc_m (List.mem_of_getElem? (i := 2) rfl))))⟩
theorem lw_p102 : lw_okq (⟨"SportsHouse$Play", "walk", "(I)V"⟩, 18) := ⟨nmh_3, imq_3, (lt_b5 (dqc_m (dqc_m (dqc_m (dqa_m (dqa_m (dqa_m (List.mem_of_getElem? (i := 2) rfl)))))))), (lt_b5 (dqc_m (dqc_m (dqc_m (dqa_m (dqa_m (dqa_m (List.mem_of_getElem? (i := 3) rfl))))))))⟩
theorem lw_p103 : lw_okq (⟨"SportsHouse$Referees", "firstBest", "(LSportsHouse$Match;III)I"⟩, 5) := ⟨nmh_4, imq_4, (lt_b6 (dqc_m (dqc_m (dqc_m (dqc_m (dqc_m (dqc_m (dqa_m (dqa_m (List.mem_of_getElem? (i := 2) rfl)))))))))), (lt_b6 (dqc_m (dqc_m (dqc_m (dqc_m (dqc_m (dqc_m (dqa_m (dqa_m (List.mem_of_getElem? (i := 3) rfl))))))))))⟩
theorem lw_p104 : lw_okq (⟨"SportsHouse$Referees", "gainOf", "(LSportsHouse$Match;II)I"⟩, 5) := ⟨nmh_4, imq_4, (lt_b6 (dqc_m (dqc_m (dqc_m (dqc_m (dqc_m (dqc_m (dqa_m (List.mem_of_getElem? (i := 4) rfl))))))))), (lt_b6 (dqc_m (dqc_m (dqc_m (dqc_m (dqc_m (dqc_m (dqa_m (List.mem_of_getElem? (i := 5) rfl)))))))))⟩
theorem lw_p105 : lw_okq (⟨"SportsHouse$Referees", "listMatches", "(I)V"⟩, 5) := ⟨nmh_4, imq_4, (lt_b6 (dqc_m (dqc_m (dqc_m (dqc_m (dqc_m (dqa_m (dqa_m (dqa_m (List.mem_of_getElem? (i := 7) rfl)))))))))), (lt_b6 (dqc_m (dqc_m (dqc_m (dqc_m (dqc_m (dqc_m (List.mem_of_getElem? (i := 0) rfl))))))))⟩
theorem lw_p106 : lw_okq (⟨"SportsHouse$Referees", "weigh", "(LSportsHouse$Match;III)I"⟩, 5) := ⟨nmh_4, imq_4, (lt_b6 (dqc_m (dqc_m (dqc_m (dqc_m (dqc_m (dqc_m (dqa_m (List.mem_of_getElem? (i := 0) rfl))))))))), (lt_b6 (dqc_m (dqc_m (dqc_m (dqc_m (dqc_m (dqc_m (dqa_m (List.mem_of_getElem? (i := 1) rfl)))))))))⟩
theorem lw_p107 : lw_okq (⟨"SportsHouse$Referees", "weighAll", "(I)V"⟩, 5) := ⟨nmh_4, imq_4, (lt_b6 (dqc_m (dqc_m (dqc_m (dqc_m (dqc_m (dqc_m (List.mem_of_getElem? (i := 4) rfl)))))))), (lt_b6 (dqc_m (dqc_m (dqc_m (dqc_m (dqc_m (dqc_m (List.mem_of_getElem? (i := 5) rfl))))))))⟩
theorem lw_p108 : lw_okq (⟨"SportsHouse$RuleText", "fail", "(I)Z"⟩, 10) := ⟨nmh_5, imq_5, (lt_b2 (dqc_m (dqc_m (dqc_m (dqc_m (dqc_m (dqc_m (dqc_m (dqa_m (List.mem_of_getElem? (i := 0) rfl)))))))))), (lt_b2 (dqc_m (dqc_m (dqc_m (dqc_m (dqc_m (dqc_m (dqc_m (dqa_m (List.mem_of_getElem? (i := 1) rfl))))))))))⟩
theorem lw_p109 : lw_okq (⟨"SportsHouse$RuleText", "isBetween", "(III)Z"⟩, 10) := ⟨nmh_5, imq_5, (lt_b2 (dqc_m (dqc_m (dqc_m (dqc_m (dqc_m (dqc_m (dqa_m (dqa_m (List.mem_of_getElem? (i := 3) rfl)))))))))), (lt_b2 (dqc_m (dqc_m (dqc_m (dqc_m (dqc_m (dqc_m (dqa_m (dqa_m (List.mem_of_getElem? (i := 4) rfl))))))))))⟩
theorem lw_p110 : lw_okq (⟨"SportsHouse$RuleText", "isOfKind", "(I)Z"⟩, 10) := ⟨nmh_5, imq_5, (lt_b2 (dqc_m (dqc_m (dqc_m (dqc_m (dqc_m (dqc_m (dqc_m (List.mem_of_getElem? (i := 4) rfl))))))))), (lt_b2 (dqc_m (dqc_m (dqc_m (dqc_m (dqc_m (dqc_m (dqc_m (List.mem_of_getElem? (i := 5) rfl)))))))))⟩
theorem lw_p111 : lw_okq (⟨"SportsHouse$RuleText", "nextToken", "()V"⟩, 10) := ⟨nmh_5, imq_5, (lt_b2 (dqc_m (dqc_m (dqc_m (dqc_m (dqc_m (dqc_m (dqa_m (List.mem_of_getElem? (i := 7) rfl))))))))), (lt_b2 (dqc_m (dqc_m (dqc_m (dqc_m (dqc_m (dqc_m (dqa_m (dqa_m (List.mem_of_getElem? (i := 0) rfl))))))))))⟩
theorem lw_p112 : lw_okq (⟨"SportsHouse$RuleText", "readOrder", "()Z"⟩, 10) := ⟨nmh_5, imq_5, (lt_b3 (dqc_m (dqa_m (dqa_m (dqa_m (List.mem_of_getElem? (i := 5) rfl)))))), (lt_b3 (dqc_m (dqa_m (dqa_m (dqa_m (List.mem_of_getElem? (i := 6) rfl))))))⟩
theorem lw_p113 : lw_okq (⟨"SportsHouse$RuleText", "readPoints", "()Z"⟩, 10) := ⟨nmh_5, imq_5, (lt_b3 (dqc_m (dqa_m (dqa_m (List.mem_of_getElem? (i := 1) rfl))))), (lt_b3 (dqc_m (dqa_m (dqa_m (List.mem_of_getElem? (i := 2) rfl)))))⟩
theorem lw_p114 : lw_okq (⟨"SportsHouse$RuleText", "readRule", "(II)Z"⟩, 10) := ⟨nmh_5, imq_5, (lt_b3 (dqc_m (dqa_m (dqa_m (List.mem_of_getElem? (i := 7) rfl))))), (lt_b3 (dqc_m (dqa_m (dqa_m (dqa_m (List.mem_of_getElem? (i := 0) rfl))))))⟩
theorem lw_p115 : lw_okq (⟨"SportsHouse$RuleText", "readSport", "()Z"⟩, 10) := ⟨nmh_5, imq_5, (lt_b3 (dqc_m (dqa_m (List.mem_of_getElem? (i := 4) rfl)))), (lt_b3 (dqc_m (dqa_m (List.mem_of_getElem? (i := 5) rfl))))⟩
theorem lw_p116 : lw_okq (⟨"SportsHouse$RuleText", "readStatement", "()Z"⟩, 10) := ⟨nmh_5, imq_5, (lt_b2 (dqc_m (dqc_m (dqc_m (dqc_m (dqc_m (dqc_m (dqa_m (dqa_m (dqa_m (List.mem_of_getElem? (i := 3) rfl))))))))))), (lt_b2 (dqc_m (dqc_m (dqc_m (dqc_m (dqc_m (dqc_m (dqa_m (dqa_m (dqa_m (List.mem_of_getElem? (i := 4) rfl)))))))))))⟩
theorem lw_p117 : lw_okq (⟨"SportsHouse$RuleText", "takeRun", "(IIII)V"⟩, 10) := ⟨nmh_5, imq_5, (lt_b2 (dqc_m (dqc_m (dqc_m (dqc_m (dqc_m (dqc_m (dqa_m (dqa_m (List.mem_of_getElem? (i := 7) rfl)))))))))), (lt_b2 (dqc_m (dqc_m (dqc_m (dqc_m (dqc_m (dqc_m (dqa_m (dqa_m (dqa_m (List.mem_of_getElem? (i := 0) rfl)))))))))))⟩
theorem lw_p118 : lw_okq (⟨"SportsHouse$RuleText", "wordOf", "(Ljava/lang/String;)I"⟩, 10) := ⟨nmh_5, imq_5, (lt_b2 (dqc_m (dqc_m (dqc_m (dqc_m (dqc_m (dqc_m (dqc_m (List.mem_of_getElem? (i := 0) rfl))))))))), (lt_b2 (dqc_m (dqc_m (dqc_m (dqc_m (dqc_m (dqc_m (dqc_m (List.mem_of_getElem? (i := 1) rfl)))))))))⟩
theorem lw_p119 : lw_okq (⟨"SportsHouse$Season", "addFixture", "(LSportsHouse$Competition;IIII)V"⟩, 16) := ⟨nmh_6, imq_6, (lt_b3 (dqc_m (dqc_m (dqc_m (dqc_m (dqc_m (dqc_m (dqa_m (dqa_m (dqa_m (List.mem_of_getElem? (i := 2) rfl))))))))))), (lt_b3 (dqc_m (dqc_m (dqc_m (dqc_m (dqc_m (dqc_m (dqa_m (dqa_m (dqa_m (List.mem_of_getElem? (i := 3) rfl)))))))))))⟩
theorem lw_p120 : lw_okq (⟨"SportsHouse$Season", "addRound", "(LSportsHouse$Competition;IIZI)V"⟩, 16) := ⟨nmh_6, imq_6, (lt_b3 (dqc_m (dqc_m (dqc_m (dqc_m (dqc_m (dqc_m (dqa_m (dqa_m (List.mem_of_getElem? (i := 6) rfl)))))))))), (lt_b3 (dqc_m (dqc_m (dqc_m (dqc_m (dqc_m (dqc_m (dqa_m (dqa_m (List.mem_of_getElem? (i := 7) rfl))))))))))⟩
theorem lw_p121 : lw_okq (⟨"SportsHouse$Season", "blockDays", "(LSportsHouse$Match;)V"⟩, 16) := ⟨nmh_6, imq_6, (lt_b4 (dqc_m (dqc_m (dqc_m (dqa_m (dqa_m (List.mem_of_getElem? (i := 0) rfl))))))), (lt_b4 (dqc_m (dqc_m (dqc_m (dqa_m (dqa_m (List.mem_of_getElem? (i := 1) rfl)))))))⟩
theorem lw_p122 : lw_okq (⟨"SportsHouse$Season", "goBehind", "(LSportsHouse$Match;II)Z"⟩, 16) := ⟨nmh_6, imq_6, (lt_b4 (dqc_m (dqc_m (dqc_m (dqa_m (List.mem_of_getElem? (i := 4) rfl)))))), (lt_b4 (dqc_m (dqc_m (dqc_m (dqa_m (List.mem_of_getElem? (i := 5) rfl))))))⟩
theorem lw_p123 : lw_okq (⟨"SportsHouse$Season", "isBanned", "(ILSportsHouse$Match;)Z"⟩, 16) := ⟨nmh_6, imq_6, (lt_b4 (dqc_m (dqc_m (dqc_m (dqc_m (dqa_m (dqa_m (List.mem_of_getElem? (i := 3) rfl)))))))), (lt_b4 (dqc_m (dqc_m (dqc_m (dqc_m (dqa_m (dqa_m (List.mem_of_getElem? (i := 4) rfl))))))))⟩
theorem lw_p124 : lw_okq (⟨"SportsHouse$Season", "listAgainst", "(LSportsHouse$Match;)I"⟩, 16) := ⟨nmh_6, imq_6, (lt_b4 (dqc_m (dqc_m (dqa_m (dqa_m (List.mem_of_getElem? (i := 6) rfl)))))), (lt_b4 (dqc_m (dqc_m (dqa_m (dqa_m (List.mem_of_getElem? (i := 7) rfl))))))⟩
theorem lw_p125 : lw_okq (⟨"SportsHouse$Season", "listAhead", "(ILSportsHouse$Match;)I"⟩, 16) := ⟨nmh_6, imq_6, (lt_b4 (dqc_m (dqc_m (dqc_m (dqc_m (dqa_m (dqa_m (List.mem_of_getElem? (i := 7) rfl)))))))), (lt_b4 (dqc_m (dqc_m (dqc_m (dqc_m (dqa_m (dqa_m (dqa_m (List.mem_of_getElem? (i := 0) rfl)))))))))⟩
theorem lw_p126 : lw_okq (⟨"SportsHouse$Season", "standAgainst", "(LSportsHouse$Match;LSportsHouse$Match;)Z"⟩, 16) := ⟨nmh_6, imq_6, (lt_b4 (dqc_m (dqc_m (dqa_m (dqa_m (dqa_m (List.mem_of_getElem? (i := 2) rfl))))))), (lt_b4 (dqc_m (dqc_m (dqa_m (dqa_m (dqa_m (List.mem_of_getElem? (i := 3) rfl)))))))⟩
theorem lw_p127 : lw_okq (⟨"SportsHouse$Standings", "addCards", "(LSportsHouse$Match;)V"⟩, 14) := ⟨nmh_7, imq_7, (lt_b5 (dqc_m (dqc_m (dqc_m (dqc_m (dqc_m (dqc_m (dqa_m (dqa_m (dqa_m (List.mem_of_getElem? (i := 0) rfl))))))))))), (lt_b5 (dqc_m (dqc_m (dqc_m (dqc_m (dqc_m (dqc_m (dqa_m (dqa_m (dqa_m (List.mem_of_getElem? (i := 1) rfl)))))))))))⟩
theorem lw_p128 : lw_okq (⟨"SportsHouse$Standings", "addSide", "(IIII)V"⟩, 14) := ⟨nmh_7, imq_7, (lt_b5 (dqc_m (dqc_m (dqc_m (dqc_m (dqc_m (dqc_m (dqa_m (dqa_m (List.mem_of_getElem? (i := 4) rfl)))))))))), (lt_b5 (dqc_m (dqc_m (dqc_m (dqc_m (dqc_m (dqc_m (dqa_m (dqa_m (List.mem_of_getElem? (i := 5) rfl))))))))))⟩
theorem lw_p129 : lw_okq (⟨"SportsHouse$Standings", "headWorth", "(II)J"⟩, 14) := ⟨nmh_7, imq_7, (lt_b6 (List.mem_of_getElem? (i := 5) rfl)), (lt_b6 (List.mem_of_getElem? (i := 6) rfl))⟩
theorem lw_p130 : lw_okq (⟨"SportsHouse$Standings", "lot", "(II)I"⟩, 14) := ⟨nmh_7, imq_7, (lt_b6 (dqa_m (List.mem_of_getElem? (i := 2) rfl))), (lt_b6 (dqa_m (List.mem_of_getElem? (i := 3) rfl)))⟩
theorem lw_p131 : lw_okq (⟨"SportsHouse$Standings", "orderGroup", "(III)V"⟩, 14) := ⟨nmh_7, imq_7, (lt_b5 (dqc_m (dqc_m (dqc_m (dqc_m (dqc_m (dqc_m (dqc_m (dqa_m (List.mem_of_getElem? (i := 1) rfl)))))))))), (lt_b5 (dqc_m (dqc_m (dqc_m (dqc_m (dqc_m (dqc_m (dqc_m (dqa_m (List.mem_of_getElem? (i := 2) rfl))))))))))⟩
theorem lw_p132 : lw_okq (⟨"SportsHouse$Standings", "putWaiting", "(III)V"⟩, 14) := ⟨nmh_7, imq_7, (lt_b5 (dqc_m (dqc_m (dqc_m (dqc_m (dqc_m (dqc_m (dqc_m (List.mem_of_getElem? (i := 5) rfl))))))))), (lt_b5 (dqc_m (dqc_m (dqc_m (dqc_m (dqc_m (dqc_m (dqc_m (List.mem_of_getElem? (i := 6) rfl)))))))))⟩
theorem lw_p133 : lw_okq (⟨"SportsHouse$Standings", "sort", "(II)V"⟩, 14) := ⟨nmh_7, imq_7, (lt_b6 (dqa_m (dqa_m (List.mem_of_getElem? (i := 1) rfl)))), (lt_b6 (dqa_m (dqa_m (List.mem_of_getElem? (i := 2) rfl))))⟩
theorem lw_p134 : lw_okq (⟨"SportsHouse$Standings", "weigh", "(III)V"⟩, 14) := ⟨nmh_7, imq_7, (lt_b5 (dqc_m (dqc_m (dqc_m (dqc_m (dqc_m (dqc_m (dqc_m (dqa_m (List.mem_of_getElem? (i := 5) rfl)))))))))), (lt_b5 (dqc_m (dqc_m (dqc_m (dqc_m (dqc_m (dqc_m (dqc_m (dqa_m (List.mem_of_getElem? (i := 6) rfl))))))))))⟩
theorem lw_p135 : lw_okq (⟨"SportsHouse$Standings", "worthOf", "(III)J"⟩, 14) := ⟨nmh_7, imq_7, (lt_b6 (List.mem_of_getElem? (i := 1) rfl)), (lt_b6 (List.mem_of_getElem? (i := 2) rfl))⟩
theorem lw_p136 : lw_okq (⟨"SportsHouse$Title", "awaySeatOf", "(I)I"⟩, 16) := ⟨nmh_8, imq_8, (lt_b6 (dqc_m (dqc_m (List.mem_of_getElem? (i := 4) rfl)))), (lt_b6 (dqc_m (dqc_m (List.mem_of_getElem? (i := 5) rfl))))⟩
theorem lw_p137 : lw_okq (⟨"SportsHouse$Title", "homeSeatOf", "(I)I"⟩, 16) := ⟨nmh_8, imq_8, (lt_b6 (dqc_m (dqa_m (dqa_m (dqa_m (List.mem_of_getElem? (i := 0) rfl)))))), (lt_b6 (dqc_m (dqa_m (dqa_m (dqa_m (List.mem_of_getElem? (i := 1) rfl))))))⟩
theorem lw_p138 : lw_okq (⟨"SportsHouse$Title", "isFirstBy", "(III)Z"⟩, 16) := ⟨nmh_8, imq_8, (lt_b6 (dqc_m (dqc_m (dqc_m (dqa_m (dqa_m (List.mem_of_getElem? (i := 4) rfl))))))), (lt_b6 (dqc_m (dqc_m (dqc_m (dqa_m (dqa_m (List.mem_of_getElem? (i := 5) rfl)))))))⟩
theorem lw_p139 : lw_okq (⟨"SportsHouse$Title", "leastCut", "(I)I"⟩, 16) := ⟨nmh_8, imq_8, (lt_b6 (dqc_m (dqc_m (dqa_m (dqa_m (List.mem_of_getElem? (i := 0) rfl)))))), (lt_b6 (dqc_m (dqc_m (dqa_m (dqa_m (List.mem_of_getElem? (i := 1) rfl))))))⟩
theorem lw_p140 : lw_okq (⟨"SportsHouse$Title", "listOpen", "(II)Z"⟩, 16) := ⟨nmh_8, imq_8, (lt_b6 (dqc_m (List.mem_of_getElem? (i := 5) rfl))), (lt_b6 (dqc_m (List.mem_of_getElem? (i := 6) rfl)))⟩
theorem lw_p141 : lw_okq (⟨"SportsHouse$Title", "noneAbove", "(I)Z"⟩, 16) := ⟨nmh_8, imq_8, (lt_b6 (dqc_m (dqc_m (dqa_m (dqa_m (dqa_m (List.mem_of_getElem? (i := 4) rfl))))))), (lt_b6 (dqc_m (dqc_m (dqa_m (dqa_m (dqa_m (List.mem_of_getElem? (i := 5) rfl)))))))⟩
theorem lw_p142 : lw_okq (⟨"SportsHouse$Title", "openBetween", "(II)I"⟩, 16) := ⟨nmh_8, imq_8, (lt_b6 (dqc_m (dqc_m (dqa_m (dqa_m (dqa_m (List.mem_of_getElem? (i := 0) rfl))))))), (lt_b6 (dqc_m (dqc_m (dqa_m (dqa_m (dqa_m (List.mem_of_getElem? (i := 1) rfl)))))))⟩
theorem lw_p143 : lw_okq (⟨"SportsHouse$Title", "relieve", "(II)Z"⟩, 16) := ⟨nmh_8, imq_8, (lt_b6 (dqc_m (dqa_m (dqa_m (dqa_m (List.mem_of_getElem? (i := 4) rfl)))))), (lt_b6 (dqc_m (dqa_m (dqa_m (dqa_m (List.mem_of_getElem? (i := 5) rfl))))))⟩
theorem lw_p144 : lw_okq (⟨"SportsHouse$Title", "search", "(I)Z"⟩, 16) := ⟨nmh_8, imq_8, (lt_b6 (dqc_m (dqc_m (dqc_m (List.mem_of_getElem? (i := 0) rfl))))), (lt_b6 (dqc_m (dqc_m (dqc_m (List.mem_of_getElem? (i := 1) rfl)))))⟩
theorem lw_p145 : lw_okq (⟨"SportsHouse$Title", "setCaps", "(I)V"⟩, 16) := ⟨nmh_8, imq_8, (lt_b6 (dqc_m (dqa_m (dqa_m (List.mem_of_getElem? (i := 0) rfl))))), (lt_b6 (dqc_m (dqa_m (dqa_m (List.mem_of_getElem? (i := 1) rfl)))))⟩
theorem lw_p146 : lw_okq (⟨"SportsHouse$Title", "shiftAlong", "(II)V"⟩, 16) := ⟨nmh_8, imq_8, (lt_b6 (dqc_m (dqc_m (List.mem_of_getElem? (i := 0) rfl)))), (lt_b6 (dqc_m (dqc_m (List.mem_of_getElem? (i := 1) rfl))))⟩
theorem lw_p147 : lw_okq (⟨"SportsHouse$Title", "spreadParts", "(I)Z"⟩, 16) := ⟨nmh_8, imq_8, (lt_b6 (dqc_m (dqa_m (dqa_m (List.mem_of_getElem? (i := 4) rfl))))), (lt_b6 (dqc_m (dqa_m (dqa_m (List.mem_of_getElem? (i := 5) rfl)))))⟩
theorem lw_p148 : lw_okq (⟨"SportsHouse$Title", "takePartHome", "(I)Z"⟩, 16) := ⟨nmh_8, imq_8, (lt_b6 (dqc_m (dqc_m (dqa_m (List.mem_of_getElem? (i := 4) rfl))))), (lt_b6 (dqc_m (dqc_m (dqa_m (List.mem_of_getElem? (i := 5) rfl)))))⟩
theorem lw_p149 : lw_okq (⟨"SportsHouse$Title", "takePoints", "(I)V"⟩, 16) := ⟨nmh_8, imq_8, (lt_b6 (dqc_m (dqa_m (List.mem_of_getElem? (i := 3) rfl)))), (lt_b6 (dqc_m (dqa_m (List.mem_of_getElem? (i := 4) rfl))))⟩
theorem lw_p150 : lw_okq (⟨"SportsHouse$Title", "takerOf", "(II)I"⟩, 16) := ⟨nmh_8, imq_8, (lt_b6 (dqc_m (dqc_m (dqa_m (List.mem_of_getElem? (i := 0) rfl))))), (lt_b6 (dqc_m (dqc_m (dqa_m (List.mem_of_getElem? (i := 1) rfl)))))⟩
def lw_privs : List (MethodName × Nat) := [(⟨"SportsHouse", "isClub", "(I)Z"⟩, 7), (⟨"SportsHouse", "isCompetition", "(I)Z"⟩, 7), (⟨"SportsHouse", "isMatch", "(I)Z"⟩, 7), (⟨"SportsHouse", "isPerson", "(I)Z"⟩, 7), (⟨"SportsHouseModel", "addMatch", "(IIIII)V"⟩, 114), (⟨"SportsHouseModel", "addScore", "(III)V"⟩, 114), (⟨"SportsHouseModel", "advance", "(IIII)V"⟩, 114), (⟨"SportsHouseModel", "bad", "(II)V"⟩, 114), (⟨"SportsHouseModel", "canEven", "(III)I"⟩, 114), (⟨"SportsHouseModel", "canTry", "(II)I"⟩, 114), (⟨"SportsHouseModel", "chanceOf", "(II)I"⟩, 114), (⟨"SportsHouseModel", "clubOf", "(II)I"⟩, 114), (⟨"SportsHouseModel", "compareClubs", "(II)I"⟩, 114), (⟨"SportsHouseModel", "countLeft", "(I)V"⟩, 114), (⟨"SportsHouseModel", "countWays", "(II)I"⟩, 114), (⟨"SportsHouseModel", "counts", "(II)Z"⟩, 114), (⟨"SportsHouseModel", "distanceOf", "(II)I"⟩, 114), (⟨"SportsHouseModel", "fairOf", "(I)I"⟩, 114), (⟨"SportsHouseModel", "findPaths", "(II)V"⟩, 114), (⟨"SportsHouseModel", "hasEntered", "(II)Z"⟩, 114), (⟨"SportsHouseModel", "hit", "(III)V"⟩, 114), (⟨"SportsHouseModel", "isAhead", "(II)Z"⟩, 114), (⟨"SportsHouseModel", "isBanned", "(II)Z"⟩, 114), (⟨"SportsHouseModel", "isElsewhere", "(II)Z"⟩, 114), (⟨"SportsHouseModel", "isInDraw", "(I)Z"⟩, 114), (⟨"SportsHouseModel", "isKind", "(II)Z"⟩, 114), (⟨"SportsHouseModel", "isLeft", "(I)Z"⟩, 114), (⟨"SportsHouseModel", "isRowWell", "(III)Z"⟩, 114), (⟨"SportsHouseModel", "isTold", "(III)Z"⟩, 114), (⟨"SportsHouseModel", "lawOf", "(IIIII)I"⟩, 114), (⟨"SportsHouseModel", "lay", "(III)V"⟩, 114), (⟨"SportsHouseModel", "layBeginning", "(I)V"⟩, 114), (⟨"SportsHouseModel", "layBetween", "(II)V"⟩, 114), (⟨"SportsHouseModel", "layDefaults", "()V"⟩, 114), (⟨"SportsHouseModel", "laySlack", "(I)I"⟩, 114), (⟨"SportsHouseModel", "liveOf", "(II)I"⟩, 114), (⟨"SportsHouseModel", "matchRest", "(II)V"⟩, 114), (⟨"SportsHouseModel", "mayLead", "(II)Z"⟩, 114), (⟨"SportsHouseModel", "mayStand", "(II)Z"⟩, 114), (⟨"SportsHouseModel", "nextMatch", "(III)I"⟩, 114), (⟨"SportsHouseModel", "nothingAgainst", "(I)Z"⟩, 114), (⟨"SportsHouseModel", "orderAll", "(II)V"⟩, 114), (⟨"SportsHouseModel", "orderPart", "(IIIII)V"⟩, 114), (⟨"SportsHouseModel", "othersOf", "(II)I"⟩, 114), (⟨"SportsHouseModel", "out", "(I)V"⟩, 114), (⟨"SportsHouseModel", "placeOf", "(I)I"⟩, 114), (⟨"SportsHouseModel", "play", "(IIIII)V"⟩, 114), (⟨"SportsHouseModel", "playAnew", "(I)I"⟩, 114), (⟨"SportsHouseModel", "playBaseball", "(IIII)V"⟩, 114), (⟨"SportsHouseModel", "playFootball", "(IIIII)V"⟩, 114), (⟨"SportsHouseModel", "playTennis", "(III)V"⟩, 114), (⟨"SportsHouseModel", "playVolleyball", "(IIIII)V"⟩, 114), (⟨"SportsHouseModel", "putBehind", "(IIZ)V"⟩, 114), (⟨"SportsHouseModel", "reach", "(III)Z"⟩, 114), (⟨"SportsHouseModel", "readOrder", "()V"⟩, 114), (⟨"SportsHouseModel", "readSport", "()V"⟩, 114), (⟨"SportsHouseModel", "readStatement", "()V"⟩, 114), (⟨"SportsHouseModel", "rotate", "(I)V"⟩, 114), (⟨"SportsHouseModel", "rowAt", "(II)I"⟩, 114), (⟨"SportsHouseModel", "rule0", "(II)I"⟩, 114), (⟨"SportsHouseModel", "say", "(III)V"⟩, 114), (⟨"SportsHouseModel", "sayHead", "(II)V"⟩, 114), (⟨"SportsHouseModel", "scoreOf", "(II)I"⟩, 114), (⟨"SportsHouseModel", "sendOff", "(III)V"⟩, 114), (⟨"SportsHouseModel", "setLive", "(III)V"⟩, 114), (⟨"SportsHouseModel", "settle", "(IIIZ)I"⟩, 114), (⟨"SportsHouseModel", "shareClub", "(II)Z"⟩, 114), (⟨"SportsHouseModel", "slotOf", "(II)I"⟩, 114), (⟨"SportsHouseModel", "sortPart", "(II)V"⟩, 114), (⟨"SportsHouseModel", "standAgainst", "(II)Z"⟩, 114), (⟨"SportsHouseModel", "stands", "(IIII)Z"⟩, 114), (⟨"SportsHouseModel", "substitute", "(IIII)V"⟩, 114), (⟨"SportsHouseModel", "take", "()V"⟩, 114), (⟨"SportsHouseModel", "takenBelow", "(I)I"⟩, 114), (⟨"SportsHouseModel", "tellAll", "(II)V"⟩, 114), (⟨"SportsHouseModel", "tellResult", "(IIII)V"⟩, 114), (⟨"SportsHouseModel", "turnSides", "(I)V"⟩, 114), (⟨"SportsHouseModel", "walk", "(II)V"⟩, 114), (⟨"SportsHouseModel", "wantNumber", "(III)V"⟩, 114), (⟨"SportsHouseModel", "whichOf", "([I)I"⟩, 114), (⟨"SportsHouseModel", "whyNot", "(III)I"⟩, 114), (⟨"SportsHouse$Lots", "countFrom", "(I)I"⟩, 16), (⟨"SportsHouse$Lots", "takeBelow", "(I)I"⟩, 16), (⟨"SportsHouse$Play", "benchPlace", "(II)I"⟩, 18), (⟨"SportsHouse$Play", "closeGap", "(II)V"⟩, 18), (⟨"SportsHouse$Play", "countOut", "()V"⟩, 18), (⟨"SportsHouse$Play", "endHalf", "()V"⟩, 18), (⟨"SportsHouse$Play", "fieldPlace", "(II)I"⟩, 18), (⟨"SportsHouse$Play", "goOnBase", "(II)V"⟩, 18), (⟨"SportsHouse$Play", "hit", "(II)V"⟩, 18), (⟨"SportsHouse$Play", "isAllowed", "(II)Z"⟩, 18), (⟨"SportsHouse$Play", "isLastInning", "()Z"⟩, 18), (⟨"SportsHouse$Play", "needsPerson", "(I)Z"⟩, 18), (⟨"SportsHouse$Play", "playBaseball", "(III)V"⟩, 18), (⟨"SportsHouse$Play", "playFootball", "(III)V"⟩, 18), (⟨"SportsHouse$Play", "playTennis", "(II)V"⟩, 18), (⟨"SportsHouse$Play", "playVolleyball", "(I)V"⟩, 18), (⟨"SportsHouse$Play", "putAside", "(IIII)V"⟩, 18), (⟨"SportsHouse$Play", "rotate", "(I)V"⟩, 18), (⟨"SportsHouse$Play", "sendOff", "(II)V"⟩, 18), (⟨"SportsHouse$Play", "showYellow", "(II)V"⟩, 18), (⟨"SportsHouse$Play", "substitute", "(III)V"⟩, 18), (⟨"SportsHouse$Play", "walk", "(I)V"⟩, 18), (⟨"SportsHouse$Referees", "firstBest", "(LSportsHouse$Match;III)I"⟩, 5), (⟨"SportsHouse$Referees", "gainOf", "(LSportsHouse$Match;II)I"⟩, 5), (⟨"SportsHouse$Referees", "listMatches", "(I)V"⟩, 5), (⟨"SportsHouse$Referees", "weigh", "(LSportsHouse$Match;III)I"⟩, 5), (⟨"SportsHouse$Referees", "weighAll", "(I)V"⟩, 5), (⟨"SportsHouse$RuleText", "fail", "(I)Z"⟩, 10), (⟨"SportsHouse$RuleText", "isBetween", "(III)Z"⟩, 10), (⟨"SportsHouse$RuleText", "isOfKind", "(I)Z"⟩, 10), (⟨"SportsHouse$RuleText", "nextToken", "()V"⟩, 10), (⟨"SportsHouse$RuleText", "readOrder", "()Z"⟩, 10), (⟨"SportsHouse$RuleText", "readPoints", "()Z"⟩, 10), (⟨"SportsHouse$RuleText", "readRule", "(II)Z"⟩, 10), (⟨"SportsHouse$RuleText", "readSport", "()Z"⟩, 10), (⟨"SportsHouse$RuleText", "readStatement", "()Z"⟩, 10), (⟨"SportsHouse$RuleText", "takeRun", "(IIII)V"⟩, 10), (⟨"SportsHouse$RuleText", "wordOf", "(Ljava/lang/String;)I"⟩, 10), (⟨"SportsHouse$Season", "addFixture", "(LSportsHouse$Competition;IIII)V"⟩, 16), (⟨"SportsHouse$Season", "addRound", "(LSportsHouse$Competition;IIZI)V"⟩, 16), (⟨"SportsHouse$Season", "blockDays", "(LSportsHouse$Match;)V"⟩, 16), (⟨"SportsHouse$Season", "goBehind", "(LSportsHouse$Match;II)Z"⟩, 16), (⟨"SportsHouse$Season", "isBanned", "(ILSportsHouse$Match;)Z"⟩, 16), (⟨"SportsHouse$Season", "listAgainst", "(LSportsHouse$Match;)I"⟩, 16), (⟨"SportsHouse$Season", "listAhead", "(ILSportsHouse$Match;)I"⟩, 16), (⟨"SportsHouse$Season", "standAgainst", "(LSportsHouse$Match;LSportsHouse$Match;)Z"⟩, 16), (⟨"SportsHouse$Standings", "addCards", "(LSportsHouse$Match;)V"⟩, 14), (⟨"SportsHouse$Standings", "addSide", "(IIII)V"⟩, 14), (⟨"SportsHouse$Standings", "headWorth", "(II)J"⟩, 14), (⟨"SportsHouse$Standings", "lot", "(II)I"⟩, 14), (⟨"SportsHouse$Standings", "orderGroup", "(III)V"⟩, 14), (⟨"SportsHouse$Standings", "putWaiting", "(III)V"⟩, 14), (⟨"SportsHouse$Standings", "sort", "(II)V"⟩, 14), (⟨"SportsHouse$Standings", "weigh", "(III)V"⟩, 14), (⟨"SportsHouse$Standings", "worthOf", "(III)J"⟩, 14), (⟨"SportsHouse$Title", "awaySeatOf", "(I)I"⟩, 16), (⟨"SportsHouse$Title", "homeSeatOf", "(I)I"⟩, 16), (⟨"SportsHouse$Title", "isFirstBy", "(III)Z"⟩, 16), (⟨"SportsHouse$Title", "leastCut", "(I)I"⟩, 16), (⟨"SportsHouse$Title", "listOpen", "(II)Z"⟩, 16), (⟨"SportsHouse$Title", "noneAbove", "(I)Z"⟩, 16), (⟨"SportsHouse$Title", "openBetween", "(II)I"⟩, 16), (⟨"SportsHouse$Title", "relieve", "(II)Z"⟩, 16), (⟨"SportsHouse$Title", "search", "(I)Z"⟩, 16), (⟨"SportsHouse$Title", "setCaps", "(I)V"⟩, 16), (⟨"SportsHouse$Title", "shiftAlong", "(II)V"⟩, 16), (⟨"SportsHouse$Title", "spreadParts", "(I)Z"⟩, 16), (⟨"SportsHouse$Title", "takePartHome", "(I)Z"⟩, 16), (⟨"SportsHouse$Title", "takePoints", "(I)V"⟩, 16), (⟨"SportsHouse$Title", "takerOf", "(II)I"⟩, 16)]
def lw_tbl : List Cond := k2_sels lw_privs ++ tables_1
theorem lw_privs_ok : ∀ q ∈ lw_privs, lw_okq q := List.forall_mem_cons.mpr ⟨lw_p0, List.forall_mem_cons.mpr ⟨lw_p1, List.forall_mem_cons.mpr ⟨lw_p2, List.forall_mem_cons.mpr ⟨lw_p3, List.forall_mem_cons.mpr ⟨lw_p4, List.forall_mem_cons.mpr ⟨lw_p5, List.forall_mem_cons.mpr ⟨lw_p6, List.forall_mem_cons.mpr ⟨lw_p7, List.forall_mem_cons.mpr ⟨lw_p8, List.forall_mem_cons.mpr ⟨lw_p9, List.forall_mem_cons.mpr ⟨lw_p10, List.forall_mem_cons.mpr ⟨lw_p11, List.forall_mem_cons.mpr ⟨lw_p12, List.forall_mem_cons.mpr ⟨lw_p13, List.forall_mem_cons.mpr ⟨lw_p14, List.forall_mem_cons.mpr ⟨lw_p15, List.forall_mem_cons.mpr ⟨lw_p16, List.forall_mem_cons.mpr ⟨lw_p17, List.forall_mem_cons.mpr ⟨lw_p18, List.forall_mem_cons.mpr ⟨lw_p19, List.forall_mem_cons.mpr ⟨lw_p20, List.forall_mem_cons.mpr ⟨lw_p21, List.forall_mem_cons.mpr ⟨lw_p22, List.forall_mem_cons.mpr ⟨lw_p23, List.forall_mem_cons.mpr ⟨lw_p24, List.forall_mem_cons.mpr ⟨lw_p25, List.forall_mem_cons.mpr ⟨lw_p26, List.forall_mem_cons.mpr ⟨lw_p27, List.forall_mem_cons.mpr ⟨lw_p28, List.forall_mem_cons.mpr ⟨lw_p29, List.forall_mem_cons.mpr ⟨lw_p30, List.forall_mem_cons.mpr ⟨lw_p31, List.forall_mem_cons.mpr ⟨lw_p32, List.forall_mem_cons.mpr ⟨lw_p33, List.forall_mem_cons.mpr ⟨lw_p34, List.forall_mem_cons.mpr ⟨lw_p35, List.forall_mem_cons.mpr ⟨lw_p36, List.forall_mem_cons.mpr ⟨lw_p37, List.forall_mem_cons.mpr ⟨lw_p38, List.forall_mem_cons.mpr ⟨lw_p39, List.forall_mem_cons.mpr ⟨lw_p40, List.forall_mem_cons.mpr ⟨lw_p41, List.forall_mem_cons.mpr ⟨lw_p42, List.forall_mem_cons.mpr ⟨lw_p43, List.forall_mem_cons.mpr ⟨lw_p44, List.forall_mem_cons.mpr ⟨lw_p45, List.forall_mem_cons.mpr ⟨lw_p46, List.forall_mem_cons.mpr ⟨lw_p47, List.forall_mem_cons.mpr ⟨lw_p48, List.forall_mem_cons.mpr ⟨lw_p49, List.forall_mem_cons.mpr ⟨lw_p50, List.forall_mem_cons.mpr ⟨lw_p51, List.forall_mem_cons.mpr ⟨lw_p52, List.forall_mem_cons.mpr ⟨lw_p53, List.forall_mem_cons.mpr ⟨lw_p54, List.forall_mem_cons.mpr ⟨lw_p55, List.forall_mem_cons.mpr ⟨lw_p56, List.forall_mem_cons.mpr ⟨lw_p57, List.forall_mem_cons.mpr ⟨lw_p58, List.forall_mem_cons.mpr ⟨lw_p59, List.forall_mem_cons.mpr ⟨lw_p60, List.forall_mem_cons.mpr ⟨lw_p61, List.forall_mem_cons.mpr ⟨lw_p62, List.forall_mem_cons.mpr ⟨lw_p63, List.forall_mem_cons.mpr ⟨lw_p64, List.forall_mem_cons.mpr ⟨lw_p65, List.forall_mem_cons.mpr ⟨lw_p66, List.forall_mem_cons.mpr ⟨lw_p67, List.forall_mem_cons.mpr ⟨lw_p68, List.forall_mem_cons.mpr ⟨lw_p69, List.forall_mem_cons.mpr ⟨lw_p70, List.forall_mem_cons.mpr ⟨lw_p71, List.forall_mem_cons.mpr ⟨lw_p72, List.forall_mem_cons.mpr ⟨lw_p73, List.forall_mem_cons.mpr ⟨lw_p74, List.forall_mem_cons.mpr ⟨lw_p75, List.forall_mem_cons.mpr ⟨lw_p76, List.forall_mem_cons.mpr ⟨lw_p77, List.forall_mem_cons.mpr ⟨lw_p78, List.forall_mem_cons.mpr ⟨lw_p79, List.forall_mem_cons.mpr ⟨lw_p80, List.forall_mem_cons.mpr ⟨lw_p81, List.forall_mem_cons.mpr ⟨lw_p82, List.forall_mem_cons.mpr ⟨lw_p83, List.forall_mem_cons.mpr ⟨lw_p84, List.forall_mem_cons.mpr ⟨lw_p85, List.forall_mem_cons.mpr ⟨lw_p86, List.forall_mem_cons.mpr ⟨lw_p87, List.forall_mem_cons.mpr ⟨lw_p88, List.forall_mem_cons.mpr ⟨lw_p89, List.forall_mem_cons.mpr ⟨lw_p90, List.forall_mem_cons.mpr ⟨lw_p91, List.forall_mem_cons.mpr ⟨lw_p92, List.forall_mem_cons.mpr ⟨lw_p93, List.forall_mem_cons.mpr ⟨lw_p94, List.forall_mem_cons.mpr ⟨lw_p95, List.forall_mem_cons.mpr ⟨lw_p96, List.forall_mem_cons.mpr ⟨lw_p97, List.forall_mem_cons.mpr ⟨lw_p98, List.forall_mem_cons.mpr ⟨lw_p99, List.forall_mem_cons.mpr ⟨lw_p100, List.forall_mem_cons.mpr ⟨lw_p101, List.forall_mem_cons.mpr ⟨lw_p102, List.forall_mem_cons.mpr ⟨lw_p103, List.forall_mem_cons.mpr ⟨lw_p104, List.forall_mem_cons.mpr ⟨lw_p105, List.forall_mem_cons.mpr ⟨lw_p106, List.forall_mem_cons.mpr ⟨lw_p107, List.forall_mem_cons.mpr ⟨lw_p108, List.forall_mem_cons.mpr ⟨lw_p109, List.forall_mem_cons.mpr ⟨lw_p110, List.forall_mem_cons.mpr ⟨lw_p111, List.forall_mem_cons.mpr ⟨lw_p112, List.forall_mem_cons.mpr ⟨lw_p113, List.forall_mem_cons.mpr ⟨lw_p114, List.forall_mem_cons.mpr ⟨lw_p115, List.forall_mem_cons.mpr ⟨lw_p116, List.forall_mem_cons.mpr ⟨lw_p117, List.forall_mem_cons.mpr ⟨lw_p118, List.forall_mem_cons.mpr ⟨lw_p119, List.forall_mem_cons.mpr ⟨lw_p120, List.forall_mem_cons.mpr ⟨lw_p121, List.forall_mem_cons.mpr ⟨lw_p122, List.forall_mem_cons.mpr ⟨lw_p123, List.forall_mem_cons.mpr ⟨lw_p124, List.forall_mem_cons.mpr ⟨lw_p125, List.forall_mem_cons.mpr ⟨lw_p126, List.forall_mem_cons.mpr ⟨lw_p127, List.forall_mem_cons.mpr ⟨lw_p128, List.forall_mem_cons.mpr ⟨lw_p129, List.forall_mem_cons.mpr ⟨lw_p130, List.forall_mem_cons.mpr ⟨lw_p131, List.forall_mem_cons.mpr ⟨lw_p132, List.forall_mem_cons.mpr ⟨lw_p133, List.forall_mem_cons.mpr ⟨lw_p134, List.forall_mem_cons.mpr ⟨lw_p135, List.forall_mem_cons.mpr ⟨lw_p136, List.forall_mem_cons.mpr ⟨lw_p137, List.forall_mem_cons.mpr ⟨lw_p138, List.forall_mem_cons.mpr ⟨lw_p139, List.forall_mem_cons.mpr ⟨lw_p140, List.forall_mem_cons.mpr ⟨lw_p141, List.forall_mem_cons.mpr ⟨lw_p142, List.forall_mem_cons.mpr ⟨lw_p143, List.forall_mem_cons.mpr ⟨lw_p144, List.forall_mem_cons.mpr ⟨lw_p145, List.forall_mem_cons.mpr ⟨lw_p146, List.forall_mem_cons.mpr ⟨lw_p147, List.forall_mem_cons.mpr ⟨lw_p148, List.forall_mem_cons.mpr ⟨lw_p149, List.forall_mem_cons.mpr ⟨lw_p150, fun _ h => absurd h List.not_mem_nil⟩⟩⟩⟩⟩⟩⟩⟩⟩⟩⟩⟩⟩⟩⟩⟩⟩⟩⟩⟩⟩⟩⟩⟩⟩⟩⟩⟩⟩⟩⟩⟩⟩⟩⟩⟩⟩⟩⟩⟩⟩⟩⟩⟩⟩⟩⟩⟩⟩⟩⟩⟩⟩⟩⟩⟩⟩⟩⟩⟩⟩⟩⟩⟩⟩⟩⟩⟩⟩⟩⟩⟩⟩⟩⟩⟩⟩⟩⟩⟩⟩⟩⟩⟩⟩⟩⟩⟩⟩⟩⟩⟩⟩⟩⟩⟩⟩⟩⟩⟩⟩⟩⟩⟩⟩⟩⟩⟩⟩⟩⟩⟩⟩⟩⟩⟩⟩⟩⟩⟩⟩⟩⟩⟩⟩⟩⟩⟩⟩⟩⟩⟩⟩⟩⟩⟩⟩⟩⟩⟩⟩⟩⟩⟩⟩⟩⟩⟩⟩⟩⟩
def RX0 : String := "SportsHouse$Competition"
def TX0 : u_T := fun k => match k with
  | 0 => ("SportsHouse$Competition", "number", "I", true)
  | 1 => ("SportsHouse$Competition", "rules", "[I", true)
  | 2 => ("SportsHouse$Competition", "keys", "[I", true)
  | 3 => ("SportsHouse$Competition", "clubs", "[I", true)
  | 4 => ("SportsHouse$Competition", "seat", "[I", true)
  | 5 => ("SportsHouse$Competition", "entered", "I", false)
  | 6 => ("SportsHouse$Competition", "planned", "Z", false)
  | 7 => ("SportsHouse$Competition", "firstMatch", "I", false)
  | _ => ("SportsHouse$Competition", "matchCount", "I", false)
def tyX0 : Nat → FieldType := fun k => match k with
  | 0 => .int
  | 1 => .array .int
  | 2 => .array .int
  | 3 => .array .int
  | 4 => .array .int
  | 5 => .int
  | 6 => .boolean
  | 7 => .int
  | _ => .int
abbrev wsX00 : List Cond := u_ws RX0 TX0 9
theorem nmX0 : ∀ a, a < 9 → ∀ b, b < 9 → a ≠ b → (TX0 a).2.1 ≠ (TX0 b).2.1 := by decide +kernel
theorem tyX0_ok : ∀ k, k < 9 → parseFieldDescriptor (TX0 k).2.2.1 = some (tyX0 k) := by decide +kernel
def RX1 : String := "SportsHouse$Lots"
def TX1 : u_T := fun k => match k with
  | 0 => ("SportsHouse$Lots", "things", "LSportsHouse$Things;", true)
  | 1 => ("SportsHouse$Lots", "groups", "I", false)
  | 2 => ("SportsHouse$Lots", "limit", "I", false)
  | 3 => ("SportsHouse$Lots", "clubCount", "I", false)
  | 4 => ("SportsHouse$Lots", "drawnCount", "I", false)
  | 5 => ("SportsHouse$Lots", "random", "I", false)
  | 6 => ("SportsHouse$Lots", "total", "I", false)
  | 7 => ("SportsHouse$Lots", "fresh", "Z", false)
  | 8 => ("SportsHouse$Lots", "potOf", "[I", true)
  | 9 => ("SportsHouse$Lots", "groupOf", "[I", true)
  | 10 => ("SportsHouse$Lots", "potSize", "[I", true)
  | 11 => ("SportsHouse$Lots", "with", "[I", true)
  | 12 => ("SportsHouse$Lots", "waiting", "[I", true)
  | 13 => ("SportsHouse$Lots", "waitingCount", "I", false)
  | 14 => ("SportsHouse$Lots", "taken", "[I", true)
  | _ => ("SportsHouse$Lots", "countrymen", "[I", true)
def tyX1 : Nat → FieldType := fun k => match k with
  | 0 => .object "SportsHouse$Things"
  | 1 => .int
  | 2 => .int
  | 3 => .int
  | 4 => .int
  | 5 => .int
  | 6 => .int
  | 7 => .boolean
  | 8 => .array .int
  | 9 => .array .int
  | 10 => .array .int
  | 11 => .array .int
  | 12 => .array .int
  | 13 => .int
  | 14 => .array .int
  | _ => .array .int
abbrev wsX10 : List Cond := u_ws RX1 TX1 16
theorem nmX1 : ∀ a, a < 16 → ∀ b, b < 16 → a ≠ b → (TX1 a).2.1 ≠ (TX1 b).2.1 := by decide +kernel
theorem tyX1_ok : ∀ k, k < 16 → parseFieldDescriptor (TX1 k).2.2.1 = some (tyX1 k) := by decide +kernel
def RX2 : String := "SportsHouse$Match"
def TX2 : u_T := fun k => match k with
  | 0 => ("SportsHouse$Match", "contest", "LSportsHouse$Competition;", true)
  | 1 => ("SportsHouse$Match", "number", "I", true)
  | 2 => ("SportsHouse$Match", "round", "I", true)
  | 3 => ("SportsHouse$Match", "home", "I", true)
  | 4 => ("SportsHouse$Match", "away", "I", true)
  | 5 => ("SportsHouse$Match", "date", "I", false)
  | 6 => ("SportsHouse$Match", "absent", "I", false)
  | 7 => ("SportsHouse$Match", "referee", "I", false)
  | 8 => ("SportsHouse$Match", "sheet", "[I", true)
  | 9 => ("SportsHouse$Match", "listed", "[I", true)
  | _ => ("SportsHouse$Match", "play", "LSportsHouse$Play;", false)
def tyX2 : Nat → FieldType := fun k => match k with
  | 0 => .object "SportsHouse$Competition"
  | 1 => .int
  | 2 => .int
  | 3 => .int
  | 4 => .int
  | 5 => .int
  | 6 => .int
  | 7 => .int
  | 8 => .array .int
  | 9 => .array .int
  | _ => .object "SportsHouse$Play"
abbrev wsX20 : List Cond := u_ws RX2 TX2 11
theorem nmX2 : ∀ a, a < 11 → ∀ b, b < 11 → a ≠ b → (TX2 a).2.1 ≠ (TX2 b).2.1 := by decide +kernel
theorem tyX2_ok : ∀ k, k < 11 → parseFieldDescriptor (TX2 k).2.2.1 = some (tyX2 k) := by decide +kernel
def RX3 : String := "SportsHouse$Play"
def TX3 : u_T := fun k => match k with
  | 0 => ("SportsHouse$Play", "rules", "[I", true)
  | 1 => ("SportsHouse$Play", "sheet", "[I", true)
  | 2 => ("SportsHouse$Play", "listed", "[I", true)
  | 3 => ("SportsHouse$Play", "ended", "Z", false)
  | 4 => ("SportsHouse$Play", "phase", "I", false)
  | 5 => ("SportsHouse$Play", "server", "I", false)
  | 6 => ("SportsHouse$Play", "points", "[I", true)
  | 7 => ("SportsHouse$Play", "games", "[I", true)
  | 8 => ("SportsHouse$Play", "score", "[I", true)
  | 9 => ("SportsHouse$Play", "changes", "[I", true)
  | 10 => ("SportsHouse$Play", "fielded", "[I", true)
  | 11 => ("SportsHouse$Play", "field", "[I", true)
  | 12 => ("SportsHouse$Play", "role", "[I", true)
  | 13 => ("SportsHouse$Play", "yellows", "[I", true)
  | 14 => ("SportsHouse$Play", "log", "[I", false)
  | 15 => ("SportsHouse$Play", "logged", "I", false)
  | 16 => ("SportsHouse$Play", "aside", "[I", false)
  | _ => ("SportsHouse$Play", "asides", "I", false)
def tyX3 : Nat → FieldType := fun k => match k with
  | 0 => .array .int
  | 1 => .array .int
  | 2 => .array .int
  | 3 => .boolean
  | 4 => .int
  | 5 => .int
  | 6 => .array .int
  | 7 => .array .int
  | 8 => .array .int
  | 9 => .array .int
  | 10 => .array .int
  | 11 => .array .int
  | 12 => .array .int
  | 13 => .array .int
  | 14 => .array .int
  | 15 => .int
  | 16 => .array .int
  | _ => .int
abbrev wsX30 : List Cond := u_ws RX3 TX3 18
theorem nmX3 : ∀ a, a < 18 → ∀ b, b < 18 → a ≠ b → (TX3 a).2.1 ≠ (TX3 b).2.1 := by decide +kernel
theorem tyX3_ok : ∀ k, k < 18 → parseFieldDescriptor (TX3 k).2.2.1 = some (tyX3 k) := by decide +kernel
def RX4 : String := "SportsHouse$Referees"
def TX4 : u_T := fun k => match k with
  | 0 => ("SportsHouse$Referees", "season", "LSportsHouse$Season;", true)
  | 1 => ("SportsHouse$Referees", "things", "LSportsHouse$Things;", true)
  | 2 => ("SportsHouse$Referees", "toServe", "[I", true)
  | 3 => ("SportsHouse$Referees", "serveCount", "I", false)
  | _ => ("SportsHouse$Referees", "best", "[I", false)
def tyX4 : Nat → FieldType := fun k => match k with
  | 0 => .object "SportsHouse$Season"
  | 1 => .object "SportsHouse$Things"
  | 2 => .array .int
  | 3 => .int
  | _ => .array .int
abbrev wsX40 : List Cond := u_ws RX4 TX4 5
theorem nmX4 : ∀ a, a < 5 → ∀ b, b < 5 → a ≠ b → (TX4 a).2.1 ≠ (TX4 b).2.1 := by decide +kernel
theorem tyX4_ok : ∀ k, k < 5 → parseFieldDescriptor (TX4 k).2.2.1 = some (tyX4 k) := by decide +kernel
def RX5 : String := "SportsHouse$RuleText"
def TX5 : u_T := fun k => match k with
  | 0 => ("SportsHouse$RuleText", "bytes", "[I", true)
  | 1 => ("SportsHouse$RuleText", "length", "I", false)
  | 2 => ("SportsHouse$RuleText", "faultKind", "I", false)
  | 3 => ("SportsHouse$RuleText", "faultAt", "I", false)
  | 4 => ("SportsHouse$RuleText", "values", "[I", true)
  | 5 => ("SportsHouse$RuleText", "keys", "[I", true)
  | 6 => ("SportsHouse$RuleText", "toldBits", "I", false)
  | 7 => ("SportsHouse$RuleText", "tokenKind", "I", false)
  | 8 => ("SportsHouse$RuleText", "tokenStart", "I", false)
  | _ => ("SportsHouse$RuleText", "tokenEnd", "I", false)
def tyX5 : Nat → FieldType := fun k => match k with
  | 0 => .array .int
  | 1 => .int
  | 2 => .int
  | 3 => .int
  | 4 => .array .int
  | 5 => .array .int
  | 6 => .int
  | 7 => .int
  | 8 => .int
  | _ => .int
abbrev wsX50 : List Cond := u_ws RX5 TX5 10
theorem nmX5 : ∀ a, a < 10 → ∀ b, b < 10 → a ≠ b → (TX5 a).2.1 ≠ (TX5 b).2.1 := by decide +kernel
theorem tyX5_ok : ∀ k, k < 10 → parseFieldDescriptor (TX5 k).2.2.1 = some (tyX5 k) := by decide +kernel
def RX6 : String := "SportsHouse$Season"
def TX6 : u_T := fun k => match k with
  | 0 => ("SportsHouse$Season", "things", "LSportsHouse$Things;", true)
  | 1 => ("SportsHouse$Season", "competitions", "[LSportsHouse$Competition;", true)
  | 2 => ("SportsHouse$Season", "competitionCount", "I", false)
  | 3 => ("SportsHouse$Season", "matches", "[LSportsHouse$Match;", true)
  | 4 => ("SportsHouse$Season", "matchCount", "I", false)
  | 5 => ("SportsHouse$Season", "rowCount", "I", false)
  | 6 => ("SportsHouse$Season", "deductions", "I", false)
  | 7 => ("SportsHouse$Season", "deductedIn", "[I", true)
  | 8 => ("SportsHouse$Season", "deductedFrom", "[I", true)
  | 9 => ("SportsHouse$Season", "deductedPoints", "[I", true)
  | 10 => ("SportsHouse$Season", "deductedOn", "[I", true)
  | 11 => ("SportsHouse$Season", "movedMatches", "[I", true)
  | 12 => ("SportsHouse$Season", "movedCount", "I", false)
  | 13 => ("SportsHouse$Season", "listed", "[I", true)
  | 14 => ("SportsHouse$Season", "datesBefore", "[I", true)
  | _ => ("SportsHouse$Season", "blocked", "[I", true)
def tyX6 : Nat → FieldType := fun k => match k with
  | 0 => .object "SportsHouse$Things"
  | 1 => .array (.object "SportsHouse$Competition")
  | 2 => .int
  | 3 => .array (.object "SportsHouse$Match")
  | 4 => .int
  | 5 => .int
  | 6 => .int
  | 7 => .array .int
  | 8 => .array .int
  | 9 => .array .int
  | 10 => .array .int
  | 11 => .array .int
  | 12 => .int
  | 13 => .array .int
  | 14 => .array .int
  | _ => .array .int
abbrev wsX60 : List Cond := u_ws RX6 TX6 16
theorem nmX6 : ∀ a, a < 16 → ∀ b, b < 16 → a ≠ b → (TX6 a).2.1 ≠ (TX6 b).2.1 := by decide +kernel
theorem tyX6_ok : ∀ k, k < 16 → parseFieldDescriptor (TX6 k).2.2.1 = some (tyX6 k) := by decide +kernel
def RX7 : String := "SportsHouse$Standings"
def TX7 : u_T := fun k => match k with
  | 0 => ("SportsHouse$Standings", "season", "LSportsHouse$Season;", true)
  | 1 => ("SportsHouse$Standings", "contest", "LSportsHouse$Competition;", false)
  | 2 => ("SportsHouse$Standings", "lines", "[I", true)
  | 3 => ("SportsHouse$Standings", "away", "[I", true)
  | 4 => ("SportsHouse$Standings", "fair", "[I", true)
  | 5 => ("SportsHouse$Standings", "headPoints", "[I", true)
  | 6 => ("SportsHouse$Standings", "headScored", "[I", true)
  | 7 => ("SportsHouse$Standings", "order", "[I", true)
  | 8 => ("SportsHouse$Standings", "partedBy", "[I", true)
  | 9 => ("SportsHouse$Standings", "worth", "[J", true)
  | 10 => ("SportsHouse$Standings", "waitingFrom", "[I", true)
  | 11 => ("SportsHouse$Standings", "waitingTo", "[I", true)
  | 12 => ("SportsHouse$Standings", "waitingKey", "[I", true)
  | _ => ("SportsHouse$Standings", "waiting", "I", false)
def tyX7 : Nat → FieldType := fun k => match k with
  | 0 => .object "SportsHouse$Season"
  | 1 => .object "SportsHouse$Competition"
  | 2 => .array .int
  | 3 => .array .int
  | 4 => .array .int
  | 5 => .array .int
  | 6 => .array .int
  | 7 => .array .int
  | 8 => .array .int
  | 9 => .array .long
  | 10 => .array .int
  | 11 => .array .int
  | 12 => .array .int
  | _ => .int
abbrev wsX70 : List Cond := u_ws RX7 TX7 14
theorem nmX7 : ∀ a, a < 14 → ∀ b, b < 14 → a ≠ b → (TX7 a).2.1 ≠ (TX7 b).2.1 := by decide +kernel
theorem tyX7_ok : ∀ k, k < 14 → parseFieldDescriptor (TX7 k).2.2.1 = some (tyX7 k) := by decide +kernel
def RX8 : String := "SportsHouse$Things"
def TX8 : u_T := fun k => match k with
  | 0 => ("SportsHouse$Things", "stadium", "[I", true)
  | 1 => ("SportsHouse$Things", "country", "[I", true)
  | 2 => ("SportsHouse$Things", "clubs", "I", false)
  | 3 => ("SportsHouse$Things", "persons", "I", false)
  | 4 => ("SportsHouse$Things", "firstSpan", "[I", true)
  | 5 => ("SportsHouse$Things", "spans", "I", false)
  | 6 => ("SportsHouse$Things", "spanClub", "[I", true)
  | 7 => ("SportsHouse$Things", "spanFrom", "[I", true)
  | 8 => ("SportsHouse$Things", "spanTo", "[I", true)
  | 9 => ("SportsHouse$Things", "nextSpan", "[I", true)
  | 10 => ("SportsHouse$Things", "officialHome", "[I", true)
  | 11 => ("SportsHouse$Things", "officialCountry", "[I", true)
  | 12 => ("SportsHouse$Things", "officials", "I", false)
  | _ => ("SportsHouse$Things", "today", "I", false)
def tyX8 : Nat → FieldType := fun k => match k with
  | 0 => .array .int
  | 1 => .array .int
  | 2 => .int
  | 3 => .int
  | 4 => .array .int
  | 5 => .int
  | 6 => .array .int
  | 7 => .array .int
  | 8 => .array .int
  | 9 => .array .int
  | 10 => .array .int
  | 11 => .array .int
  | 12 => .int
  | _ => .int
abbrev wsX80 : List Cond := u_ws RX8 TX8 14
theorem nmX8 : ∀ a, a < 14 → ∀ b, b < 14 → a ≠ b → (TX8 a).2.1 ≠ (TX8 b).2.1 := by decide +kernel
theorem tyX8_ok : ∀ k, k < 14 → parseFieldDescriptor (TX8 k).2.2.1 = some (tyX8 k) := by decide +kernel
def RX9 : String := "SportsHouse$Title"
def TX9 : u_T := fun k => match k with
  | 0 => ("SportsHouse$Title", "season", "LSportsHouse$Season;", true)
  | 1 => ("SportsHouse$Title", "standings", "LSportsHouse$Standings;", true)
  | 2 => ("SportsHouse$Title", "answer", "I", false)
  | 3 => ("SportsHouse$Title", "cutBits", "I", false)
  | 4 => ("SportsHouse$Title", "results", "[I", true)
  | 5 => ("SportsHouse$Title", "contest", "LSportsHouse$Competition;", false)
  | 6 => ("SportsHouse$Title", "best", "I", false)
  | 7 => ("SportsHouse$Title", "points", "[I", true)
  | 8 => ("SportsHouse$Title", "open", "[I", true)
  | 9 => ("SportsHouse$Title", "openCount", "I", false)
  | 10 => ("SportsHouse$Title", "homeParts", "[I", true)
  | 11 => ("SportsHouse$Title", "cap", "[I", true)
  | 12 => ("SportsHouse$Title", "load", "[I", true)
  | 13 => ("SportsHouse$Title", "via", "[I", true)
  | 14 => ("SportsHouse$Title", "queue", "[I", true)
  | _ => ("SportsHouse$Title", "slack", "[I", false)
def tyX9 : Nat → FieldType := fun k => match k with
  | 0 => .object "SportsHouse$Season"
  | 1 => .object "SportsHouse$Standings"
  | 2 => .int
  | 3 => .int
  | 4 => .array .int
  | 5 => .object "SportsHouse$Competition"
  | 6 => .int
  | 7 => .array .int
  | 8 => .array .int
  | 9 => .int
  | 10 => .array .int
  | 11 => .array .int
  | 12 => .array .int
  | 13 => .array .int
  | 14 => .array .int
  | _ => .array .int
abbrev wsX90 : List Cond := u_ws RX9 TX9 16
theorem nmX9 : ∀ a, a < 16 → ∀ b, b < 16 → a ≠ b → (TX9 a).2.1 ≠ (TX9 b).2.1 := by decide +kernel
theorem tyX9_ok : ∀ k, k < 16 → parseFieldDescriptor (TX9 k).2.2.1 = some (tyX9 k) := by decide +kernel
def RX10 : String := "SportsHouse"
def TX10 : u_T := fun k => match k with
  | 0 => ("SportsHouse", "text", "LSportsHouse$RuleText;", true)
  | 1 => ("SportsHouse", "things", "LSportsHouse$Things;", true)
  | 2 => ("SportsHouse", "season", "LSportsHouse$Season;", true)
  | 3 => ("SportsHouse", "standings", "LSportsHouse$Standings;", true)
  | 4 => ("SportsHouse", "title", "LSportsHouse$Title;", true)
  | 5 => ("SportsHouse", "lots", "LSportsHouse$Lots;", true)
  | _ => ("SportsHouse", "referees", "LSportsHouse$Referees;", true)
def tyX10 : Nat → FieldType := fun k => match k with
  | 0 => .object "SportsHouse$RuleText"
  | 1 => .object "SportsHouse$Things"
  | 2 => .object "SportsHouse$Season"
  | 3 => .object "SportsHouse$Standings"
  | 4 => .object "SportsHouse$Title"
  | 5 => .object "SportsHouse$Lots"
  | _ => .object "SportsHouse$Referees"
abbrev wsX100 : List Cond := u_ws RX10 TX10 7
theorem nmX10 : ∀ a, a < 7 → ∀ b, b < 7 → a ≠ b → (TX10 a).2.1 ≠ (TX10 b).2.1 := by decide +kernel
theorem tyX10_ok : ∀ k, k < 7 → parseFieldDescriptor (TX10 k).2.2.1 = some (tyX10 k) := by decide +kernel
def RX11 : String := "SportsHouseModel"
def LX11 : List (List (String × String × String × Bool)) := [[("SportsHouseModel", "text", "[I", true), ("SportsHouseModel", "length", "I", false), ("SportsHouseModel", "faultAt", "I", false), ("SportsHouseModel", "today", "I", false), ("SportsHouseModel", "fresh", "[I", true), ("SportsHouseModel", "rules", "[I", true), ("SportsHouseModel", "competitions", "I", false), ("SportsHouseModel", "entrants", "[I", true)], [("SportsHouseModel", "entered", "[I", true), ("SportsHouseModel", "planned", "[Z", true), ("SportsHouseModel", "firstOf", "[I", true), ("SportsHouseModel", "manyOf", "[I", true), ("SportsHouseModel", "clubs", "I", false), ("SportsHouseModel", "stadiums", "[I", true), ("SportsHouseModel", "countries", "[I", true), ("SportsHouseModel", "persons", "I", false)], [("SportsHouseModel", "spans", "I", false), ("SportsHouseModel", "spanPerson", "[I", true), ("SportsHouseModel", "spanClub", "[I", true), ("SportsHouseModel", "spanFrom", "[I", true), ("SportsHouseModel", "spanTo", "[I", true), ("SportsHouseModel", "officials", "I", false), ("SportsHouseModel", "homes", "[I", true), ("SportsHouseModel", "officialCountries", "[I", true)], [("SportsHouseModel", "deducted", "I", false), ("SportsHouseModel", "deductComp", "[I", true), ("SportsHouseModel", "deductClub", "[I", true), ("SportsHouseModel", "deductPoints", "[I", true), ("SportsHouseModel", "deductDay", "[I", true), ("SportsHouseModel", "matches", "I", false), ("SportsHouseModel", "mComp", "[I", true), ("SportsHouseModel", "mRound", "[I", true)], [("SportsHouseModel", "mHome", "[I", true), ("SportsHouseModel", "mAway", "[I", true), ("SportsHouseModel", "mDay", "[I", true), ("SportsHouseModel", "mWhat", "[I", true), ("SportsHouseModel", "mScore0", "[I", true), ("SportsHouseModel", "mScore1", "[I", true), ("SportsHouseModel", "mOfficial", "[I", true), ("SportsHouseModel", "sheetMany", "[I", true)], [("SportsHouseModel", "sheetPerson", "[I", true), ("SportsHouseModel", "sheetStands", "[I", true), ("SportsHouseModel", "sheetYellows", "[I", true), ("SportsHouseModel", "sheetSent", "[Z", true), ("SportsHouseModel", "fieldMany", "[I", true), ("SportsHouseModel", "fieldSlot", "[I", true), ("SportsHouseModel", "live", "[I", true), ("SportsHouseModel", "rowsMade", "I", false)], [("SportsHouseModel", "rKind", "[I", true), ("SportsHouseModel", "rSide", "[I", true), ("SportsHouseModel", "rPerson", "[I", true), ("SportsHouseModel", "rOther", "[I", true), ("SportsHouseModel", "rNext", "[I", true), ("SportsHouseModel", "rowFirst", "[I", true), ("SportsHouseModel", "rowMany", "[I", true), ("SportsHouseModel", "asideFirst", "[I", true)], [("SportsHouseModel", "asideMany", "[I", true), ("SportsHouseModel", "at", "I", false), ("SportsHouseModel", "tKind", "I", false), ("SportsHouseModel", "tFrom", "I", false), ("SportsHouseModel", "tTo", "I", false), ("SportsHouseModel", "tValue", "I", false), ("SportsHouseModel", "badNumber", "I", false), ("SportsHouseModel", "badAt", "I", false)], [("SportsHouseModel", "statementWords", "[I", true), ("SportsHouseModel", "sportWords", "[I", true), ("SportsHouseModel", "keyWords", "[I", true), ("SportsHouseModel", "least", "[I", true), ("SportsHouseModel", "greatest", "[I", true), ("SportsHouseModel", "toldAlready", "[Z", true), ("SportsHouseModel", "keyTold", "[Z", true), ("SportsHouseModel", "gone", "[I", true)], [("SportsHouseModel", "wasDay", "[I", true), ("SportsHouseModel", "goneMany", "I", false), ("SportsHouseModel", "movedRow", "[I", true), ("SportsHouseModel", "movedMany", "I", false), ("SportsHouseModel", "told", "[I", true), ("SportsHouseModel", "standingClub", "[I", true), ("SportsHouseModel", "partedBy", "[I", true), ("SportsHouseModel", "standingMany", "I", false)], [("SportsHouseModel", "supposes", "Z", false), ("SportsHouseModel", "supposed", "[I", true), ("SportsHouseModel", "result0", "I", false), ("SportsHouseModel", "result1", "I", false), ("SportsHouseModel", "says", "[I", true), ("SportsHouseModel", "groupBits", "I", false), ("SportsHouseModel", "pile", "[I", true), ("SportsHouseModel", "piled", "I", false)], [("SportsHouseModel", "witnessOf", "I", false), ("SportsHouseModel", "witnessed", "[I", true), ("SportsHouseModel", "cutBits", "I", false), ("SportsHouseModel", "points", "[I", true), ("SportsHouseModel", "leftOf", "[I", true), ("SportsHouseModel", "spare", "[I", true), ("SportsHouseModel", "between", "[I", true), ("SportsHouseModel", "best", "I", false)], [("SportsHouseModel", "slack", "[I", true), ("SportsHouseModel", "open", "[I", true), ("SportsHouseModel", "isDraw", "Z", false), ("SportsHouseModel", "groups", "I", false), ("SportsHouseModel", "limit", "I", false), ("SportsHouseModel", "potOf", "[I", true), ("SportsHouseModel", "groupOf", "[I", true), ("SportsHouseModel", "seed", "I", false)], [("SportsHouseModel", "trying", "[I", true), ("SportsHouseModel", "tried", "[I", true), ("SportsHouseModel", "dayMatch", "[I", true), ("SportsHouseModel", "dayMany", "I", false), ("SportsHouseModel", "holds", "[I", true), ("SportsHouseModel", "far", "[I", true), ("SportsHouseModel", "comesBy", "[I", true), ("SportsHouseModel", "hasOne", "[I", true)], [("SportsHouseModel", "foundMany", "I", false), ("SportsHouseModel", "foundSum", "I", false)]]
def TX11 : u_T := fun k => (LX11.getD (k / 8) []).getD (k % 8) ("SportsHouseModel", "foundSum", "I", false)
def MX11 : List (List FieldType) := [[.array .int, .int, .int, .int, .array .int, .array .int, .int, .array .int], [.array .int, .array .boolean, .array .int, .array .int, .int, .array .int, .array .int, .int], [.int, .array .int, .array .int, .array .int, .array .int, .int, .array .int, .array .int], [.int, .array .int, .array .int, .array .int, .array .int, .int, .array .int, .array .int], [.array .int, .array .int, .array .int, .array .int, .array .int, .array .int, .array .int, .array .int], [.array .int, .array .int, .array .int, .array .boolean, .array .int, .array .int, .array .int, .int], [.array .int, .array .int, .array .int, .array .int, .array .int, .array .int, .array .int, .array .int], [.array .int, .int, .int, .int, .int, .int, .int, .int], [.array .int, .array .int, .array .int, .array .int, .array .int, .array .boolean, .array .boolean, .array .int], [.array .int, .int, .array .int, .int, .array .int, .array .int, .array .int, .int], [.boolean, .array .int, .int, .int, .array .int, .int, .array .int, .int], [.int, .array .int, .int, .array .int, .array .int, .array .int, .array .int, .int], [.array .int, .array .int, .boolean, .int, .int, .array .int, .array .int, .int], [.array .int, .array .int, .array .int, .int, .array .int, .array .int, .array .int, .array .int], [.int, .int]]
def tyX11 : Nat → FieldType := fun k => (MX11.getD (k / 8) []).getD (k % 8) .int
abbrev wsX110 : List Cond := u_ws RX11 TX11 114
def sqh_ (s : String) : Nat := s.toByteArray.data.toList.foldl (fun h b => h * 256 + b.toNat) 0
def HX11 : List (List Nat) := [[1952807028, 119182899770472, 28817604583113076, 500085055865, 440005915496, 491596309875, 30773723549582938732778974835, 7308907279878616179], [28550418845033828, 31644363111949668, 28826387908677478, 120265232699238, 427021394547, 8319381495554076019, 1834259110254145529203, 31636739628953203], [495806672499, 545145201503530428624750, 8318255637958784354, 8318255638009507693, 126926508151919, 2054967293096944036979, 448546039155, 37907455735603011591321731092985854649715], [7234298831783093604, 474107008239736252755312, 474107008239736252560738, 31071076891999369354156078195, 1851980500936469799289, 30787924973348211, 469282811248, 120200824712804], [469366697317, 469249778041, 1833197945, 469617893748, 30772458998097200, 30772458998097201, 2016416477013787369836, 2128898098779379560057], [139519465801608734629392238, 139519465801612097303241843, 35716983245214369314027566963, 2128898098779480485492, 1889162491043055234681, 1889162491043156619124, 1818850917, 8245940779841840229], [490891472484, 491025687653, 32176543987101550, 125685580981618, 490941544564, 8245940587039191924, 32210705535037049, 460198518713056928887668], [1797650463722995543673, 24948, 499481407076, 499398111085, 7623791, 127914350507365, 1814798739609139438962, 422540755316], [2341697732031921526464468223157363, 545146211475269105116275, 7738724951144948851, 465557353332, 7454131802490631028, 140761577227429991378150521, 30229394290076772, 1735356005], [131260429394297, 7453297289690443385, 7885651650395926391, 2018726822501272350329, 1953459300, 35731471630456102017391424866, 8097879449231704697, 35731471630456102017558474361], [8319679514845341043, 8319679514845341028, 32199693910701104, 32199693910701105, 1935767923, 1908260578159833478259, 1885957221, 482805048676], [2202761364624725200742, 2202761364624725206372, 27995164885218419, 123623812527219, 119182766395238, 495806673509, 27696098611389806, 1650815860], [495739560811, 1869636974, 115943790502263, 113741193900147, 465625246068, 482906230630, 29117745638428518, 1936024932], [128035012046439, 500135716196, 7233195849788187496, 28254671288233593, 448545973363, 6709618, 27988538338525817, 114767755701861], [1889599342405933428345, 7381247431273575789]]
def hqX11 (k : Nat) : Nat := (HX11.getD (k / 8) []).getD (k % 8) 0
theorem hqX11_k : ∀ k, k < 114 → sqh_ (TX11 k).2.1 = hqX11 k := by decide +kernel
theorem hqX11_i : ∀ a, a < 114 → ∀ b, b < 114 → a ≠ b → hqX11 a ≠ hqX11 b := by decide +kernel
theorem nmX11 : ∀ a, a < 114 → ∀ b, b < 114 → a ≠ b → (TX11 a).2.1 ≠ (TX11 b).2.1 := fun a ha b hb hn e => hqX11_i a ha b hb hn (((hqX11_k a ha).symm.trans (congrArg sqh_ e)).trans (hqX11_k b hb))
theorem tyX11_ok : ∀ k, k < 114 → parseFieldDescriptor (TX11 k).2.2.1 = some (tyX11 k) := by decide +kernel
def RL : String := "SportsHouseLaw"
def RJ7 : String := "java/util/Arrays"
abbrev vwCl : List vw_C := [(RX0, TX0, 9), (RX1, TX1, 16), (RX2, TX2, 11), (RX3, TX3, 18), (RX4, TX4, 5), (RX5, TX5, 10), (RX6, TX6, 16), (RX7, TX7, 14), (RX8, TX8, 14), (RX9, TX9, 16), (RX10, TX10, 7), (RX11, TX11, 114)]
/-- the words that go on holding -/
def lw_g : List Cond := lw_tbl.filter goodWord
theorem lw_at {w : Cond} (i : Nat) (h : tables_1[i]? = some w) (hg : goodWord w = true) : w ∈ lw_g := List.mem_filter.mpr ⟨List.mem_append_right _ (List.mem_of_getElem? h), hg⟩
theorem lwq_1 {w : Cond} (h : w ∈ tables_1_1) (hg : goodWord w = true) : w ∈ lw_g := List.mem_filter.mpr ⟨List.mem_append_right _ (lt_b1 h), hg⟩
theorem lwq_2 {w : Cond} (h : w ∈ tables_1_2) (hg : goodWord w = true) : w ∈ lw_g := List.mem_filter.mpr ⟨List.mem_append_right _ (lt_b2 h), hg⟩
theorem lwq_3 {w : Cond} (h : w ∈ tables_1_3) (hg : goodWord w = true) : w ∈ lw_g := List.mem_filter.mpr ⟨List.mem_append_right _ (lt_b3 h), hg⟩
theorem lwq_4 {w : Cond} (h : w ∈ tables_1_4) (hg : goodWord w = true) : w ∈ lw_g := List.mem_filter.mpr ⟨List.mem_append_right _ (lt_b4 h), hg⟩
theorem lwq_5 {w : Cond} (h : w ∈ tables_1_5) (hg : goodWord w = true) : w ∈ lw_g := List.mem_filter.mpr ⟨List.mem_append_right _ (lt_b5 h), hg⟩
theorem lwq_6 {w : Cond} (h : w ∈ tables_1_6) (hg : goodWord w = true) : w ∈ lw_g := List.mem_filter.mpr ⟨List.mem_append_right _ (lt_b6 h), hg⟩
theorem lwq_7 {w : Cond} (h : w ∈ tables_1_7) (hg : goodWord w = true) : w ∈ lw_g := List.mem_filter.mpr ⟨List.mem_append_right _ (lt_b7 h), hg⟩
theorem lwq_8 {w : Cond} (h : w ∈ tables_1_8) (hg : goodWord w = true) : w ∈ lw_g := List.mem_filter.mpr ⟨List.mem_append_right _ (lt_b8 h), hg⟩
theorem lwq_9 {w : Cond} (h : w ∈ tables_1_9) (hg : goodWord w = true) : w ∈ lw_g := List.mem_filter.mpr ⟨List.mem_append_right _ (lt_b9 h), hg⟩
theorem lwq_10 {w : Cond} (h : w ∈ tables_1_10) (hg : goodWord w = true) : w ∈ lw_g := List.mem_filter.mpr ⟨List.mem_append_right _ (lt_b10 h), hg⟩
theorem lw_sub2 {L : List Cond} (hL : ∀ w ∈ L, w ∈ tables_1) (ws : List Cond) (ps : List Nat) (hp : ws = ps.filterMap (fun i => L[i]?)) (hg : ws.all goodWord = true) : ∀ w ∈ ws, w ∈ lw_g := by
  intro w hw
  have h1 := List.all_eq_true.mp hg w hw
  rw [hp] at hw
  obtain ⟨i, -, hi⟩ := List.mem_filterMap.mp hw
  exact List.mem_filter.mpr ⟨List.mem_append_right _ (hL w (List.mem_of_getElem? hi)), h1⟩
theorem lw_any {w : Cond} (i : Nat) (h : tables_1[i]? = some w) : w ∈ lw_tbl := List.mem_append_right _ (List.mem_of_getElem? h)
theorem lw_sel (i : Nat) {q : MethodName × Nat} (h : lw_privs[i]? = some q) : Cond.selects q.1.cls q.1 q.1 ∈ lw_g := List.mem_filter.mpr ⟨List.mem_append_left _ (List.mem_map.mpr ⟨q, List.mem_of_getElem? h, rfl⟩), rfl⟩
theorem lw_good : ∀ w ∈ lw_g, (w.onTables && w.keeps) = true ∨ ∃ ty, w = .arrayClass ty := fun w h => good_of_word (List.mem_filter.mp h).2
/-- words of another kind that the methods need -/
def ex_E (U : State) : Prop := va_AO "SportsHouse$Competition" U ∧ va_AO "SportsHouse$Match" U ∧ va_Nw (.castable "[I" "java/lang/Cloneable") U ∧ va_Nw (.methodLinkNest "SportsHouse" 11 ⟨"SportsHouse$RuleText", "<init>", "()V"⟩ "SportsHouse") U ∧ va_Nw (.methodLinkNest "SportsHouse" 18 ⟨"SportsHouse$Things", "<init>", "()V"⟩ "SportsHouse") U ∧ va_Nw (.methodLinkNest "SportsHouse$Play" 89 ⟨"SportsHouse", "isSide", "(I)Z"⟩ "SportsHouse") U
theorem ex_warm {s U : State} (hW : s.WarmedH U.vm) (h : ex_E s) : ex_E U := ⟨h.1.moved hW.alike, h.2.1.moved hW.alike, h.2.2.1.warmC hW, h.2.2.2.1.warmM hW, h.2.2.2.2.1.warmM hW, h.2.2.2.2.2.warmM hW⟩
theorem ex_same {s U : State} (hW : s.vm = U.vm) (h : ex_E s) : ex_E U := ⟨h.1.moved (by rw [hW]; exact Vm.Alike.refl _), h.2.1.moved (by rw [hW]; exact Vm.Alike.refl _), h.2.2.1.same rfl hW, h.2.2.2.1.same rfl hW, h.2.2.2.2.1.same rfl hW, h.2.2.2.2.2.same rfl hW⟩
theorem inX0 : ∀ w ∈ wsX00, w ∈ lw_g := lw_sub2 (L := tables_1_3) (fun _ h => lt_b3 h) _ [114, 116, 118, 120, 122, 124, 126, 128, 130] (by decide +kernel) (by decide +kernel)
theorem inX1 : ∀ w ∈ wsX10, w ∈ lw_g := lw_sub2 (L := tables_1_2) (fun _ h => lt_b2 h) _ [110, 112, 114, 116, 118, 120, 122, 124, 126, 128, 130, 132, 134, 136, 138, 140] (by decide +kernel) (by decide +kernel)
theorem inX2 : ∀ w ∈ wsX20, w ∈ lw_g := lw_sub2 (L := tables_1_4) (fun _ h => lt_b4 h) _ [26, 28, 30, 32, 34, 36, 38, 40, 42, 44, 46] (by decide +kernel) (by decide +kernel)
theorem inX3 : ∀ w ∈ wsX30, w ∈ lw_g := lw_sub2 (L := (tables_1_4 ++ tables_1_5)) (fun _ h => (List.mem_append.mp h).elim lt_b4 lt_b5) _ [217, 219, 221, 223, 225, 227, 229, 231, 233, 235, 237, 239, 241, 243, 245, 247, 249, 251] (by decide +kernel) (by decide +kernel)
theorem inX4 : ∀ w ∈ wsX40, w ∈ lw_g := lw_sub2 (L := tables_1_2) (fun _ h => lt_b2 h) _ [154, 156, 158, 160, 162] (by decide +kernel) (by decide +kernel)
theorem inX5 : ∀ w ∈ wsX50, w ∈ lw_g := lw_sub2 (L := tables_1_1) (fun _ h => lt_b1 h) _ [51, 53, 55, 57, 59, 61, 63, 65, 67, 69] (by decide +kernel) (by decide +kernel)
theorem inX6 : ∀ w ∈ wsX60, w ∈ lw_g := lw_sub2 (L := tables_1_1) (fun _ h => lt_b1 h) _ [172, 174, 176, 178, 180, 182, 184, 186, 188, 190, 192, 194, 196, 198, 200, 202] (by decide +kernel) (by decide +kernel)
theorem inX7 : ∀ w ∈ wsX70, w ∈ lw_g := lw_sub2 (L := (tables_1_1 ++ tables_1_2)) (fun _ h => (List.mem_append.mp h).elim lt_b1 lt_b2) _ [229, 231, 233, 235, 237, 239, 241, 243, 245, 247, 249, 251, 253, 255] (by decide +kernel) (by decide +kernel)
theorem inX8 : ∀ w ∈ wsX80, w ∈ lw_g := lw_sub2 (L := tables_1_1) (fun _ h => lt_b1 h) _ [107, 109, 111, 113, 115, 117, 119, 121, 123, 125, 127, 129, 131, 133] (by decide +kernel) (by decide +kernel)
theorem inX9 : ∀ w ∈ wsX90, w ∈ lw_g := lw_sub2 (L := tables_1_2) (fun _ h => lt_b2 h) _ [47, 49, 51, 53, 55, 57, 59, 61, 63, 65, 67, 69, 71, 73, 75, 77] (by decide +kernel) (by decide +kernel)
theorem inX10 : ∀ w ∈ wsX100, w ∈ lw_g := lw_sub2 (L := tables_1_2) (fun _ h => lt_b2 h) _ [172, 174, 176, 178, 180, 182, 184] (by decide +kernel) (by decide +kernel)
theorem inX11 : ∀ w ∈ wsX110, w ∈ lw_g := lw_sub2 (L := (tables_1_7 ++ tables_1_8)) (fun _ h => (List.mem_append.mp h).elim lt_b7 lt_b8) _ [101, 103, 105, 107, 109, 111, 113, 115, 117, 119, 121, 123, 125, 127, 129, 131, 133, 135, 137, 139, 141, 143, 145, 147, 149, 151, 153, 155, 157, 159, 161, 163, 165, 167, 169, 171, 173, 175, 177, 179, 181, 183, 185, 187, 189, 191, 193, 195, 197, 199, 201, 203, 205, 207, 209, 211, 213, 215, 217, 219, 221, 223, 225, 227, 229, 231, 233, 235, 237, 239, 241, 243, 245, 247, 249, 251, 253, 255, 257, 259, 261, 263, 265, 267, 269, 271, 273, 275, 277, 279, 281, 283, 285, 287, 289, 291, 293, 295, 297, 299, 301, 303, 305, 307, 309, 311, 313, 315, 317, 319, 321, 323, 325, 327] (by decide +kernel) (by decide +kernel)
theorem vi_0 : vwCl[0]? = some (RX0, TX0, 9) := rfl
theorem vi_2 : vwCl[2]? = some (RX2, TX2, 11) := rfl
theorem vi_3 : vwCl[3]? = some (RX3, TX3, 18) := rfl
theorem gi_c {c0 : Cond} (h : c0 ∈ lw_g) : GoodIn lw_g (c0 :: lw_g) := fun w hw => (List.mem_cons.mp hw).elim (fun e => e ▸ ⟨h, lw_good _ h⟩) (fun h => ⟨h, lw_good _ h⟩)
theorem gi_V {own : String} {i : Nat} {C : String} {y : MethodName} {c0 : Cond} (h1 : Cond.methodLink own i y ∈ lw_g) (h2 : Cond.instanceMethod y ∈ lw_g) (h3 : Cond.selects C y y ∈ lw_g) (h4 : Cond.initialized C ∈ lw_g) (hc : c0 ∈ lw_g) : GoodIn lw_g (wsV own i C y (c0 :: lw_g)) := by
  intro w hw
  unfold wsV at hw
  rcases List.mem_append.mp hw with h | h
  · have h9 : w ∈ lw_g := by
      simp only [List.mem_cons, List.not_mem_nil, or_false] at h
      rcases h with rfl | rfl | rfl | rfl <;> assumption
    exact ⟨h9, lw_good _ h9⟩
  · exact gi_c hc w h
theorem gi_S {own : String} {i : Nat} {y : MethodName} {c0 : Cond} (h1 : Cond.methodLink own i y ∈ lw_g) (h2 : Cond.static y ∈ lw_g) (h4 : Cond.initialized y.cls ∈ lw_g) (hc : c0 ∈ lw_g) : GoodIn lw_g (va_wsS own i y (c0 :: lw_g)) := by
  intro w hw
  unfold va_wsS at hw
  rcases List.mem_append.mp hw with h | h
  · have h9 : w ∈ lw_g := by
      simp only [List.mem_cons, List.not_mem_nil, or_false] at h
      rcases h with rfl | rfl | rfl <;> assumption
    exact ⟨h9, lw_good _ h9⟩
  · exact gi_c hc w h
-- a method's start: its world's cells are apart
abbrev ro_P (dC : Nat → ClassId) (dI : Nat → Nat → Nat) (ws : va_W) (tys : List (ClassId × FieldType)) (sz : Nat) (av : List Value) : Array Value → State → Prop := va_Pc av (fun U => U.heap.size = sz ∧ va_P (dC, dI) vwCl ws U.heap ∧ va_K (dC, dI) vwCl tys U ∧ va_D (fun _ => True) ws ∧ ex_E U)
theorem ro_blind {dC : Nat → ClassId} {dI : Nat → Nat → Nat} {ws : va_W} {tys : List (ClassId × FieldType)} {sz : Nat} {av : List Value} : FrameBlind (ro_P dC dI ws tys sz av) := fun a U g mk q => by
  obtain ⟨q0, q1, qP, qK, qD, qE⟩ := q
  exact ⟨q0, q1, qP, va_K.moved (u := U) (U := U.calling g mk a) (Vm.Alike.refl U.vm) qK, qD, ex_same (s := U) (U := U.calling g mk a) rfl qE⟩
theorem ro_entry {l : Launch} {y : MethodName} {cc : ByteArray} {maxL : Nat} {ret : Option FieldType} {rm : Room} {dC : Nat → ClassId} {dI : Nat → Nat → Nat} {ws : va_W} {tys : List (ClassId × FieldType)} {sz : Nat} {av : List Value} {Qc : Array Value → State → Outcome → State → Prop} {mc ms : Nat} {A : Nat → Prop} (hy : plainName y.cls = true) (hav : (lg_sl av).length ≤ maxL)
    (body : ∀ (p : Program) (e : Env) (s : State) (m : MethodId) (below : List Frame) (meth : Method) (c : Code) (ls : Array Slot), p.tables.exec = Jvm.exec → c.code = cc → meth.sig.returnType = ret → meth.locks = false → (∀ w ∈ lw_g, w.before av.toArray s = true) → s.vm.findClass y.cls = some m.cls → meth.name = y.name → c.maxLocals = maxL → s.heap.size = sz → va_P (dC, dI) vwCl ws s.heap → va_K (dC, dI) vwCl tys s → va_D (fun _ => True) ws → ex_E s → lv_has ls maxL (lv_args 0 av) →
      W p l e rm s m av.toArray below meth c s.heap [] 0 0 (MQ below Qc av.toArray s mc ms A) (F0 m 0 ls [])) : Met l y (.code y cc maxL ret :: lw_g) rm (ro_P dC dI ws tys sz av) Qc mc ms A := by
  refine Met.ofW (cc := cc) (maxL := maxL) (ret := ret) hy rfl ?_
  intro p e s m args below meth c s₁ B hml hv
  obtain ⟨rfl, hsz, hP, hK, hD0, hE⟩ := hv
  have hts := atoms_spec (ws := .code y cc maxL ret :: lw_g) B.pre
  have hl := lv_entry av (n := maxL) hav
  rw [lg_entry_eq]
  exact body p e s m below meth c _ B.exec B.bytes B.returns B.notSynchronized (fun w h => hts w (List.mem_cons_of_mem _ h)) (findClass_of_methodNamed B.named) (name_of_methodNamed B.named B.method).1 hml hsz hP hK hD0 hE hl
section ROC
variable {p : Program} {l : Launch} {e : Env} {R : Room} {s : State} {m : MethodId} {args : Array Value} {below : List Frame} {meth : Method} {c : Code} {H : Heap} {locs : List Loc} {cells slots : Nat} {Q : State → Prop} {cc bytes : ByteArray} {pc nL maxL index n : Nat} {ls : Array Slot} {rest As : List Value} {A0 : Nat → Prop} {H0 : Heap} {dC : Nat → ClassId} {dI : Nat → Nat → Nat} {ws wc : va_W} {tys tysc : List (ClassId × FieldType)} {own C : String} {y : MethodName} {ret : Option FieldType} {rm : Room} {b : Nat} {v : Int32}
end ROC
-- the picture of the whole heap: kind, index, slot to a number; a reference is a kind and an index
abbrev Zv : Type := Int ⊕ (Int ⊕ Option (Nat × Int))
abbrev Zt : Type := Nat → Int → Int → Int
abbrev Zl : Type := List (Option Zv)
abbrev vI (x : Int) : Zv := Sum.inl x
abbrev vL (x : Int) : Zv := Sum.inr (Sum.inl x)
abbrev vR (k : Nat) (i : Int) : Zv := Sum.inr (Sum.inr (some (k, i)))
abbrev vN : Zv := Sum.inr (Sum.inr none)
-- rows: what they hold (1 int, 2 boolean, 3 long, 4 and 5 references), their length (none: it stands at slot -2), the bounds of what they hold
def ta_l : List (List (Option (Nat × Option Int × Int × Int))) := [
  [],
  [],
  [],
  [],
  [],
  [none, none, none, none, none, none, none, none, none, none, none, none, none, none, none, none, none, none, none, none, none, none, none, none, none, none, none, none, none, none, some (1, none, (-2147483648), 2147483647)],
  [none, none, none, none, none, none, none, none, some (1, some 400, 0, 126), none, none, none, some (1, some 23, (-1), 999), some (1, some 92, (-1), 999), none, some (1, some 48, 0, 11), some (1, some 4, 0, 12), some (2, some 4, 0, 1), some (1, some 4, 0, 400), some (1, some 4, 0, 400), none, some (1, some 12, 0, 11), some (1, some 12, 0, 7), none, none, some (1, some 300, 0, 199), some (1, some 300, 0, 11), some (1, some 300, 0, 999), some (1, some 300, 0, 999), none, some (1, some 8, 0, 11), some (1, some 8, 0, 7)],
  [none, some (1, some 50, 0, 3), some (1, some 50, 0, 11), some (1, some 50, 0, 99), some (1, some 50, 0, 999), none, some (1, some 400, 0, 3), some (1, some 400, (-2147483648), 2147483647), some (1, some 400, 0, 11), some (1, some 400, 0, 11), some (1, some 400, 0, 999), some (1, some 400, 0, 3), some (1, some 400, (-2147483648), 2147483647), some (1, some 400, (-2147483648), 2147483647), some (1, some 400, (-1), 7), some (1, some 800, 0, 10), some (1, some 8000, 0, 199), some (1, some 8000, 0, 2), some (1, some 8000, (-2147483648), 2147483647), some (2, some 8000, 0, 1), some (1, some 800, 0, 6), some (1, some 4800, 0, 7999), some (1, some 3200, (-2147483648), 2147483647), none, some (1, some 3000, (-2147483648), 2147483647), some (1, some 3000, (-2147483648), 2147483647), some (1, some 3000, (-2147483648), 2147483647), some (1, some 3000, (-2147483648), 2147483647), some (1, some 3000, (-1), 2999), some (1, some 400, (-1), 2999), some (1, some 400, 0, 3000), some (1, some 400, (-1), 2999)],
  [some (1, some 400, 0, 3000), none, none, none, none, none, none, none, some (1, some 82, 0, 122), some (1, some 36, 0, 122), some (1, some 37, 0, 122), some (1, some 10, 0, 2), some (1, some 10, 0, 999), some (2, some 14, 0, 1), some (2, some 7, 0, 1), some (1, some 400, 0, 399), some (1, some 400, 0, 999), none, some (1, some 400, 0, 399), none, some (1, some 108, (-2147483648), 2147483647), some (1, some 12, 0, 11), some (1, some 12, (-1), 7), none, none, some (1, some 400, 0, 2), none, none, some (1, some 36, (-2147483648), 2147483647), none, some (1, some 120, 0, 12)],
  [none, some (1, some 400, (-1), 2), none, some (1, some 12, (-2147483648), 2147483647), some (1, some 12, 0, 1000), some (1, some 12, (-2147483648), 2147483647), some (1, some 144, 0, 1000), none, some (1, some 4096, (-2147483648), 2147483647), some (1, some 400, 0, 399), none, none, none, some (1, some 12, (-1), 2), some (1, some 12, (-1), 3), none, some (1, some 12, 0, 11), some (1, some 12, (-1), 3), some (1, some 400, 0, 399), none, some (1, some 8, (-1), 399), some (1, some 8, (-2147483648), 2147483647), some (1, some 8, 0, 399), some (1, some 400, (-1), 7)],
  [],
  [],
  [none, none, none, none, none, none, none, none, none, none, none, none, none, none, none, none, none, some (1, some 16, 0, 999), some (1, some 7, (-1), 6), some (1, some 12, 0, 11), some (1, some 12, (-1), 11)],
  [none, none, none, none, none, none, none, none, none, none, none, none, some (1, some 12, (-1), 2), some (1, some 12, (-1), 3), some (1, some 3, 0, 4), some (1, some 48, (-2147483648), 2147483647), some (1, some 12, 0, 11), none, some (1, some 12, 0, 1), some (1, some 32, (-2147483648), 2147483647)],
  [some (1, some 20, 0, 199), some (1, some 2, 0, 10), none, none, none, none, none, none, none, none, none, none, none, none, none, none, none, none, some (1, some 2, (-2147483648), 2147483647), some (1, some 2, (-2147483648), 2147483647), some (1, some 2, (-2147483648), 2147483647), some (1, some 2, (-2147483648), 2147483647), some (1, some 2, 0, 6), some (1, some 12, 0, 19), some (1, some 20, 0, 3), some (1, some 20, (-2147483648), 2147483647)],
  [none, none, some (1, some 400, 0, 399), none, none, none, none, none, none, none, none, none, none, none, none, none, none, none, none, none, some (1, some 400, 0, 126), none, none, none, some (1, some 16, 0, 999), some (1, some 7, (-1), 6)],
  [none, none, none, none, none, none, none, none, none, some (4, some 4, 0, 1), none, some (5, some 400, 0, 1), none, none, none, some (1, some 50, 0, 3), some (1, some 50, 0, 11), some (1, some 50, 0, 99), some (1, some 50, 0, 999), some (1, some 400, 0, 399), none, some (1, some 400, 0, 399), some (1, some 400, 0, 999), some (1, some 1000, 0, 1), none, none, none, none, none, none, some (1, some 96, (-2147483648), 2147483647), some (1, some 12, (-2147483648), 2147483647)],
  [some (1, some 12, (-2147483648), 2147483647), some (1, some 144, (-2147483648), 2147483647), some (1, some 144, (-2147483648), 2147483647), some (1, some 12, 0, 11), some (1, some 12, (-1), 7), some (3, some 12, (-9223372036854775808), 9223372036854775807), some (1, some 16, 0, 12), some (1, some 16, 0, 12), some (1, some 16, 0, 8), none, none, none, none, none, none, none, some (1, some 12, 0, 11), some (1, some 12, 0, 7), none, none, some (1, some 200, (-1), 299), none, some (1, some 300, 0, 11), some (1, some 300, 0, 999), some (1, some 300, 0, 999), some (1, some 300, (-1), 299), some (1, some 8, 0, 11), some (1, some 8, 0, 7)],
  [none, none, none, none, none, none, none, none, some (1, some 400, (-2147483648), 2147483647), none, none, some (1, some 12, (-2147483648), 2147483647), some (1, some 40, 0, 399), none, some (1, some 40, (-2147483648), 2147483647), some (1, some 12, (-2147483648), 2147483647), some (1, some 12, (-2147483648), 2147483647), some (1, some 12, (-1), 40), some (1, some 12, 0, 11)]]
def ta_ (k : Nat) : Option (Nat × Option Int × Int × Int) := (ta_l.getD (k / 32) []).getD (k % 32) none
-- fields: how a field's value comes: (0, _) the number; (1, k) the one of kind k; (2, k) of kind k, the same index; (3, k) the index is told by the slot; (4, k) null if the slot is 0, else the same index; (5, k) null if the slot is 0, else the index behind it; with the bounds of the number
def tf_0 : List (Nat × Nat × Int × Int) := [(0, 0, 0, 3), (2, 401, (-2147483648), 2147483647), (2, 402, (-2147483648), 2147483647), (2, 403, (-2147483648), 2147483647), (2, 404, (-2147483648), 2147483647), (0, 0, 0, 12), (0, 0, 0, 1), (0, 0, 0, 400), (0, 0, 0, 400)]
def tf_1 : List (Nat × Nat × Int × Int) := [(1, 108, (-2147483648), 2147483647), (0, 0, 0, 4), (0, 0, 0, 3), (0, 0, (-2147483648), 2147483647), (0, 0, (-2147483648), 2147483647), (0, 0, (-2147483648), 2147483647), (0, 0, (-2147483648), 2147483647), (0, 0, 0, 1), (1, 428, (-2147483648), 2147483647), (1, 429, (-2147483648), 2147483647), (1, 430, (-2147483648), 2147483647), (1, 431, (-2147483648), 2147483647), (1, 432, (-2147483648), 2147483647), (0, 0, 0, 12), (1, 434, (-2147483648), 2147483647), (1, 435, (-2147483648), 2147483647)]
def tf_2 : List (Nat × Nat × Int × Int) := [(3, 100, (-2147483648), 2147483647), (0, 0, 0, 399), (0, 0, (-2147483648), 2147483647), (0, 0, 0, 11), (0, 0, 0, 11), (0, 0, 0, 999), (0, 0, (-1), 1), (0, 0, (-1), 7), (2, 448, (-2147483648), 2147483647), (2, 449, (-2147483648), 2147483647), (4, 103, (-2147483648), 2147483647)]
def tf_3 : List (Nat × Nat × Int × Int) := [(3, 401, (-2147483648), 2147483647), (2, 448, (-2147483648), 2147483647), (2, 449, (-2147483648), 2147483647), (0, 0, 0, 1), (0, 0, (-2147483648), 2147483647), (0, 0, 0, 1), (2, 466, (-2147483648), 2147483647), (2, 467, (-2147483648), 2147483647), (2, 468, (-2147483648), 2147483647), (2, 469, (-2147483648), 2147483647), (2, 470, (-2147483648), 2147483647), (2, 471, (-2147483648), 2147483647), (2, 472, (-2147483648), 2147483647), (2, 473, (-2147483648), 2147483647), (3, 190, (-2147483648), 2147483647), (0, 0, 0, 3000), (3, 190, (-2147483648), 2147483647), (0, 0, 0, 3000)]
def tf_4 : List (Nat × Nat × Int × Int) := [(1, 106, (-2147483648), 2147483647), (1, 108, (-2147483648), 2147483647), (1, 482, (-2147483648), 2147483647), (0, 0, 0, 400), (3, 190, (-2147483648), 2147483647)]
def tf_5 : List (Nat × Nat × Int × Int) := [(1, 500, (-2147483648), 2147483647), (0, 0, 0, 400), (0, 0, 0, 5), (0, 0, (-1), 400), (1, 504, (-2147483648), 2147483647), (1, 505, (-2147483648), 2147483647), (0, 0, (-2147483648), 2147483647), (0, 0, 0, 5), (0, 0, 0, 400), (0, 0, 0, 400)]
def tf_6 : List (Nat × Nat × Int × Int) := [(1, 108, (-2147483648), 2147483647), (1, 521, (-2147483648), 2147483647), (0, 0, 0, 4), (1, 523, (-2147483648), 2147483647), (0, 0, 0, 400), (0, 0, 0, 3000), (0, 0, 0, 50), (1, 527, (-2147483648), 2147483647), (1, 528, (-2147483648), 2147483647), (1, 529, (-2147483648), 2147483647), (1, 530, (-2147483648), 2147483647), (1, 531, (-2147483648), 2147483647), (0, 0, 0, 400), (1, 533, (-2147483648), 2147483647), (1, 534, (-2147483648), 2147483647), (1, 535, (-2147483648), 2147483647)]
def tf_7 : List (Nat × Nat × Int × Int) := [(1, 106, (-2147483648), 2147483647), (5, 100, (-2147483648), 2147483647), (1, 542, (-2147483648), 2147483647), (1, 543, (-2147483648), 2147483647), (1, 544, (-2147483648), 2147483647), (1, 545, (-2147483648), 2147483647), (1, 546, (-2147483648), 2147483647), (1, 547, (-2147483648), 2147483647), (1, 548, (-2147483648), 2147483647), (1, 549, (-2147483648), 2147483647), (1, 550, (-2147483648), 2147483647), (1, 551, (-2147483648), 2147483647), (1, 552, (-2147483648), 2147483647), (0, 0, 0, 16)]
def tf_8 : List (Nat × Nat × Int × Int) := [(1, 560, (-2147483648), 2147483647), (1, 561, (-2147483648), 2147483647), (0, 0, 0, 12), (0, 0, 0, 200), (1, 564, (-2147483648), 2147483647), (0, 0, 0, 300), (1, 566, (-2147483648), 2147483647), (1, 567, (-2147483648), 2147483647), (1, 568, (-2147483648), 2147483647), (1, 569, (-2147483648), 2147483647), (1, 570, (-2147483648), 2147483647), (1, 571, (-2147483648), 2147483647), (0, 0, 0, 8), (0, 0, 0, 999)]
def tf_9 : List (Nat × Nat × Int × Int) := [(1, 106, (-2147483648), 2147483647), (1, 107, (-2147483648), 2147483647), (0, 0, (-1), 2), (0, 0, 0, 4095), (1, 584, (-2147483648), 2147483647), (5, 100, (-2147483648), 2147483647), (0, 0, (-2147483648), 2147483647), (1, 587, (-2147483648), 2147483647), (1, 588, (-2147483648), 2147483647), (0, 0, 0, 40), (1, 590, (-2147483648), 2147483647), (1, 591, (-2147483648), 2147483647), (1, 592, (-2147483648), 2147483647), (1, 593, (-2147483648), 2147483647), (1, 594, (-2147483648), 2147483647), (5, 190, (-2147483648), 2147483647)]
def tf_10 : List (Nat × Nat × Int × Int) := [(1, 105, (-2147483648), 2147483647), (1, 108, (-2147483648), 2147483647), (1, 106, (-2147483648), 2147483647), (1, 107, (-2147483648), 2147483647), (1, 109, (-2147483648), 2147483647), (1, 101, (-2147483648), 2147483647), (1, 104, (-2147483648), 2147483647)]
def tf_11 : List (Nat × Nat × Int × Int) := [(1, 200, (-2147483648), 2147483647), (0, 0, 0, 400), (0, 0, (-1), 400), (0, 0, 0, 999), (1, 204, (-2147483648), 2147483647), (1, 205, (-2147483648), 2147483647), (0, 0, 0, 4), (1, 207, (-2147483648), 2147483647), (1, 208, (-2147483648), 2147483647), (1, 209, (-2147483648), 2147483647), (1, 210, (-2147483648), 2147483647), (1, 211, (-2147483648), 2147483647), (0, 0, 0, 12), (1, 213, (-2147483648), 2147483647), (1, 214, (-2147483648), 2147483647), (0, 0, 0, 200), (0, 0, 0, 300), (1, 217, (-2147483648), 2147483647), (1, 218, (-2147483648), 2147483647), (1, 219, (-2147483648), 2147483647), (1, 220, (-2147483648), 2147483647), (0, 0, 0, 8), (1, 222, (-2147483648), 2147483647), (1, 223, (-2147483648), 2147483647), (0, 0, 0, 50), (1, 225, (-2147483648), 2147483647), (1, 226, (-2147483648), 2147483647), (1, 227, (-2147483648), 2147483647), (1, 228, (-2147483648), 2147483647), (0, 0, 0, 400), (1, 230, (-2147483648), 2147483647), (1, 231, (-2147483648), 2147483647), (1, 232, (-2147483648), 2147483647), (1, 233, (-2147483648), 2147483647), (1, 234, (-2147483648), 2147483647), (1, 235, (-2147483648), 2147483647), (1, 236, (-2147483648), 2147483647), (1, 237, (-2147483648), 2147483647), (1, 238, (-2147483648), 2147483647), (1, 239, (-2147483648), 2147483647), (1, 240, (-2147483648), 2147483647), (1, 241, (-2147483648), 2147483647), (1, 242, (-2147483648), 2147483647), (1, 243, (-2147483648), 2147483647), (1, 244, (-2147483648), 2147483647), (1, 245, (-2147483648), 2147483647), (1, 246, (-2147483648), 2147483647), (0, 0, 0, 3000), (1, 248, (-2147483648), 2147483647), (1, 249, (-2147483648), 2147483647), (1, 250, (-2147483648), 2147483647), (1, 251, (-2147483648), 2147483647), (1, 252, (-2147483648), 2147483647), (1, 253, (-2147483648), 2147483647), (1, 254, (-2147483648), 2147483647), (1, 255, (-2147483648), 2147483647), (1, 256, (-2147483648), 2147483647), (0, 0, 0, 400), (0, 0, 0, 4), (0, 0, 0, 400), (0, 0, 0, 400), (0, 0, (-2147483648), 2147483647), (0, 0, 0, 5), (0, 0, (-1), 400), (1, 264, (-2147483648), 2147483647), (1, 265, (-2147483648), 2147483647), (1, 266, (-2147483648), 2147483647), (1, 267, (-2147483648), 2147483647), (1, 268, (-2147483648), 2147483647), (1, 269, (-2147483648), 2147483647), (1, 270, (-2147483648), 2147483647), (1, 271, (-2147483648), 2147483647), (1, 272, (-2147483648), 2147483647), (0, 0, 0, 400), (1, 274, (-2147483648), 2147483647), (0, 0, 0, 400), (1, 276, (-2147483648), 2147483647), (1, 277, (-2147483648), 2147483647), (1, 278, (-2147483648), 2147483647), (0, 0, 0, 12), (0, 0, 0, 1), (1, 281, (-2147483648), 2147483647), (0, 0, (-2147483648), 2147483647), (0, 0, (-2147483648), 2147483647), (1, 284, (-2147483648), 2147483647), (0, 0, 0, 4095), (1, 286, (-2147483648), 2147483647), (0, 0, 0, 120), (0, 0, (-1), 3), (1, 289, (-2147483648), 2147483647), (0, 0, 0, 4095), (1, 291, (-2147483648), 2147483647), (1, 292, (-2147483648), 2147483647), (1, 293, (-2147483648), 2147483647), (1, 294, (-2147483648), 2147483647), (0, 0, (-2147483648), 2147483647), (1, 296, (-2147483648), 2147483647), (1, 297, (-2147483648), 2147483647), (0, 0, 0, 1), (0, 0, 0, 4), (0, 0, 0, 3), (1, 301, (-2147483648), 2147483647), (1, 302, (-2147483648), 2147483647), (0, 0, (-2147483648), 2147483647), (1, 304, (-2147483648), 2147483647), (1, 305, (-2147483648), 2147483647), (1, 306, (-2147483648), 2147483647), (0, 0, 0, 400), (1, 308, (-2147483648), 2147483647), (1, 309, (-2147483648), 2147483647), (1, 310, (-2147483648), 2147483647), (1, 311, (-2147483648), 2147483647), (0, 0, (-2147483648), 2147483647), (0, 0, (-2147483648), 2147483647)]
def tf_l : List (List (Nat × Nat × Int × Int)) := [tf_0, tf_1, tf_2, tf_3, tf_4, tf_5, tf_6, tf_7, tf_8, tf_9, tf_10, tf_11]
def tw_0 : List (Nat × Nat × Int × Int) := [(0, 0, 0, 3), (5, 401, (-2147483648), 2147483647), (5, 402, (-2147483648), 2147483647), (5, 403, (-2147483648), 2147483647), (5, 404, (-2147483648), 2147483647), (0, 0, 0, 12), (0, 0, 0, 1), (0, 0, 0, 400), (0, 0, 0, 400)]
def tw_2 : List (Nat × Nat × Int × Int) := [(5, 100, (-2147483648), 2147483647), (0, 0, 0, 399), (0, 0, (-2147483648), 2147483647), (0, 0, 0, 11), (0, 0, 0, 11), (0, 0, 0, 999), (0, 0, (-1), 1), (0, 0, (-1), 7), (5, 448, (-2147483648), 2147483647), (5, 449, (-2147483648), 2147483647), (5, 103, (-2147483648), 2147483647)]
def tw_3 : List (Nat × Nat × Int × Int) := [(5, 401, (-2147483648), 2147483647), (5, 448, (-2147483648), 2147483647), (5, 449, (-2147483648), 2147483647), (0, 0, 0, 1), (0, 0, (-2147483648), 2147483647), (0, 0, 0, 1), (5, 466, (-2147483648), 2147483647), (5, 467, (-2147483648), 2147483647), (5, 468, (-2147483648), 2147483647), (5, 469, (-2147483648), 2147483647), (5, 470, (-2147483648), 2147483647), (5, 471, (-2147483648), 2147483647), (5, 472, (-2147483648), 2147483647), (5, 473, (-2147483648), 2147483647), (5, 190, (-2147483648), 2147483647), (0, 0, 0, 3000), (5, 190, (-2147483648), 2147483647), (0, 0, 0, 3000)]
def tf_ (k : Nat) : List (Nat × Nat × Int × Int) := if k < 100 then [] else if k < 150 then tf_l.getD (k - 100) [] else if k < 154 then ([tw_0, [], tw_2, tw_3] : List (List (Nat × Nat × Int × Int))).getD (k - 150) [] else []
def kc_ (k : Nat) : Nat := if k < 150 then k - 100 else k - 150
