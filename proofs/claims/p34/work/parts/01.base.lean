-- names of classes and descriptors, told once
theorem nmh_0 : "SportsHouse" ≠ "java/lang/invoke/MethodHandle" ∧ "SportsHouse" ≠ "java/lang/invoke/VarHandle" := ⟨by decide +kernel, by decide +kernel⟩
theorem nmh_1 : "SportsHouseModel" ≠ "java/lang/invoke/MethodHandle" ∧ "SportsHouseModel" ≠ "java/lang/invoke/VarHandle" := ⟨by decide +kernel, by decide +kernel⟩
theorem nmh_2 : "SportsHouse$Lots" ≠ "java/lang/invoke/MethodHandle" ∧ "SportsHouse$Lots" ≠ "java/lang/invoke/VarHandle" := ⟨by decide +kernel, by decide +kernel⟩
theorem nmh_3 : "SportsHouse$Play" ≠ "java/lang/invoke/MethodHandle" ∧ "SportsHouse$Play" ≠ "java/lang/invoke/VarHandle" := ⟨by decide +kernel, by decide +kernel⟩
theorem nmh_4 : "SportsHouse$Referees" ≠ "java/lang/invoke/MethodHandle" ∧ "SportsHouse$Referees" ≠ "java/lang/invoke/VarHandle" := ⟨by decide +kernel, by decide +kernel⟩
theorem nmh_5 : "SportsHouse$RuleText" ≠ "java/lang/invoke/MethodHandle" ∧ "SportsHouse$RuleText" ≠ "java/lang/invoke/VarHandle" := ⟨by decide +kernel, by decide +kernel⟩
theorem nmh_6 : "SportsHouse$Season" ≠ "java/lang/invoke/MethodHandle" ∧ "SportsHouse$Season" ≠ "java/lang/invoke/VarHandle" := ⟨by decide +kernel, by decide +kernel⟩
theorem nmh_7 : "SportsHouse$Standings" ≠ "java/lang/invoke/MethodHandle" ∧ "SportsHouse$Standings" ≠ "java/lang/invoke/VarHandle" := ⟨by decide +kernel, by decide +kernel⟩
theorem nmh_8 : "SportsHouse$Title" ≠ "java/lang/invoke/MethodHandle" ∧ "SportsHouse$Title" ≠ "java/lang/invoke/VarHandle" := ⟨by decide +kernel, by decide +kernel⟩
theorem nmh_9 : "SportsHouse$Things" ≠ "java/lang/invoke/MethodHandle" ∧ "SportsHouse$Things" ≠ "java/lang/invoke/VarHandle" := ⟨by decide +kernel, by decide +kernel⟩
theorem nmh_10 : "SportsHouse$Match" ≠ "java/lang/invoke/MethodHandle" ∧ "SportsHouse$Match" ≠ "java/lang/invoke/VarHandle" := ⟨by decide +kernel, by decide +kernel⟩
theorem nmh_11 : "SportsHouse$Competition" ≠ "java/lang/invoke/MethodHandle" ∧ "SportsHouse$Competition" ≠ "java/lang/invoke/VarHandle" := ⟨by decide +kernel, by decide +kernel⟩
theorem pdq_0 : (parseMethodDescriptor "(II)V").map (fun d => d.parameters.length) = some 2 := by decide +kernel
theorem pdq_1 : (parseMethodDescriptor "()V").map (fun d => d.parameters.length) = some 0 := by decide +kernel
theorem pdq_2 : (parseMethodDescriptor "([I)I").map (fun d => d.parameters.length) = some 1 := by decide +kernel
theorem pdq_3 : (parseMethodDescriptor "(III)V").map (fun d => d.parameters.length) = some 3 := by decide +kernel
theorem pdq_4 : (parseMethodDescriptor "(II)I").map (fun d => d.parameters.length) = some 2 := by decide +kernel
theorem pdq_5 : (parseMethodDescriptor "(II)Z").map (fun d => d.parameters.length) = some 2 := by decide +kernel
theorem pdq_6 : (parseMethodDescriptor "(IIIII)V").map (fun d => d.parameters.length) = some 5 := by decide +kernel
theorem pdq_7 : (parseMethodDescriptor "(I)Z").map (fun d => d.parameters.length) = some 1 := by decide +kernel
theorem pdq_8 : (parseMethodDescriptor "(III)I").map (fun d => d.parameters.length) = some 3 := by decide +kernel
theorem pdq_9 : (parseMethodDescriptor "(I)V").map (fun d => d.parameters.length) = some 1 := by decide +kernel
theorem pdq_10 : (parseMethodDescriptor "(IIII)Z").map (fun d => d.parameters.length) = some 4 := by decide +kernel
theorem pdq_11 : (parseMethodDescriptor "(III)Z").map (fun d => d.parameters.length) = some 3 := by decide +kernel
theorem pdq_12 : (parseMethodDescriptor "(IIII)V").map (fun d => d.parameters.length) = some 4 := by decide +kernel
theorem pdq_13 : (parseMethodDescriptor "(IIIII)I").map (fun d => d.parameters.length) = some 5 := by decide +kernel
theorem pdq_14 : (parseMethodDescriptor "(IIZ)V").map (fun d => d.parameters.length) = some 3 := by decide +kernel
theorem pdq_15 : (parseMethodDescriptor "(I)I").map (fun d => d.parameters.length) = some 1 := by decide +kernel
theorem pdq_16 : (parseMethodDescriptor "(IIIZ)I").map (fun d => d.parameters.length) = some 4 := by decide +kernel
theorem pdq_17 : (parseMethodDescriptor "()I").map (fun d => d.parameters.length) = some 0 := by decide +kernel
theorem pdq_18 : (parseMethodDescriptor "()Z").map (fun d => d.parameters.length) = some 0 := by decide +kernel
theorem pdq_19 : (parseMethodDescriptor "(II)J").map (fun d => d.parameters.length) = some 2 := by decide +kernel
theorem pdq_20 : (parseMethodDescriptor "(III)J").map (fun d => d.parameters.length) = some 3 := by decide +kernel
theorem pdq_21 : (parseMethodDescriptor "(ILSportsHouse$Match;)I").map (fun d => d.parameters.length) = some 2 := by decide +kernel
theorem pdq_22 : (parseMethodDescriptor "(ILSportsHouse$Match;)Z").map (fun d => d.parameters.length) = some 2 := by decide +kernel
theorem pdq_23 : (parseMethodDescriptor "(ILSportsHouse$Match;I)I").map (fun d => d.parameters.length) = some 3 := by decide +kernel
theorem pdq_24 : (parseMethodDescriptor "(LSportsHouse$Competition;I)I").map (fun d => d.parameters.length) = some 2 := by decide +kernel
theorem pdq_25 : (parseMethodDescriptor "(LSportsHouse$Match;LSportsHouse$Match;)Z").map (fun d => d.parameters.length) = some 2 := by decide +kernel
theorem pdq_26 : (parseMethodDescriptor "(LSportsHouse$Match;)V").map (fun d => d.parameters.length) = some 1 := by decide +kernel
theorem pdq_27 : (parseMethodDescriptor "(LSportsHouse$Match;II)Z").map (fun d => d.parameters.length) = some 3 := by decide +kernel
theorem pdq_28 : (parseMethodDescriptor "(LSportsHouse$Match;)I").map (fun d => d.parameters.length) = some 1 := by decide +kernel
theorem pdq_29 : (parseMethodDescriptor "(LSportsHouse$Match;I)I").map (fun d => d.parameters.length) = some 2 := by decide +kernel
theorem pdq_30 : (parseMethodDescriptor "(LSportsHouse$Match;II)V").map (fun d => d.parameters.length) = some 3 := by decide +kernel
theorem pdq_31 : (parseMethodDescriptor "(LSportsHouse$Competition;I)V").map (fun d => d.parameters.length) = some 2 := by decide +kernel
theorem pdq_32 : (parseMethodDescriptor "(IIII)I").map (fun d => d.parameters.length) = some 4 := by decide +kernel
theorem pdq_33 : (parseMethodDescriptor "(IIIII)Z").map (fun d => d.parameters.length) = some 5 := by decide +kernel
theorem pdq_34 : (parseMethodDescriptor "(LSportsHouse$Competition;IIII)V").map (fun d => d.parameters.length) = some 5 := by decide +kernel
theorem pdq_35 : (parseMethodDescriptor "(LSportsHouse$Competition;IIZI)V").map (fun d => d.parameters.length) = some 5 := by decide +kernel
theorem pdq_36 : (parseMethodDescriptor "(LSportsHouse$Match;II)I").map (fun d => d.parameters.length) = some 3 := by decide +kernel
theorem pdq_37 : (parseMethodDescriptor "(LSportsHouse$Match;III)I").map (fun d => d.parameters.length) = some 4 := by decide +kernel
theorem pdq_38 : (parseMethodDescriptor "(Ljava/lang/String;)I").map (fun d => d.parameters.length) = some 1 := by decide +kernel
theorem pdq_39 : (parseMethodDescriptor "(IIIIII)I").map (fun d => d.parameters.length) = some 6 := by decide +kernel
theorem pdq_40 : (parseMethodDescriptor "(IZ)I").map (fun d => d.parameters.length) = some 2 := by decide +kernel
-- eight at a time
def dqa_ : List Cond → List Cond
  | _ :: _ :: _ :: _ :: _ :: _ :: _ :: _ :: t => t
  | _ => []
theorem dqa_m {w : Cond} : ∀ {l : List Cond}, w ∈ dqa_ l → w ∈ l
  | _ :: _ :: _ :: _ :: _ :: _ :: _ :: _ :: t, h => List.mem_cons_of_mem _ (List.mem_cons_of_mem _ (List.mem_cons_of_mem _ (List.mem_cons_of_mem _ (List.mem_cons_of_mem _ (List.mem_cons_of_mem _ (List.mem_cons_of_mem _ (List.mem_cons_of_mem _ h)))))))
  | [], h => absurd (show w ∈ ([] : List Cond) from h) List.not_mem_nil
  | [_], h => absurd (show w ∈ ([] : List Cond) from h) List.not_mem_nil
  | [_, _], h => absurd (show w ∈ ([] : List Cond) from h) List.not_mem_nil
  | [_, _, _], h => absurd (show w ∈ ([] : List Cond) from h) List.not_mem_nil
  | [_, _, _, _], h => absurd (show w ∈ ([] : List Cond) from h) List.not_mem_nil
  | [_, _, _, _, _], h => absurd (show w ∈ ([] : List Cond) from h) List.not_mem_nil
  | [_, _, _, _, _, _], h => absurd (show w ∈ ([] : List Cond) from h) List.not_mem_nil
  | [_, _, _, _, _, _, _], h => absurd (show w ∈ ([] : List Cond) from h) List.not_mem_nil
def dqc_ (l : List Cond) : List Cond := dqa_ (dqa_ (dqa_ (dqa_ l)))
theorem dqc_m {w : Cond} {l : List Cond} (h : w ∈ dqc_ l) : w ∈ l := dqa_m (dqa_m (dqa_m (dqa_m h)))
-- the pieces of the tables
theorem lt_b1 {w : Cond} (h : w ∈ tables_1_1) : w ∈ tables_1 := by
  unfold tables_1
  exact List.mem_append_left _ h
theorem lt_b2 {w : Cond} (h : w ∈ tables_1_2) : w ∈ tables_1 := by
  unfold tables_1
  exact List.mem_append_right _ (List.mem_append_left _ h)
theorem lt_b3 {w : Cond} (h : w ∈ tables_1_3) : w ∈ tables_1 := by
  unfold tables_1
  exact List.mem_append_right _ (List.mem_append_right _ (List.mem_append_left _ h))
theorem lt_b4 {w : Cond} (h : w ∈ tables_1_4) : w ∈ tables_1 := by
  unfold tables_1
  exact List.mem_append_right _ (List.mem_append_right _ (List.mem_append_right _ (List.mem_append_left _ h)))
theorem lt_b5 {w : Cond} (h : w ∈ tables_1_5) : w ∈ tables_1 := by
  unfold tables_1
  exact List.mem_append_right _ (List.mem_append_right _ (List.mem_append_right _ (List.mem_append_right _ (List.mem_append_left _ h))))
theorem lt_b6 {w : Cond} (h : w ∈ tables_1_6) : w ∈ tables_1 := by
  unfold tables_1
  exact List.mem_append_right _ (List.mem_append_right _ (List.mem_append_right _ (List.mem_append_right _ (List.mem_append_right _ (List.mem_append_left _ h)))))
theorem lt_b7 {w : Cond} (h : w ∈ tables_1_7) : w ∈ tables_1 := by
  unfold tables_1
  exact List.mem_append_right _ (List.mem_append_right _ (List.mem_append_right _ (List.mem_append_right _ (List.mem_append_right _ (List.mem_append_right _ (List.mem_append_left _ h))))))
theorem lt_b8 {w : Cond} (h : w ∈ tables_1_8) : w ∈ tables_1 := by
  unfold tables_1
  exact List.mem_append_right _ (List.mem_append_right _ (List.mem_append_right _ (List.mem_append_right _ (List.mem_append_right _ (List.mem_append_right _ (List.mem_append_right _ (List.mem_append_left _ h)))))))
theorem lt_b9 {w : Cond} (h : w ∈ tables_1_9) : w ∈ tables_1 := by
  unfold tables_1
  exact List.mem_append_right _ (List.mem_append_right _ (List.mem_append_right _ (List.mem_append_right _ (List.mem_append_right _ (List.mem_append_right _ (List.mem_append_right _ (List.mem_append_right _ (List.mem_append_left _ h))))))))
theorem lt_b10 {w : Cond} (h : w ∈ tables_1_10) : w ∈ tables_1 := by
  unfold tables_1
  exact List.mem_append_right _ (List.mem_append_right _ (List.mem_append_right _ (List.mem_append_right _ (List.mem_append_right _ (List.mem_append_right _ (List.mem_append_right _ (List.mem_append_right _ (List.mem_append_right _ (h)))))))))
theorem imq_0 : Cond.instantiable "SportsHouse" 7 ∈ tables_1 := (lt_b1 (dqa_m (dqa_m (List.mem_of_getElem? (i := 6) rfl))))
theorem imq_1 : Cond.instantiable "SportsHouseModel" 114 ∈ tables_1 := (lt_b6 (dqc_m (dqc_m (dqc_m (dqc_m (dqc_m (dqc_m (dqa_m (dqa_m (dqa_m (List.mem_of_getElem? (i := 6) rfl)))))))))))
theorem imq_2 : Cond.instantiable "SportsHouse$Lots" 16 ∈ tables_1 := (lt_b2 (dqc_m (dqc_m (dqa_m (dqa_m (List.mem_of_getElem? (i := 1) rfl))))))
theorem imq_3 : Cond.instantiable "SportsHouse$Play" 18 ∈ tables_1 := (lt_b4 (dqc_m (dqc_m (dqc_m (dqc_m (dqc_m (dqa_m (dqa_m (List.mem_of_getElem? (i := 4) rfl)))))))))
theorem imq_4 : Cond.instantiable "SportsHouse$Referees" 5 ∈ tables_1 := (lt_b2 (dqc_m (dqc_m (dqc_m (dqc_m (dqa_m (dqa_m (List.mem_of_getElem? (i := 0) rfl))))))))
theorem imq_5 : Cond.instantiable "SportsHouse$RuleText" 10 ∈ tables_1 := (lt_b1 (dqa_m (dqa_m (dqa_m (List.mem_of_getElem? (i := 6) rfl)))))
theorem imq_6 : Cond.instantiable "SportsHouse$Season" 16 ∈ tables_1 := (lt_b1 (dqc_m (dqc_m (dqc_m (dqc_m (dqa_m (List.mem_of_getElem? (i := 1) rfl)))))))
theorem imq_7 : Cond.instantiable "SportsHouse$Standings" 14 ∈ tables_1 := (lt_b1 (dqc_m (dqc_m (dqc_m (dqc_m (dqc_m (dqc_m (dqa_m (List.mem_of_getElem? (i := 6) rfl)))))))))
theorem imq_8 : Cond.instantiable "SportsHouse$Title" 16 ∈ tables_1 := (lt_b2 (dqa_m (dqa_m (List.mem_of_getElem? (i := 4) rfl))))
/-- a private method of a class that the tables say can be made, by its rows of tables_1 -/
def lw_okq (q : MethodName × Nat) : Prop := (q.1.cls ≠ "java/lang/invoke/MethodHandle" ∧ q.1.cls ≠ "java/lang/invoke/VarHandle") ∧ Cond.instantiable q.1.cls q.2 ∈ tables_1 ∧ Cond.privateMethod q.1 ∈ tables_1 ∧ Cond.instanceMethod q.1 ∈ tables_1
theorem lw_p0 : lw_okq (⟨"SportsHouse", "isClub", "(I)Z"⟩, 7) := ⟨nmh_0, imq_0, (lt_b3 (dqc_m (dqc_m (dqc_m (dqc_m (dqc_m (List.mem_of_getElem? (i := 6) rfl))))))), (lt_b3 (dqc_m (dqc_m (dqc_m (dqc_m (dqc_m (List.mem_of_getElem? (i := 7) rfl)))))))⟩
theorem lw_p1 : lw_okq (⟨"SportsHouse", "isCompetition", "(I)Z"⟩, 7) := ⟨nmh_0, imq_0, (lt_b3 (dqc_m (dqc_m (dqc_m (dqc_m (dqa_m (List.mem_of_getElem? (i := 7) rfl))))))), (lt_b3 (dqc_m (dqc_m (dqc_m (dqc_m (dqa_m (dqa_m (List.mem_of_getElem? (i := 0) rfl))))))))⟩
theorem lw_p2 : lw_okq (⟨"SportsHouse", "isMatch", "(I)Z"⟩, 7) := ⟨nmh_0, imq_0, (lt_b4 (dqc_m (dqa_m (dqa_m (List.mem_of_getElem? (i := 6) rfl))))), (lt_b4 (dqc_m (dqa_m (dqa_m (List.mem_of_getElem? (i := 7) rfl)))))⟩
theorem lw_p3 : lw_okq (⟨"SportsHouse", "isPerson", "(I)Z"⟩, 7) := ⟨nmh_0, imq_0, (lt_b3 (dqc_m (dqc_m (dqc_m (dqc_m (dqc_m (List.mem_of_getElem? (i := 2) rfl))))))), (lt_b3 (dqc_m (dqc_m (dqc_m (dqc_m (dqc_m (List.mem_of_getElem? (i := 3) rfl)))))))⟩
theorem lw_p4 : lw_okq (⟨"SportsHouseModel", "addMatch", "(IIIII)V"⟩, 114) := ⟨nmh_1, imq_1, (lt_b8 (dqc_m (dqc_m (dqc_m (dqc_m (dqc_m (dqc_m (List.mem_of_getElem? (i := 0) rfl)))))))), (lt_b8 (dqc_m (dqc_m (dqc_m (dqc_m (dqc_m (dqc_m (List.mem_of_getElem? (i := 1) rfl))))))))⟩
theorem lw_p5 : lw_okq (⟨"SportsHouseModel", "addScore", "(III)V"⟩, 114) := ⟨nmh_1, imq_1, (lt_b9 (dqc_m (dqc_m (dqa_m (dqa_m (List.mem_of_getElem? (i := 3) rfl)))))), (lt_b9 (dqc_m (dqc_m (dqa_m (dqa_m (List.mem_of_getElem? (i := 4) rfl))))))⟩
theorem lw_p6 : lw_okq (⟨"SportsHouseModel", "advance", "(IIII)V"⟩, 114) := ⟨nmh_1, imq_1, (lt_b9 (dqc_m (dqc_m (dqc_m (dqa_m (dqa_m (List.mem_of_getElem? (i := 7) rfl))))))), (lt_b9 (dqc_m (dqc_m (dqc_m (dqa_m (dqa_m (dqa_m (List.mem_of_getElem? (i := 0) rfl))))))))⟩
theorem lw_p7 : lw_okq (⟨"SportsHouseModel", "bad", "(II)V"⟩, 114) := ⟨nmh_1, imq_1, (lt_b8 (dqc_m (dqc_m (dqc_m (dqa_m (dqa_m (List.mem_of_getElem? (i := 6) rfl))))))), (lt_b8 (dqc_m (dqc_m (dqc_m (dqa_m (dqa_m (List.mem_of_getElem? (i := 7) rfl)))))))⟩
theorem lw_p8 : lw_okq (⟨"SportsHouseModel", "canEven", "(III)I"⟩, 114) := ⟨nmh_1, imq_1, (lt_b10 (List.mem_of_getElem? (i := 1) rfl)), (lt_b10 (List.mem_of_getElem? (i := 2) rfl))⟩
theorem lw_p9 : lw_okq (⟨"SportsHouseModel", "canTry", "(II)I"⟩, 114) := ⟨nmh_1, imq_1, (lt_b10 (dqa_m (dqa_m (List.mem_of_getElem? (i := 4) rfl)))), (lt_b10 (dqa_m (dqa_m (List.mem_of_getElem? (i := 5) rfl))))⟩
theorem lw_p10 : lw_okq (⟨"SportsHouseModel", "chanceOf", "(II)I"⟩, 114) := ⟨nmh_1, imq_1, (lt_b10 (dqc_m (dqc_m (List.mem_of_getElem? (i := 4) rfl)))), (lt_b10 (dqc_m (dqc_m (List.mem_of_getElem? (i := 5) rfl))))⟩
theorem lw_p11 : lw_okq (⟨"SportsHouseModel", "clubOf", "(II)I"⟩, 114) := ⟨nmh_1, imq_1, (lt_b8 (dqc_m (dqc_m (dqc_m (dqc_m (dqc_m (dqc_m (dqc_m (dqa_m (List.mem_of_getElem? (i := 4) rfl)))))))))), (lt_b8 (dqc_m (dqc_m (dqc_m (dqc_m (dqc_m (dqc_m (dqc_m (dqa_m (List.mem_of_getElem? (i := 5) rfl))))))))))⟩
theorem lw_p12 : lw_okq (⟨"SportsHouseModel", "compareClubs", "(II)I"⟩, 114) := ⟨nmh_1, imq_1, (lt_b9 (dqc_m (dqc_m (dqc_m (dqc_m (dqc_m (dqc_m (dqa_m (dqa_m (List.mem_of_getElem? (i := 1) rfl)))))))))), (lt_b9 (dqc_m (dqc_m (dqc_m (dqc_m (dqc_m (dqc_m (dqa_m (dqa_m (List.mem_of_getElem? (i := 2) rfl))))))))))⟩
theorem lw_p13 : lw_okq (⟨"SportsHouseModel", "countLeft", "(I)V"⟩, 114) := ⟨nmh_1, imq_1, (lt_b9 (dqc_m (dqc_m (dqc_m (dqc_m (dqc_m (dqc_m (dqc_m (List.mem_of_getElem? (i := 5) rfl))))))))), (lt_b9 (dqc_m (dqc_m (dqc_m (dqc_m (dqc_m (dqc_m (dqc_m (List.mem_of_getElem? (i := 6) rfl)))))))))⟩
theorem lw_p14 : lw_okq (⟨"SportsHouseModel", "countWays", "(II)I"⟩, 114) := ⟨nmh_1, imq_1, (lt_b10 (dqc_m (dqa_m (dqa_m (dqa_m (List.mem_of_getElem? (i := 0) rfl)))))), (lt_b10 (dqc_m (dqa_m (dqa_m (dqa_m (List.mem_of_getElem? (i := 1) rfl))))))⟩
theorem lw_p15 : lw_okq (⟨"SportsHouseModel", "counts", "(II)Z"⟩, 114) := ⟨nmh_1, imq_1, (lt_b9 (dqc_m (dqc_m (dqc_m (dqc_m (dqc_m (dqa_m (List.mem_of_getElem? (i := 3) rfl)))))))), (lt_b9 (dqc_m (dqc_m (dqc_m (dqc_m (dqc_m (dqa_m (List.mem_of_getElem? (i := 4) rfl))))))))⟩
theorem lw_p16 : lw_okq (⟨"SportsHouseModel", "distanceOf", "(II)I"⟩, 114) := ⟨nmh_1, imq_1, (lt_b10 (dqc_m (dqc_m (dqc_m (List.mem_of_getElem? (i := 3) rfl))))), (lt_b10 (dqc_m (dqc_m (dqc_m (List.mem_of_getElem? (i := 4) rfl)))))⟩
theorem lw_p17 : lw_okq (⟨"SportsHouseModel", "fairOf", "(I)I"⟩, 114) := ⟨nmh_1, imq_1, (lt_b9 (dqc_m (dqc_m (dqc_m (dqc_m (dqc_m (dqa_m (dqa_m (List.mem_of_getElem? (i := 3) rfl))))))))), (lt_b9 (dqc_m (dqc_m (dqc_m (dqc_m (dqc_m (dqa_m (dqa_m (List.mem_of_getElem? (i := 4) rfl)))))))))⟩
theorem lw_p18 : lw_okq (⟨"SportsHouseModel", "findPaths", "(II)V"⟩, 114) := ⟨nmh_1, imq_1, (lt_b10 (dqc_m (dqc_m (dqa_m (dqa_m (dqa_m (List.mem_of_getElem? (i := 7) rfl))))))), (lt_b10 (dqc_m (dqc_m (dqc_m (List.mem_of_getElem? (i := 0) rfl)))))⟩
theorem lw_p19 : lw_okq (⟨"SportsHouseModel", "hasEntered", "(II)Z"⟩, 114) := ⟨nmh_1, imq_1, (lt_b8 (dqc_m (dqc_m (dqc_m (dqc_m (dqc_m (dqa_m (dqa_m (dqa_m (List.mem_of_getElem? (i := 0) rfl)))))))))), (lt_b8 (dqc_m (dqc_m (dqc_m (dqc_m (dqc_m (dqa_m (dqa_m (dqa_m (List.mem_of_getElem? (i := 1) rfl))))))))))⟩
theorem lw_p20 : lw_okq (⟨"SportsHouseModel", "hit", "(III)V"⟩, 114) := ⟨nmh_1, imq_1, (lt_b9 (dqc_m (dqc_m (dqc_m (dqa_m (dqa_m (List.mem_of_getElem? (i := 3) rfl))))))), (lt_b9 (dqc_m (dqc_m (dqc_m (dqa_m (dqa_m (List.mem_of_getElem? (i := 4) rfl)))))))⟩
theorem lw_p21 : lw_okq (⟨"SportsHouseModel", "isAhead", "(II)Z"⟩, 114) := ⟨nmh_1, imq_1, (lt_b9 (dqa_m (List.mem_of_getElem? (i := 0) rfl))), (lt_b9 (dqa_m (List.mem_of_getElem? (i := 1) rfl)))⟩
theorem lw_p22 : lw_okq (⟨"SportsHouseModel", "isBanned", "(II)Z"⟩, 114) := ⟨nmh_1, imq_1, (lt_b9 (List.mem_of_getElem? (i := 0) rfl)), (lt_b9 (List.mem_of_getElem? (i := 1) rfl))⟩
theorem lw_p23 : lw_okq (⟨"SportsHouseModel", "isElsewhere", "(II)Z"⟩, 114) := ⟨nmh_1, imq_1, (lt_b9 (dqa_m (dqa_m (List.mem_of_getElem? (i := 0) rfl)))), (lt_b9 (dqa_m (dqa_m (List.mem_of_getElem? (i := 1) rfl))))⟩
theorem lw_p24 : lw_okq (⟨"SportsHouseModel", "isInDraw", "(I)Z"⟩, 114) := ⟨nmh_1, imq_1, (lt_b10 (dqc_m (dqa_m (dqa_m (List.mem_of_getElem? (i := 0) rfl))))), (lt_b10 (dqc_m (dqa_m (dqa_m (List.mem_of_getElem? (i := 1) rfl)))))⟩
theorem lw_p25 : lw_okq (⟨"SportsHouseModel", "isKind", "(II)Z"⟩, 114) := ⟨nmh_1, imq_1, (lt_b9 (dqc_m (dqa_m (dqa_m (List.mem_of_getElem? (i := 0) rfl))))), (lt_b9 (dqc_m (dqa_m (dqa_m (List.mem_of_getElem? (i := 1) rfl)))))⟩
theorem lw_p26 : lw_okq (⟨"SportsHouseModel", "isLeft", "(I)Z"⟩, 114) := ⟨nmh_1, imq_1, (lt_b9 (dqc_m (dqc_m (dqc_m (dqc_m (dqc_m (dqc_m (dqc_m (dqa_m (List.mem_of_getElem? (i := 1) rfl)))))))))), (lt_b9 (dqc_m (dqc_m (dqc_m (dqc_m (dqc_m (dqc_m (dqc_m (dqa_m (List.mem_of_getElem? (i := 2) rfl))))))))))⟩
theorem lw_p27 : lw_okq (⟨"SportsHouseModel", "isRowWell", "(III)Z"⟩, 114) := ⟨nmh_1, imq_1, (lt_b10 (dqa_m (dqa_m (dqa_m (List.mem_of_getElem? (i := 0) rfl))))), (lt_b10 (dqa_m (dqa_m (dqa_m (List.mem_of_getElem? (i := 1) rfl)))))⟩
theorem lw_p28 : lw_okq (⟨"SportsHouseModel", "isTold", "(III)Z"⟩, 114) := ⟨nmh_1, imq_1, (lt_b9 (dqc_m (dqa_m (List.mem_of_getElem? (i := 4) rfl)))), (lt_b9 (dqc_m (dqa_m (List.mem_of_getElem? (i := 5) rfl))))⟩
theorem lw_p29 : lw_okq (⟨"SportsHouseModel", "lawOf", "(IIIII)I"⟩, 114) := ⟨nmh_1, imq_1, (lt_b9 (dqc_m (dqa_m (List.mem_of_getElem? (i := 0) rfl)))), (lt_b9 (dqc_m (dqa_m (List.mem_of_getElem? (i := 1) rfl))))⟩
theorem lw_p30 : lw_okq (⟨"SportsHouseModel", "lay", "(III)V"⟩, 114) := ⟨nmh_1, imq_1, (lt_b9 (dqc_m (dqc_m (dqc_m (dqc_m (dqc_m (dqa_m (dqa_m (List.mem_of_getElem? (i := 7) rfl))))))))), (lt_b9 (dqc_m (dqc_m (dqc_m (dqc_m (dqc_m (dqa_m (dqa_m (dqa_m (List.mem_of_getElem? (i := 0) rfl))))))))))⟩
theorem lw_p31 : lw_okq (⟨"SportsHouseModel", "layBeginning", "(I)V"⟩, 114) := ⟨nmh_1, imq_1, (lt_b9 (dqa_m (dqa_m (dqa_m (List.mem_of_getElem? (i := 4) rfl))))), (lt_b9 (dqa_m (dqa_m (dqa_m (List.mem_of_getElem? (i := 5) rfl)))))⟩
theorem lw_p32 : lw_okq (⟨"SportsHouseModel", "layBetween", "(II)V"⟩, 114) := ⟨nmh_1, imq_1, (lt_b10 (List.mem_of_getElem? (i := 5) rfl)), (lt_b10 (List.mem_of_getElem? (i := 6) rfl))⟩
theorem lw_p33 : lw_okq (⟨"SportsHouseModel", "layDefaults", "()V"⟩, 114) := ⟨nmh_1, imq_1, (lt_b8 (dqc_m (dqc_m (dqc_m (dqa_m (List.mem_of_getElem? (i := 3) rfl)))))), (lt_b8 (dqc_m (dqc_m (dqc_m (dqa_m (List.mem_of_getElem? (i := 4) rfl))))))⟩
theorem lw_p34 : lw_okq (⟨"SportsHouseModel", "laySlack", "(I)I"⟩, 114) := ⟨nmh_1, imq_1, (lt_b10 (dqa_m (List.mem_of_getElem? (i := 1) rfl))), (lt_b10 (dqa_m (List.mem_of_getElem? (i := 2) rfl)))⟩
theorem lw_p35 : lw_okq (⟨"SportsHouseModel", "liveOf", "(II)I"⟩, 114) := ⟨nmh_1, imq_1, (lt_b9 (dqc_m (dqa_m (dqa_m (List.mem_of_getElem? (i := 4) rfl))))), (lt_b9 (dqc_m (dqa_m (dqa_m (List.mem_of_getElem? (i := 5) rfl)))))⟩
theorem lw_p36 : lw_okq (⟨"SportsHouseModel", "matchRest", "(II)V"⟩, 114) := ⟨nmh_1, imq_1, (lt_b10 (dqc_m (dqc_m (dqa_m (dqa_m (dqa_m (List.mem_of_getElem? (i := 3) rfl))))))), (lt_b10 (dqc_m (dqc_m (dqa_m (dqa_m (dqa_m (List.mem_of_getElem? (i := 4) rfl)))))))⟩
theorem lw_p37 : lw_okq (⟨"SportsHouseModel", "mayLead", "(II)Z"⟩, 114) := ⟨nmh_1, imq_1, (lt_b10 (dqc_m (dqc_m (dqc_m (List.mem_of_getElem? (i := 7) rfl))))), (lt_b10 (dqc_m (dqc_m (dqc_m (dqa_m (List.mem_of_getElem? (i := 0) rfl))))))⟩
theorem lw_p38 : lw_okq (⟨"SportsHouseModel", "mayStand", "(II)Z"⟩, 114) := ⟨nmh_1, imq_1, (lt_b10 (dqc_m (dqa_m (dqa_m (dqa_m (List.mem_of_getElem? (i := 4) rfl)))))), (lt_b10 (dqc_m (dqa_m (dqa_m (dqa_m (List.mem_of_getElem? (i := 5) rfl))))))⟩
theorem lw_p39 : lw_okq (⟨"SportsHouseModel", "nextMatch", "(III)I"⟩, 114) := ⟨nmh_1, imq_1, (lt_b9 (List.mem_of_getElem? (i := 4) rfl)), (lt_b9 (List.mem_of_getElem? (i := 5) rfl))⟩
theorem lw_p40 : lw_okq (⟨"SportsHouseModel", "nothingAgainst", "(I)Z"⟩, 114) := ⟨nmh_1, imq_1, (lt_b8 (dqc_m (dqc_m (dqc_m (dqc_m (dqc_m (dqc_m (dqa_m (dqa_m (dqa_m (List.mem_of_getElem? (i := 0) rfl))))))))))), (lt_b8 (dqc_m (dqc_m (dqc_m (dqc_m (dqc_m (dqc_m (dqa_m (dqa_m (dqa_m (List.mem_of_getElem? (i := 1) rfl)))))))))))⟩
theorem lw_p41 : lw_okq (⟨"SportsHouseModel", "orderAll", "(II)V"⟩, 114) := ⟨nmh_1, imq_1, (lt_b9 (dqc_m (dqc_m (dqc_m (dqc_m (dqc_m (List.mem_of_getElem? (i := 3) rfl))))))), (lt_b9 (dqc_m (dqc_m (dqc_m (dqc_m (dqc_m (List.mem_of_getElem? (i := 4) rfl)))))))⟩
theorem lw_p42 : lw_okq (⟨"SportsHouseModel", "orderPart", "(IIIII)V"⟩, 114) := ⟨nmh_1, imq_1, (lt_b9 (dqc_m (dqc_m (dqc_m (dqc_m (dqc_m (dqa_m (dqa_m (dqa_m (List.mem_of_getElem? (i := 3) rfl)))))))))), (lt_b9 (dqc_m (dqc_m (dqc_m (dqc_m (dqc_m (dqa_m (dqa_m (dqa_m (List.mem_of_getElem? (i := 4) rfl))))))))))⟩
theorem lw_p43 : lw_okq (⟨"SportsHouseModel", "othersOf", "(II)I"⟩, 114) := ⟨nmh_1, imq_1, (lt_b9 (dqc_m (dqc_m (dqc_m (dqc_m (dqc_m (dqc_m (dqc_m (dqa_m (List.mem_of_getElem? (i := 5) rfl)))))))))), (lt_b9 (dqc_m (dqc_m (dqc_m (dqc_m (dqc_m (dqc_m (dqc_m (dqa_m (List.mem_of_getElem? (i := 6) rfl))))))))))⟩
theorem lw_p44 : lw_okq (⟨"SportsHouseModel", "out", "(I)V"⟩, 114) := ⟨nmh_1, imq_1, (lt_b9 (dqc_m (dqc_m (dqc_m (dqa_m (dqa_m (dqa_m (List.mem_of_getElem? (i := 7) rfl)))))))), (lt_b9 (dqc_m (dqc_m (dqc_m (dqc_m (List.mem_of_getElem? (i := 0) rfl))))))⟩
theorem lw_p45 : lw_okq (⟨"SportsHouseModel", "placeOf", "(I)I"⟩, 114) := ⟨nmh_1, imq_1, (lt_b9 (dqc_m (dqc_m (dqc_m (dqc_m (dqc_m (dqc_m (dqa_m (dqa_m (List.mem_of_getElem? (i := 5) rfl)))))))))), (lt_b9 (dqc_m (dqc_m (dqc_m (dqc_m (dqc_m (dqc_m (dqa_m (dqa_m (List.mem_of_getElem? (i := 6) rfl))))))))))⟩
theorem lw_p46 : lw_okq (⟨"SportsHouseModel", "play", "(IIIII)V"⟩, 114) := ⟨nmh_1, imq_1, (lt_b9 (dqc_m (dqc_m (List.mem_of_getElem? (i := 7) rfl)))), (lt_b9 (dqc_m (dqc_m (dqa_m (List.mem_of_getElem? (i := 0) rfl)))))⟩
theorem lw_p47 : lw_okq (⟨"SportsHouseModel", "playAnew", "(I)I"⟩, 114) := ⟨nmh_1, imq_1, (lt_b9 (dqc_m (dqc_m (dqc_m (dqc_m (dqa_m (List.mem_of_getElem? (i := 3) rfl))))))), (lt_b9 (dqc_m (dqc_m (dqc_m (dqc_m (dqa_m (List.mem_of_getElem? (i := 4) rfl)))))))⟩
theorem lw_p48 : lw_okq (⟨"SportsHouseModel", "playBaseball", "(IIII)V"⟩, 114) := ⟨nmh_1, imq_1, (lt_b9 (dqc_m (dqc_m (dqc_m (dqa_m (List.mem_of_getElem? (i := 7) rfl)))))), (lt_b9 (dqc_m (dqc_m (dqc_m (dqa_m (dqa_m (List.mem_of_getElem? (i := 0) rfl)))))))⟩
theorem lw_p49 : lw_okq (⟨"SportsHouseModel", "playFootball", "(IIIII)V"⟩, 114) := ⟨nmh_1, imq_1, (lt_b9 (dqc_m (dqc_m (dqa_m (List.mem_of_getElem? (i := 3) rfl))))), (lt_b9 (dqc_m (dqc_m (dqa_m (List.mem_of_getElem? (i := 4) rfl)))))⟩
theorem lw_p50 : lw_okq (⟨"SportsHouseModel", "playTennis", "(III)V"⟩, 114) := ⟨nmh_1, imq_1, (lt_b9 (dqc_m (dqc_m (dqc_m (dqa_m (List.mem_of_getElem? (i := 3) rfl)))))), (lt_b9 (dqc_m (dqc_m (dqc_m (dqa_m (List.mem_of_getElem? (i := 4) rfl))))))⟩
theorem lw_p51 : lw_okq (⟨"SportsHouseModel", "playVolleyball", "(IIIII)V"⟩, 114) := ⟨nmh_1, imq_1, (lt_b9 (dqc_m (dqc_m (dqa_m (dqa_m (dqa_m (List.mem_of_getElem? (i := 7) rfl))))))), (lt_b9 (dqc_m (dqc_m (dqc_m (List.mem_of_getElem? (i := 0) rfl)))))⟩
theorem lw_p52 : lw_okq (⟨"SportsHouseModel", "putBehind", "(IIZ)V"⟩, 114) := ⟨nmh_1, imq_1, (lt_b9 (dqc_m (dqa_m (dqa_m (dqa_m (List.mem_of_getElem? (i := 7) rfl)))))), (lt_b9 (dqc_m (dqc_m (List.mem_of_getElem? (i := 0) rfl))))⟩
theorem lw_p53 : lw_okq (⟨"SportsHouseModel", "reach", "(III)Z"⟩, 114) := ⟨nmh_1, imq_1, (lt_b10 (dqc_m (dqc_m (dqc_m (dqa_m (List.mem_of_getElem? (i := 3) rfl)))))), (lt_b10 (dqc_m (dqc_m (dqc_m (dqa_m (List.mem_of_getElem? (i := 4) rfl))))))⟩
theorem lw_p54 : lw_okq (⟨"SportsHouseModel", "readOrder", "()V"⟩, 114) := ⟨nmh_1, imq_1, (lt_b8 (dqc_m (dqc_m (dqc_m (dqc_m (List.mem_of_getElem? (i := 5) rfl)))))), (lt_b8 (dqc_m (dqc_m (dqc_m (dqc_m (List.mem_of_getElem? (i := 6) rfl))))))⟩
theorem lw_p55 : lw_okq (⟨"SportsHouseModel", "readSport", "()V"⟩, 114) := ⟨nmh_1, imq_1, (lt_b8 (dqc_m (dqc_m (dqc_m (dqc_m (dqa_m (List.mem_of_getElem? (i := 1) rfl))))))), (lt_b8 (dqc_m (dqc_m (dqc_m (dqc_m (dqa_m (List.mem_of_getElem? (i := 2) rfl)))))))⟩
theorem lw_p56 : lw_okq (⟨"SportsHouseModel", "readStatement", "()V"⟩, 114) := ⟨nmh_1, imq_1, (lt_b8 (dqc_m (dqc_m (dqc_m (dqa_m (dqa_m (dqa_m (List.mem_of_getElem? (i := 5) rfl)))))))), (lt_b8 (dqc_m (dqc_m (dqc_m (dqa_m (dqa_m (dqa_m (List.mem_of_getElem? (i := 6) rfl))))))))⟩
theorem lw_p57 : lw_okq (⟨"SportsHouseModel", "rotate", "(I)V"⟩, 114) := ⟨nmh_1, imq_1, (lt_b9 (dqc_m (dqc_m (dqc_m (List.mem_of_getElem? (i := 3) rfl))))), (lt_b9 (dqc_m (dqc_m (dqc_m (List.mem_of_getElem? (i := 4) rfl)))))⟩
theorem lw_p58 : lw_okq (⟨"SportsHouseModel", "rowAt", "(II)I"⟩, 114) := ⟨nmh_1, imq_1, (lt_b9 (dqc_m (dqc_m (List.mem_of_getElem? (i := 3) rfl)))), (lt_b9 (dqc_m (dqc_m (List.mem_of_getElem? (i := 4) rfl))))⟩
theorem lw_p59 : lw_okq (⟨"SportsHouseModel", "rule0", "(II)I"⟩, 114) := ⟨nmh_1, imq_1, (lt_b8 (dqc_m (dqc_m (dqc_m (dqc_m (dqa_m (dqa_m (dqa_m (List.mem_of_getElem? (i := 4) rfl))))))))), (lt_b8 (dqc_m (dqc_m (dqc_m (dqc_m (dqa_m (dqa_m (dqa_m (List.mem_of_getElem? (i := 5) rfl)))))))))⟩
theorem lw_p60 : lw_okq (⟨"SportsHouseModel", "say", "(III)V"⟩, 114) := ⟨nmh_1, imq_1, (lt_b9 (dqc_m (dqc_m (dqc_m (dqc_m (dqc_m (dqa_m (dqa_m (dqa_m (List.mem_of_getElem? (i := 7) rfl)))))))))), (lt_b9 (dqc_m (dqc_m (dqc_m (dqc_m (dqc_m (dqc_m (List.mem_of_getElem? (i := 0) rfl))))))))⟩
theorem lw_p61 : lw_okq (⟨"SportsHouseModel", "sayHead", "(II)V"⟩, 114) := ⟨nmh_1, imq_1, (lt_b9 (dqc_m (dqc_m (dqc_m (dqc_m (dqc_m (dqc_m (List.mem_of_getElem? (i := 3) rfl)))))))), (lt_b9 (dqc_m (dqc_m (dqc_m (dqc_m (dqc_m (dqc_m (List.mem_of_getElem? (i := 4) rfl))))))))⟩
theorem lw_p62 : lw_okq (⟨"SportsHouseModel", "scoreOf", "(II)I"⟩, 114) := ⟨nmh_1, imq_1, (lt_b9 (dqc_m (dqc_m (dqc_m (List.mem_of_getElem? (i := 7) rfl))))), (lt_b9 (dqc_m (dqc_m (dqc_m (dqa_m (List.mem_of_getElem? (i := 0) rfl))))))⟩
theorem lw_p63 : lw_okq (⟨"SportsHouseModel", "sendOff", "(III)V"⟩, 114) := ⟨nmh_1, imq_1, (lt_b9 (dqc_m (dqc_m (dqa_m (dqa_m (List.mem_of_getElem? (i := 7) rfl)))))), (lt_b9 (dqc_m (dqc_m (dqa_m (dqa_m (dqa_m (List.mem_of_getElem? (i := 0) rfl)))))))⟩
theorem lw_p64 : lw_okq (⟨"SportsHouseModel", "setLive", "(III)V"⟩, 114) := ⟨nmh_1, imq_1, (lt_b9 (dqc_m (dqc_m (dqa_m (List.mem_of_getElem? (i := 7) rfl))))), (lt_b9 (dqc_m (dqc_m (dqa_m (dqa_m (List.mem_of_getElem? (i := 0) rfl))))))⟩
theorem lw_p65 : lw_okq (⟨"SportsHouseModel", "settle", "(IIIZ)I"⟩, 114) := ⟨nmh_1, imq_1, (lt_b10 (dqa_m (List.mem_of_getElem? (i := 5) rfl))), (lt_b10 (dqa_m (List.mem_of_getElem? (i := 6) rfl)))⟩
theorem lw_p66 : lw_okq (⟨"SportsHouseModel", "shareClub", "(II)Z"⟩, 114) := ⟨nmh_1, imq_1, (lt_b8 (dqc_m (dqc_m (dqc_m (dqc_m (dqc_m (dqc_m (dqa_m (dqa_m (List.mem_of_getElem? (i := 4) rfl)))))))))), (lt_b8 (dqc_m (dqc_m (dqc_m (dqc_m (dqc_m (dqc_m (dqa_m (dqa_m (List.mem_of_getElem? (i := 5) rfl))))))))))⟩
theorem lw_p67 : lw_okq (⟨"SportsHouseModel", "slotOf", "(II)I"⟩, 114) := ⟨nmh_1, imq_1, (lt_b9 (dqa_m (List.mem_of_getElem? (i := 4) rfl))), (lt_b9 (dqa_m (List.mem_of_getElem? (i := 5) rfl)))⟩
theorem lw_p68 : lw_okq (⟨"SportsHouseModel", "sortPart", "(II)V"⟩, 114) := ⟨nmh_1, imq_1, (lt_b9 (dqc_m (dqc_m (dqc_m (dqc_m (dqc_m (dqc_m (dqa_m (List.mem_of_getElem? (i := 5) rfl))))))))), (lt_b9 (dqc_m (dqc_m (dqc_m (dqc_m (dqc_m (dqc_m (dqa_m (List.mem_of_getElem? (i := 6) rfl)))))))))⟩
theorem lw_p69 : lw_okq (⟨"SportsHouseModel", "standAgainst", "(II)Z"⟩, 114) := ⟨nmh_1, imq_1, (lt_b8 (dqc_m (dqc_m (dqc_m (dqc_m (dqc_m (dqc_m (dqa_m (dqa_m (List.mem_of_getElem? (i := 0) rfl)))))))))), (lt_b8 (dqc_m (dqc_m (dqc_m (dqc_m (dqc_m (dqc_m (dqa_m (dqa_m (List.mem_of_getElem? (i := 1) rfl))))))))))⟩
theorem lw_p70 : lw_okq (⟨"SportsHouseModel", "stands", "(IIII)Z"⟩, 114) := ⟨nmh_1, imq_1, (lt_b9 (dqc_m (dqa_m (dqa_m (dqa_m (List.mem_of_getElem? (i := 0) rfl)))))), (lt_b9 (dqc_m (dqa_m (dqa_m (dqa_m (List.mem_of_getElem? (i := 1) rfl))))))⟩
theorem lw_p71 : lw_okq (⟨"SportsHouseModel", "substitute", "(IIII)V"⟩, 114) := ⟨nmh_1, imq_1, (lt_b9 (dqc_m (dqc_m (dqa_m (dqa_m (dqa_m (List.mem_of_getElem? (i := 3) rfl))))))), (lt_b9 (dqc_m (dqc_m (dqa_m (dqa_m (dqa_m (List.mem_of_getElem? (i := 4) rfl)))))))⟩
theorem lw_p72 : lw_okq (⟨"SportsHouseModel", "take", "()V"⟩, 114) := ⟨nmh_1, imq_1, (lt_b8 (dqc_m (dqc_m (dqc_m (dqa_m (List.mem_of_getElem? (i := 7) rfl)))))), (lt_b8 (dqc_m (dqc_m (dqc_m (dqa_m (dqa_m (List.mem_of_getElem? (i := 0) rfl)))))))⟩
theorem lw_p73 : lw_okq (⟨"SportsHouseModel", "takenBelow", "(I)I"⟩, 114) := ⟨nmh_1, imq_1, (lt_b10 (dqc_m (dqc_m (dqa_m (List.mem_of_getElem? (i := 4) rfl))))), (lt_b10 (dqc_m (dqc_m (dqa_m (List.mem_of_getElem? (i := 5) rfl)))))⟩
theorem lw_p74 : lw_okq (⟨"SportsHouseModel", "tellAll", "(II)V"⟩, 114) := ⟨nmh_1, imq_1, (lt_b9 (dqc_m (dqc_m (dqc_m (dqc_m (dqc_m (List.mem_of_getElem? (i := 7) rfl))))))), (lt_b9 (dqc_m (dqc_m (dqc_m (dqc_m (dqc_m (dqa_m (List.mem_of_getElem? (i := 0) rfl))))))))⟩
theorem lw_p75 : lw_okq (⟨"SportsHouseModel", "tellResult", "(IIII)V"⟩, 114) := ⟨nmh_1, imq_1, (lt_b9 (dqc_m (dqc_m (dqc_m (dqc_m (dqc_m (dqa_m (List.mem_of_getElem? (i := 7) rfl)))))))), (lt_b9 (dqc_m (dqc_m (dqc_m (dqc_m (dqc_m (dqa_m (dqa_m (List.mem_of_getElem? (i := 0) rfl)))))))))⟩
theorem lw_p76 : lw_okq (⟨"SportsHouseModel", "turnSides", "(I)V"⟩, 114) := ⟨nmh_1, imq_1, (lt_b9 (dqc_m (dqc_m (dqc_m (dqc_m (List.mem_of_getElem? (i := 3) rfl)))))), (lt_b9 (dqc_m (dqc_m (dqc_m (dqc_m (List.mem_of_getElem? (i := 4) rfl))))))⟩
theorem lw_p77 : lw_okq (⟨"SportsHouseModel", "walk", "(II)V"⟩, 114) := ⟨nmh_1, imq_1, (lt_b9 (dqc_m (dqc_m (dqc_m (dqa_m (dqa_m (dqa_m (List.mem_of_getElem? (i := 3) rfl)))))))), (lt_b9 (dqc_m (dqc_m (dqc_m (dqa_m (dqa_m (dqa_m (List.mem_of_getElem? (i := 4) rfl))))))))⟩
theorem lw_p78 : lw_okq (⟨"SportsHouseModel", "wantNumber", "(III)V"⟩, 114) := ⟨nmh_1, imq_1, (lt_b8 (dqc_m (dqc_m (dqc_m (dqc_m (dqa_m (List.mem_of_getElem? (i := 5) rfl))))))), (lt_b8 (dqc_m (dqc_m (dqc_m (dqc_m (dqa_m (List.mem_of_getElem? (i := 6) rfl)))))))⟩
theorem lw_p79 : lw_okq (⟨"SportsHouseModel", "whichOf", "([I)I"⟩, 114) := ⟨nmh_1, imq_1, (lt_b8 (dqc_m (dqc_m (dqc_m (dqc_m (List.mem_of_getElem? (i := 1) rfl)))))), (lt_b8 (dqc_m (dqc_m (dqc_m (dqc_m (List.mem_of_getElem? (i := 2) rfl))))))⟩
theorem lw_p80 : lw_okq (⟨"SportsHouseModel", "whyNot", "(III)I"⟩, 114) := ⟨nmh_1, imq_1, (lt_b8 (dqc_m (dqc_m (dqc_m (dqc_m (dqc_m (dqc_m (dqc_m (dqa_m (List.mem_of_getElem? (i := 0) rfl)))))))))), (lt_b8 (dqc_m (dqc_m (dqc_m (dqc_m (dqc_m (dqc_m (dqc_m (dqa_m (List.mem_of_getElem? (i := 1) rfl))))))))))⟩
theorem lw_p81 : lw_okq (⟨"SportsHouse$Lots", "countFrom", "(I)I"⟩, 16) := ⟨nmh_2, imq_2, (lt_b6 (dqc_m (dqc_m (dqc_m (dqc_m (dqa_m (dqa_m (List.mem_of_getElem? (i := 3) rfl)))))))), (lt_b6 (dqc_m (dqc_m (dqc_m (dqc_m (dqa_m (dqa_m (List.mem_of_getElem? (i := 4) rfl))))))))⟩
theorem lw_p82 : lw_okq (⟨"SportsHouse$Lots", "takeBelow", "(I)I"⟩, 16) := ⟨nmh_2, imq_2, (lt_b6 (dqc_m (dqc_m (dqc_m (dqc_m (dqc_m (List.mem_of_getElem? (i := 7) rfl))))))), (lt_b6 (dqc_m (dqc_m (dqc_m (dqc_m (dqc_m (dqa_m (List.mem_of_getElem? (i := 0) rfl))))))))⟩
theorem lw_p83 : lw_okq (⟨"SportsHouse$Play", "benchPlace", "(II)I"⟩, 18) := ⟨nmh_3, imq_3, (lt_b5 (dqc_m (dqa_m (dqa_m (List.mem_of_getElem? (i := 5) rfl))))), (lt_b5 (dqc_m (dqa_m (dqa_m (List.mem_of_getElem? (i := 6) rfl)))))⟩
theorem lw_p84 : lw_okq (⟨"SportsHouse$Play", "closeGap", "(II)V"⟩, 18) := ⟨nmh_3, imq_3, (lt_b5 (dqc_m (dqc_m (dqa_m (dqa_m (List.mem_of_getElem? (i := 1) rfl)))))), (lt_b5 (dqc_m (dqc_m (dqa_m (dqa_m (List.mem_of_getElem? (i := 2) rfl))))))⟩
theorem lw_p85 : lw_okq (⟨"SportsHouse$Play", "countOut", "()V"⟩, 18) := ⟨nmh_3, imq_3, (lt_b5 (dqc_m (dqc_m (dqc_m (dqa_m (dqa_m (dqa_m (List.mem_of_getElem? (i := 6) rfl)))))))), (lt_b5 (dqc_m (dqc_m (dqc_m (dqa_m (dqa_m (dqa_m (List.mem_of_getElem? (i := 7) rfl))))))))⟩
theorem lw_p86 : lw_okq (⟨"SportsHouse$Play", "endHalf", "()V"⟩, 18) := ⟨nmh_3, imq_3, (lt_b5 (dqc_m (dqc_m (dqc_m (dqc_m (List.mem_of_getElem? (i := 2) rfl)))))), (lt_b5 (dqc_m (dqc_m (dqc_m (dqc_m (List.mem_of_getElem? (i := 3) rfl))))))⟩
theorem lw_p87 : lw_okq (⟨"SportsHouse$Play", "fieldPlace", "(II)I"⟩, 18) := ⟨nmh_3, imq_3, (lt_b5 (dqc_m (dqa_m (List.mem_of_getElem? (i := 5) rfl)))), (lt_b5 (dqc_m (dqa_m (List.mem_of_getElem? (i := 6) rfl))))⟩
theorem lw_p88 : lw_okq (⟨"SportsHouse$Play", "goOnBase", "(II)V"⟩, 18) := ⟨nmh_3, imq_3, (lt_b5 (dqc_m (dqc_m (dqc_m (dqa_m (dqa_m (List.mem_of_getElem? (i := 2) rfl))))))), (lt_b5 (dqc_m (dqc_m (dqc_m (dqa_m (dqa_m (List.mem_of_getElem? (i := 3) rfl)))))))⟩
theorem lw_p89 : lw_okq (⟨"SportsHouse$Play", "hit", "(II)V"⟩, 18) := ⟨nmh_3, imq_3, (lt_b5 (dqc_m (dqc_m (dqc_m (dqa_m (List.mem_of_getElem? (i := 0) rfl)))))), (lt_b5 (dqc_m (dqc_m (dqc_m (dqa_m (List.mem_of_getElem? (i := 1) rfl))))))⟩
theorem lw_p90 : lw_okq (⟨"SportsHouse$Play", "isAllowed", "(II)Z"⟩, 18) := ⟨nmh_3, imq_3, (lt_b5 (dqc_m (List.mem_of_getElem? (i := 5) rfl))), (lt_b5 (dqc_m (List.mem_of_getElem? (i := 6) rfl)))⟩
theorem lw_p91 : lw_okq (⟨"SportsHouse$Play", "isLastInning", "()Z"⟩, 18) := ⟨nmh_3, imq_3, (lt_b5 (dqc_m (dqc_m (dqc_m (dqa_m (dqa_m (List.mem_of_getElem? (i := 6) rfl))))))), (lt_b5 (dqc_m (dqc_m (dqc_m (dqa_m (dqa_m (List.mem_of_getElem? (i := 7) rfl)))))))⟩
theorem lw_p92 : lw_okq (⟨"SportsHouse$Play", "needsPerson", "(I)Z"⟩, 18) := ⟨nmh_3, imq_3, (lt_b5 (dqc_m (dqa_m (List.mem_of_getElem? (i := 1) rfl)))), (lt_b5 (dqc_m (dqa_m (List.mem_of_getElem? (i := 2) rfl))))⟩
theorem lw_p93 : lw_okq (⟨"SportsHouse$Play", "playBaseball", "(III)V"⟩, 18) := ⟨nmh_3, imq_3, (lt_b5 (dqc_m (dqc_m (dqc_m (List.mem_of_getElem? (i := 4) rfl))))), (lt_b5 (dqc_m (dqc_m (dqc_m (List.mem_of_getElem? (i := 5) rfl)))))⟩
theorem lw_p94 : lw_okq (⟨"SportsHouse$Play", "playFootball", "(III)V"⟩, 18) := ⟨nmh_3, imq_3, (lt_b5 (dqc_m (dqc_m (List.mem_of_getElem? (i := 5) rfl)))), (lt_b5 (dqc_m (dqc_m (List.mem_of_getElem? (i := 6) rfl))))⟩
theorem lw_p95 : lw_okq (⟨"SportsHouse$Play", "playTennis", "(II)V"⟩, 18) := ⟨nmh_3, imq_3, (lt_b5 (dqc_m (dqc_m (dqc_m (List.mem_of_getElem? (i := 0) rfl))))), (lt_b5 (dqc_m (dqc_m (dqc_m (List.mem_of_getElem? (i := 1) rfl)))))⟩
theorem lw_p96 : lw_okq (⟨"SportsHouse$Play", "playVolleyball", "(I)V"⟩, 18) := ⟨nmh_3, imq_3, (lt_b5 (dqc_m (dqc_m (dqa_m (dqa_m (List.mem_of_getElem? (i := 5) rfl)))))), (lt_b5 (dqc_m (dqc_m (dqa_m (dqa_m (List.mem_of_getElem? (i := 6) rfl))))))⟩
theorem lw_p97 : lw_okq (⟨"SportsHouse$Play", "putAside", "(IIII)V"⟩, 18) := ⟨nmh_3, imq_3, (lt_b5 (dqc_m (dqc_m (dqc_m (dqc_m (dqc_m (List.mem_of_getElem? (i := 6) rfl))))))), (lt_b5 (dqc_m (dqc_m (dqc_m (dqc_m (dqc_m (List.mem_of_getElem? (i := 7) rfl)))))))⟩
theorem lw_p98 : lw_okq (⟨"SportsHouse$Play", "rotate", "(I)V"⟩, 18) := ⟨nmh_3, imq_3, (lt_b5 (dqc_m (dqc_m (dqa_m (dqa_m (dqa_m (List.mem_of_getElem? (i := 1) rfl))))))), (lt_b5 (dqc_m (dqc_m (dqa_m (dqa_m (dqa_m (List.mem_of_getElem? (i := 2) rfl)))))))⟩
theorem lw_p99 : lw_okq (⟨"SportsHouse$Play", "sendOff", "(II)V"⟩, 18) := ⟨nmh_3, imq_3, (lt_b5 (dqc_m (dqc_m (dqa_m (List.mem_of_getElem? (i := 5) rfl))))), (lt_b5 (dqc_m (dqc_m (dqa_m (List.mem_of_getElem? (i := 6) rfl)))))⟩
theorem lw_p100 : lw_okq (⟨"SportsHouse$Play", "showYellow", "(II)V"⟩, 18) := ⟨nmh_3, imq_3, (lt_b5 (dqc_m (dqc_m (dqa_m (List.mem_of_getElem? (i := 1) rfl))))), (lt_b5 (dqc_m (dqc_m (dqa_m (List.mem_of_getElem? (i := 2) rfl)))))⟩
theorem lw_p101 : lw_okq (⟨"SportsHouse$Play", "substitute", "(III)V"⟩, 18) := ⟨nmh_3, imq_3, (lt_b5 (dqc_m (dqc_m (List.mem_of_getElem? (i := 1) rfl)))), (lt_b5 (dqc_m (dqc_m (List.mem_of_getElem? (i := 2) rfl))))⟩
theorem lw_p102 : lw_okq (⟨"SportsHouse$Play", "walk", "(I)V"⟩, 18) := ⟨nmh_3, imq_3, (lt_b5 (dqc_m (dqc_m (dqc_m (dqa_m (dqa_m (dqa_m (List.mem_of_getElem? (i := 2) rfl)))))))), (lt_b5 (dqc_m (dqc_m (dqc_m (dqa_m (dqa_m (dqa_m (List.mem_of_getElem? (i := 3) rfl))))))))⟩
theorem lw_p103 : lw_okq (⟨"SportsHouse$Referees", "firstBest", "(LSportsHouse$Match;III)I"⟩, 5) := ⟨nmh_4, imq_4, (lt_b6 (dqc_m (dqc_m (dqc_m (dqc_m (dqc_m (dqc_m (dqa_m (dqa_m (List.mem_of_getElem? (i := 2) rfl)))))))))), (lt_b6 (dqc_m (dqc_m (dqc_m (dqc_m (dqc_m (dqc_m (dqa_m (dqa_m (List.mem_of_getElem? (i := 3) rfl))))))))))⟩
theorem lw_p104 : lw_okq (⟨"SportsHouse$Referees", "gainOf", "(LSportsHouse$Match;II)I"⟩, 5) := ⟨nmh_4, imq_4, (lt_b6 (dqc_m (dqc_m (dqc_m (dqc_m (dqc_m (dqc_m (dqa_m (List.mem_of_getElem? (i := 4) rfl))))))))), (lt_b6 (dqc_m (dqc_m (dqc_m (dqc_m (dqc_m (dqc_m (dqa_m (List.mem_of_getElem? (i := 5) rfl)))))))))⟩
theorem lw_p105 : lw_okq (⟨"SportsHouse$Referees", "listMatches", "(I)V"⟩, 5) := ⟨nmh_4, imq_4, (lt_b6 (dqc_m (dqc_m (dqc_m (dqc_m (dqc_m (dqa_m (dqa_m (dqa_m (List.mem_of_getElem? (i := 7) rfl)))))))))), (lt_b6 (dqc_m (dqc_m (dqc_m (dqc_m (dqc_m (dqc_m (List.mem_of_getElem? (i := 0) rfl))))))))⟩
theorem lw_p106 : lw_okq (⟨"SportsHouse$Referees", "weigh", "(LSportsHouse$Match;III)I"⟩, 5) := ⟨nmh_4, imq_4, (lt_b6 (dqc_m (dqc_m (dqc_m (dqc_m (dqc_m (dqc_m (dqa_m (List.mem_of_getElem? (i := 0) rfl))))))))), (lt_b6 (dqc_m (dqc_m (dqc_m (dqc_m (dqc_m (dqc_m (dqa_m (List.mem_of_getElem? (i := 1) rfl)))))))))⟩
theorem lw_p107 : lw_okq (⟨"SportsHouse$Referees", "weighAll", "(I)V"⟩, 5) := ⟨nmh_4, imq_4, (lt_b6 (dqc_m (dqc_m (dqc_m (dqc_m (dqc_m (dqc_m (List.mem_of_getElem? (i := 4) rfl)))))))), (lt_b6 (dqc_m (dqc_m (dqc_m (dqc_m (dqc_m (dqc_m (List.mem_of_getElem? (i := 5) rfl))))))))⟩
theorem lw_p108 : lw_okq (⟨"SportsHouse$RuleText", "fail", "(I)Z"⟩, 10) := ⟨nmh_5, imq_5, (lt_b2 (dqc_m (dqc_m (dqc_m (dqc_m (dqc_m (dqc_m (dqc_m (dqa_m (List.mem_of_getElem? (i := 0) rfl)))))))))), (lt_b2 (dqc_m (dqc_m (dqc_m (dqc_m (dqc_m (dqc_m (dqc_m (dqa_m (List.mem_of_getElem? (i := 1) rfl))))))))))⟩
theorem lw_p109 : lw_okq (⟨"SportsHouse$RuleText", "isBetween", "(III)Z"⟩, 10) := ⟨nmh_5, imq_5, (lt_b2 (dqc_m (dqc_m (dqc_m (dqc_m (dqc_m (dqc_m (dqa_m (dqa_m (List.mem_of_getElem? (i := 3) rfl)))))))))), (lt_b2 (dqc_m (dqc_m (dqc_m (dqc_m (dqc_m (dqc_m (dqa_m (dqa_m (List.mem_of_getElem? (i := 4) rfl))))))))))⟩
theorem lw_p110 : lw_okq (⟨"SportsHouse$RuleText", "isOfKind", "(I)Z"⟩, 10) := ⟨nmh_5, imq_5, (lt_b2 (dqc_m (dqc_m (dqc_m (dqc_m (dqc_m (dqc_m (dqc_m (List.mem_of_getElem? (i := 4) rfl))))))))), (lt_b2 (dqc_m (dqc_m (dqc_m (dqc_m (dqc_m (dqc_m (dqc_m (List.mem_of_getElem? (i := 5) rfl)))))))))⟩
theorem lw_p111 : lw_okq (⟨"SportsHouse$RuleText", "nextToken", "()V"⟩, 10) := ⟨nmh_5, imq_5, (lt_b2 (dqc_m (dqc_m (dqc_m (dqc_m (dqc_m (dqc_m (dqa_m (List.mem_of_getElem? (i := 7) rfl))))))))), (lt_b2 (dqc_m (dqc_m (dqc_m (dqc_m (dqc_m (dqc_m (dqa_m (dqa_m (List.mem_of_getElem? (i := 0) rfl))))))))))⟩
theorem lw_p112 : lw_okq (⟨"SportsHouse$RuleText", "readOrder", "()Z"⟩, 10) := ⟨nmh_5, imq_5, (lt_b3 (dqc_m (dqa_m (dqa_m (dqa_m (List.mem_of_getElem? (i := 5) rfl)))))), (lt_b3 (dqc_m (dqa_m (dqa_m (dqa_m (List.mem_of_getElem? (i := 6) rfl))))))⟩
theorem lw_p113 : lw_okq (⟨"SportsHouse$RuleText", "readPoints", "()Z"⟩, 10) := ⟨nmh_5, imq_5, (lt_b3 (dqc_m (dqa_m (dqa_m (List.mem_of_getElem? (i := 1) rfl))))), (lt_b3 (dqc_m (dqa_m (dqa_m (List.mem_of_getElem? (i := 2) rfl)))))⟩
theorem lw_p114 : lw_okq (⟨"SportsHouse$RuleText", "readRule", "(II)Z"⟩, 10) := ⟨nmh_5, imq_5, (lt_b3 (dqc_m (dqa_m (dqa_m (List.mem_of_getElem? (i := 7) rfl))))), (lt_b3 (dqc_m (dqa_m (dqa_m (dqa_m (List.mem_of_getElem? (i := 0) rfl))))))⟩
theorem lw_p115 : lw_okq (⟨"SportsHouse$RuleText", "readSport", "()Z"⟩, 10) := ⟨nmh_5, imq_5, (lt_b3 (dqc_m (dqa_m (List.mem_of_getElem? (i := 4) rfl)))), (lt_b3 (dqc_m (dqa_m (List.mem_of_getElem? (i := 5) rfl))))⟩
theorem lw_p116 : lw_okq (⟨"SportsHouse$RuleText", "readStatement", "()Z"⟩, 10) := ⟨nmh_5, imq_5, (lt_b2 (dqc_m (dqc_m (dqc_m (dqc_m (dqc_m (dqc_m (dqa_m (dqa_m (dqa_m (List.mem_of_getElem? (i := 3) rfl))))))))))), (lt_b2 (dqc_m (dqc_m (dqc_m (dqc_m (dqc_m (dqc_m (dqa_m (dqa_m (dqa_m (List.mem_of_getElem? (i := 4) rfl)))))))))))⟩
theorem lw_p117 : lw_okq (⟨"SportsHouse$RuleText", "takeRun", "(IIII)V"⟩, 10) := ⟨nmh_5, imq_5, (lt_b2 (dqc_m (dqc_m (dqc_m (dqc_m (dqc_m (dqc_m (dqa_m (dqa_m (List.mem_of_getElem? (i := 7) rfl)))))))))), (lt_b2 (dqc_m (dqc_m (dqc_m (dqc_m (dqc_m (dqc_m (dqa_m (dqa_m (dqa_m (List.mem_of_getElem? (i := 0) rfl)))))))))))⟩
theorem lw_p118 : lw_okq (⟨"SportsHouse$RuleText", "wordOf", "(Ljava/lang/String;)I"⟩, 10) := ⟨nmh_5, imq_5, (lt_b2 (dqc_m (dqc_m (dqc_m (dqc_m (dqc_m (dqc_m (dqc_m (List.mem_of_getElem? (i := 0) rfl))))))))), (lt_b2 (dqc_m (dqc_m (dqc_m (dqc_m (dqc_m (dqc_m (dqc_m (List.mem_of_getElem? (i := 1) rfl)))))))))⟩
theorem lw_p119 : lw_okq (⟨"SportsHouse$Season", "addFixture", "(LSportsHouse$Competition;IIII)V"⟩, 16) := ⟨nmh_6, imq_6, (lt_b3 (dqc_m (dqc_m (dqc_m (dqc_m (dqc_m (dqc_m (dqa_m (dqa_m (dqa_m (List.mem_of_getElem? (i := 2) rfl))))))))))), (lt_b3 (dqc_m (dqc_m (dqc_m (dqc_m (dqc_m (dqc_m (dqa_m (dqa_m (dqa_m (List.mem_of_getElem? (i := 3) rfl)))))))))))⟩
theorem lw_p120 : lw_okq (⟨"SportsHouse$Season", "addRound", "(LSportsHouse$Competition;IIZI)V"⟩, 16) := ⟨nmh_6, imq_6, (lt_b3 (dqc_m (dqc_m (dqc_m (dqc_m (dqc_m (dqc_m (dqa_m (dqa_m (List.mem_of_getElem? (i := 6) rfl)))))))))), (lt_b3 (dqc_m (dqc_m (dqc_m (dqc_m (dqc_m (dqc_m (dqa_m (dqa_m (List.mem_of_getElem? (i := 7) rfl))))))))))⟩
theorem lw_p121 : lw_okq (⟨"SportsHouse$Season", "blockDays", "(LSportsHouse$Match;)V"⟩, 16) := ⟨nmh_6, imq_6, (lt_b4 (dqc_m (dqc_m (dqc_m (dqa_m (dqa_m (List.mem_of_getElem? (i := 0) rfl))))))), (lt_b4 (dqc_m (dqc_m (dqc_m (dqa_m (dqa_m (List.mem_of_getElem? (i := 1) rfl)))))))⟩
theorem lw_p122 : lw_okq (⟨"SportsHouse$Season", "goBehind", "(LSportsHouse$Match;II)Z"⟩, 16) := ⟨nmh_6, imq_6, (lt_b4 (dqc_m (dqc_m (dqc_m (dqa_m (List.mem_of_getElem? (i := 4) rfl)))))), (lt_b4 (dqc_m (dqc_m (dqc_m (dqa_m (List.mem_of_getElem? (i := 5) rfl))))))⟩
theorem lw_p123 : lw_okq (⟨"SportsHouse$Season", "isBanned", "(ILSportsHouse$Match;)Z"⟩, 16) := ⟨nmh_6, imq_6, (lt_b4 (dqc_m (dqc_m (dqc_m (dqc_m (dqa_m (dqa_m (List.mem_of_getElem? (i := 3) rfl)))))))), (lt_b4 (dqc_m (dqc_m (dqc_m (dqc_m (dqa_m (dqa_m (List.mem_of_getElem? (i := 4) rfl))))))))⟩
theorem lw_p124 : lw_okq (⟨"SportsHouse$Season", "listAgainst", "(LSportsHouse$Match;)I"⟩, 16) := ⟨nmh_6, imq_6, (lt_b4 (dqc_m (dqc_m (dqa_m (dqa_m (List.mem_of_getElem? (i := 6) rfl)))))), (lt_b4 (dqc_m (dqc_m (dqa_m (dqa_m (List.mem_of_getElem? (i := 7) rfl))))))⟩
theorem lw_p125 : lw_okq (⟨"SportsHouse$Season", "listAhead", "(ILSportsHouse$Match;)I"⟩, 16) := ⟨nmh_6, imq_6, (lt_b4 (dqc_m (dqc_m (dqc_m (dqc_m (dqa_m (dqa_m (List.mem_of_getElem? (i := 7) rfl)))))))), (lt_b4 (dqc_m (dqc_m (dqc_m (dqc_m (dqa_m (dqa_m (dqa_m (List.mem_of_getElem? (i := 0) rfl)))))))))⟩
theorem lw_p126 : lw_okq (⟨"SportsHouse$Season", "standAgainst", "(LSportsHouse$Match;LSportsHouse$Match;)Z"⟩, 16) := ⟨nmh_6, imq_6, (lt_b4 (dqc_m (dqc_m (dqa_m (dqa_m (dqa_m (List.mem_of_getElem? (i := 2) rfl))))))), (lt_b4 (dqc_m (dqc_m (dqa_m (dqa_m (dqa_m (List.mem_of_getElem? (i := 3) rfl)))))))⟩
theorem lw_p127 : lw_okq (⟨"SportsHouse$Standings", "addCards", "(LSportsHouse$Match;)V"⟩, 14) := ⟨nmh_7, imq_7, (lt_b5 (dqc_m (dqc_m (dqc_m (dqc_m (dqc_m (dqc_m (dqa_m (dqa_m (dqa_m (List.mem_of_getElem? (i := 0) rfl))))))))))), (lt_b5 (dqc_m (dqc_m (dqc_m (dqc_m (dqc_m (dqc_m (dqa_m (dqa_m (dqa_m (List.mem_of_getElem? (i := 1) rfl)))))))))))⟩
theorem lw_p128 : lw_okq (⟨"SportsHouse$Standings", "addSide", "(IIII)V"⟩, 14) := ⟨nmh_7, imq_7, (lt_b5 (dqc_m (dqc_m (dqc_m (dqc_m (dqc_m (dqc_m (dqa_m (dqa_m (List.mem_of_getElem? (i := 4) rfl)))))))))), (lt_b5 (dqc_m (dqc_m (dqc_m (dqc_m (dqc_m (dqc_m (dqa_m (dqa_m (List.mem_of_getElem? (i := 5) rfl))))))))))⟩
theorem lw_p129 : lw_okq (⟨"SportsHouse$Standings", "headWorth", "(II)J"⟩, 14) := ⟨nmh_7, imq_7, (lt_b6 (List.mem_of_getElem? (i := 5) rfl)), (lt_b6 (List.mem_of_getElem? (i := 6) rfl))⟩
theorem lw_p130 : lw_okq (⟨"SportsHouse$Standings", "lot", "(II)I"⟩, 14) := ⟨nmh_7, imq_7, (lt_b6 (dqa_m (List.mem_of_getElem? (i := 2) rfl))), (lt_b6 (dqa_m (List.mem_of_getElem? (i := 3) rfl)))⟩
theorem lw_p131 : lw_okq (⟨"SportsHouse$Standings", "orderGroup", "(III)V"⟩, 14) := ⟨nmh_7, imq_7, (lt_b5 (dqc_m (dqc_m (dqc_m (dqc_m (dqc_m (dqc_m (dqc_m (dqa_m (List.mem_of_getElem? (i := 1) rfl)))))))))), (lt_b5 (dqc_m (dqc_m (dqc_m (dqc_m (dqc_m (dqc_m (dqc_m (dqa_m (List.mem_of_getElem? (i := 2) rfl))))))))))⟩
theorem lw_p132 : lw_okq (⟨"SportsHouse$Standings", "putWaiting", "(III)V"⟩, 14) := ⟨nmh_7, imq_7, (lt_b5 (dqc_m (dqc_m (dqc_m (dqc_m (dqc_m (dqc_m (dqc_m (List.mem_of_getElem? (i := 5) rfl))))))))), (lt_b5 (dqc_m (dqc_m (dqc_m (dqc_m (dqc_m (dqc_m (dqc_m (List.mem_of_getElem? (i := 6) rfl)))))))))⟩
theorem lw_p133 : lw_okq (⟨"SportsHouse$Standings", "sort", "(II)V"⟩, 14) := ⟨nmh_7, imq_7, (lt_b6 (dqa_m (dqa_m (List.mem_of_getElem? (i := 1) rfl)))), (lt_b6 (dqa_m (dqa_m (List.mem_of_getElem? (i := 2) rfl))))⟩
theorem lw_p134 : lw_okq (⟨"SportsHouse$Standings", "weigh", "(III)V"⟩, 14) := ⟨nmh_7, imq_7, (lt_b5 (dqc_m (dqc_m (dqc_m (dqc_m (dqc_m (dqc_m (dqc_m (dqa_m (List.mem_of_getElem? (i := 5) rfl)))))))))), (lt_b5 (dqc_m (dqc_m (dqc_m (dqc_m (dqc_m (dqc_m (dqc_m (dqa_m (List.mem_of_getElem? (i := 6) rfl))))))))))⟩
theorem lw_p135 : lw_okq (⟨"SportsHouse$Standings", "worthOf", "(III)J"⟩, 14) := ⟨nmh_7, imq_7, (lt_b6 (List.mem_of_getElem? (i := 1) rfl)), (lt_b6 (List.mem_of_getElem? (i := 2) rfl))⟩
theorem lw_p136 : lw_okq (⟨"SportsHouse$Title", "awaySeatOf", "(I)I"⟩, 16) := ⟨nmh_8, imq_8, (lt_b6 (dqc_m (dqc_m (List.mem_of_getElem? (i := 4) rfl)))), (lt_b6 (dqc_m (dqc_m (List.mem_of_getElem? (i := 5) rfl))))⟩
theorem lw_p137 : lw_okq (⟨"SportsHouse$Title", "homeSeatOf", "(I)I"⟩, 16) := ⟨nmh_8, imq_8, (lt_b6 (dqc_m (dqa_m (dqa_m (dqa_m (List.mem_of_getElem? (i := 0) rfl)))))), (lt_b6 (dqc_m (dqa_m (dqa_m (dqa_m (List.mem_of_getElem? (i := 1) rfl))))))⟩
theorem lw_p138 : lw_okq (⟨"SportsHouse$Title", "isFirstBy", "(III)Z"⟩, 16) := ⟨nmh_8, imq_8, (lt_b6 (dqc_m (dqc_m (dqc_m (dqa_m (dqa_m (List.mem_of_getElem? (i := 4) rfl))))))), (lt_b6 (dqc_m (dqc_m (dqc_m (dqa_m (dqa_m (List.mem_of_getElem? (i := 5) rfl)))))))⟩
theorem lw_p139 : lw_okq (⟨"SportsHouse$Title", "leastCut", "(I)I"⟩, 16) := ⟨nmh_8, imq_8, (lt_b6 (dqc_m (dqc_m (dqa_m (dqa_m (List.mem_of_getElem? (i := 0) rfl)))))), (lt_b6 (dqc_m (dqc_m (dqa_m (dqa_m (List.mem_of_getElem? (i := 1) rfl))))))⟩
theorem lw_p140 : lw_okq (⟨"SportsHouse$Title", "listOpen", "(II)Z"⟩, 16) := ⟨nmh_8, imq_8, (lt_b6 (dqc_m (List.mem_of_getElem? (i := 5) rfl))), (lt_b6 (dqc_m (List.mem_of_getElem? (i := 6) rfl)))⟩
theorem lw_p141 : lw_okq (⟨"SportsHouse$Title", "noneAbove", "(I)Z"⟩, 16) := ⟨nmh_8, imq_8, (lt_b6 (dqc_m (dqc_m (dqa_m (dqa_m (dqa_m (List.mem_of_getElem? (i := 4) rfl))))))), (lt_b6 (dqc_m (dqc_m (dqa_m (dqa_m (dqa_m (List.mem_of_getElem? (i := 5) rfl)))))))⟩
theorem lw_p142 : lw_okq (⟨"SportsHouse$Title", "openBetween", "(II)I"⟩, 16) := ⟨nmh_8, imq_8, (lt_b6 (dqc_m (dqc_m (dqa_m (dqa_m (dqa_m (List.mem_of_getElem? (i := 0) rfl))))))), (lt_b6 (dqc_m (dqc_m (dqa_m (dqa_m (dqa_m (List.mem_of_getElem? (i := 1) rfl)))))))⟩
theorem lw_p143 : lw_okq (⟨"SportsHouse$Title", "relieve", "(II)Z"⟩, 16) := ⟨nmh_8, imq_8, (lt_b6 (dqc_m (dqa_m (dqa_m (dqa_m (List.mem_of_getElem? (i := 4) rfl)))))), (lt_b6 (dqc_m (dqa_m (dqa_m (dqa_m (List.mem_of_getElem? (i := 5) rfl))))))⟩
theorem lw_p144 : lw_okq (⟨"SportsHouse$Title", "search", "(I)Z"⟩, 16) := ⟨nmh_8, imq_8, (lt_b6 (dqc_m (dqc_m (dqc_m (List.mem_of_getElem? (i := 0) rfl))))), (lt_b6 (dqc_m (dqc_m (dqc_m (List.mem_of_getElem? (i := 1) rfl)))))⟩
theorem lw_p145 : lw_okq (⟨"SportsHouse$Title", "setCaps", "(I)V"⟩, 16) := ⟨nmh_8, imq_8, (lt_b6 (dqc_m (dqa_m (dqa_m (List.mem_of_getElem? (i := 0) rfl))))), (lt_b6 (dqc_m (dqa_m (dqa_m (List.mem_of_getElem? (i := 1) rfl)))))⟩
theorem lw_p146 : lw_okq (⟨"SportsHouse$Title", "shiftAlong", "(II)V"⟩, 16) := ⟨nmh_8, imq_8, (lt_b6 (dqc_m (dqc_m (List.mem_of_getElem? (i := 0) rfl)))), (lt_b6 (dqc_m (dqc_m (List.mem_of_getElem? (i := 1) rfl))))⟩
theorem lw_p147 : lw_okq (⟨"SportsHouse$Title", "spreadParts", "(I)Z"⟩, 16) := ⟨nmh_8, imq_8, (lt_b6 (dqc_m (dqa_m (dqa_m (List.mem_of_getElem? (i := 4) rfl))))), (lt_b6 (dqc_m (dqa_m (dqa_m (List.mem_of_getElem? (i := 5) rfl)))))⟩
theorem lw_p148 : lw_okq (⟨"SportsHouse$Title", "takePartHome", "(I)Z"⟩, 16) := ⟨nmh_8, imq_8, (lt_b6 (dqc_m (dqc_m (dqa_m (List.mem_of_getElem? (i := 4) rfl))))), (lt_b6 (dqc_m (dqc_m (dqa_m (List.mem_of_getElem? (i := 5) rfl)))))⟩
theorem lw_p149 : lw_okq (⟨"SportsHouse$Title", "takePoints", "(I)V"⟩, 16) := ⟨nmh_8, imq_8, (lt_b6 (dqc_m (dqa_m (List.mem_of_getElem? (i := 3) rfl)))), (lt_b6 (dqc_m (dqa_m (List.mem_of_getElem? (i := 4) rfl))))⟩
theorem lw_p150 : lw_okq (⟨"SportsHouse$Title", "takerOf", "(II)I"⟩, 16) := ⟨nmh_8, imq_8, (lt_b6 (dqc_m (dqc_m (dqa_m (List.mem_of_getElem? (i := 0) rfl))))), (lt_b6 (dqc_m (dqc_m (dqa_m (List.mem_of_getElem? (i := 1) rfl)))))⟩
def lw_privs : List (MethodName × Nat) := [(⟨"SportsHouse", "isClub", "(I)Z"⟩, 7), (⟨"SportsHouse", "isCompetition", "(I)Z"⟩, 7), (⟨"SportsHouse", "isMatch", "(I)Z"⟩, 7), (⟨"SportsHouse", "isPerson", "(I)Z"⟩, 7), (⟨"SportsHouseModel", "addMatch", "(IIIII)V"⟩, 114), (⟨"SportsHouseModel", "addScore", "(III)V"⟩, 114), (⟨"SportsHouseModel", "advance", "(IIII)V"⟩, 114), (⟨"SportsHouseModel", "bad", "(II)V"⟩, 114), (⟨"SportsHouseModel", "canEven", "(III)I"⟩, 114), (⟨"SportsHouseModel", "canTry", "(II)I"⟩, 114), (⟨"SportsHouseModel", "chanceOf", "(II)I"⟩, 114), (⟨"SportsHouseModel", "clubOf", "(II)I"⟩, 114), (⟨"SportsHouseModel", "compareClubs", "(II)I"⟩, 114), (⟨"SportsHouseModel", "countLeft", "(I)V"⟩, 114), (⟨"SportsHouseModel", "countWays", "(II)I"⟩, 114), (⟨"SportsHouseModel", "counts", "(II)Z"⟩, 114), (⟨"SportsHouseModel", "distanceOf", "(II)I"⟩, 114), (⟨"SportsHouseModel", "fairOf", "(I)I"⟩, 114), (⟨"SportsHouseModel", "findPaths", "(II)V"⟩, 114), (⟨"SportsHouseModel", "hasEntered", "(II)Z"⟩, 114), (⟨"SportsHouseModel", "hit", "(III)V"⟩, 114), (⟨"SportsHouseModel", "isAhead", "(II)Z"⟩, 114), (⟨"SportsHouseModel", "isBanned", "(II)Z"⟩, 114), (⟨"SportsHouseModel", "isElsewhere", "(II)Z"⟩, 114), (⟨"SportsHouseModel", "isInDraw", "(I)Z"⟩, 114), (⟨"SportsHouseModel", "isKind", "(II)Z"⟩, 114), (⟨"SportsHouseModel", "isLeft", "(I)Z"⟩, 114), (⟨"SportsHouseModel", "isRowWell", "(III)Z"⟩, 114), (⟨"SportsHouseModel", "isTold", "(III)Z"⟩, 114), (⟨"SportsHouseModel", "lawOf", "(IIIII)I"⟩, 114), (⟨"SportsHouseModel", "lay", "(III)V"⟩, 114), (⟨"SportsHouseModel", "layBeginning", "(I)V"⟩, 114), (⟨"SportsHouseModel", "layBetween", "(II)V"⟩, 114), (⟨"SportsHouseModel", "layDefaults", "()V"⟩, 114), (⟨"SportsHouseModel", "laySlack", "(I)I"⟩, 114), (⟨"SportsHouseModel", "liveOf", "(II)I"⟩, 114), (⟨"SportsHouseModel", "matchRest", "(II)V"⟩, 114), (⟨"SportsHouseModel", "mayLead", "(II)Z"⟩, 114), (⟨"SportsHouseModel", "mayStand", "(II)Z"⟩, 114), (⟨"SportsHouseModel", "nextMatch", "(III)I"⟩, 114), (⟨"SportsHouseModel", "nothingAgainst", "(I)Z"⟩, 114), (⟨"SportsHouseModel", "orderAll", "(II)V"⟩, 114), (⟨"SportsHouseModel", "orderPart", "(IIIII)V"⟩, 114), (⟨"SportsHouseModel", "othersOf", "(II)I"⟩, 114), (⟨"SportsHouseModel", "out", "(I)V"⟩, 114), (⟨"SportsHouseModel", "placeOf", "(I)I"⟩, 114), (⟨"SportsHouseModel", "play", "(IIIII)V"⟩, 114), (⟨"SportsHouseModel", "playAnew", "(I)I"⟩, 114), (⟨"SportsHouseModel", "playBaseball", "(IIII)V"⟩, 114), (⟨"SportsHouseModel", "playFootball", "(IIIII)V"⟩, 114), (⟨"SportsHouseModel", "playTennis", "(III)V"⟩, 114), (⟨"SportsHouseModel", "playVolleyball", "(IIIII)V"⟩, 114), (⟨"SportsHouseModel", "putBehind", "(IIZ)V"⟩, 114), (⟨"SportsHouseModel", "reach", "(III)Z"⟩, 114), (⟨"SportsHouseModel", "readOrder", "()V"⟩, 114), (⟨"SportsHouseModel", "readSport", "()V"⟩, 114), (⟨"SportsHouseModel", "readStatement", "()V"⟩, 114), (⟨"SportsHouseModel", "rotate", "(I)V"⟩, 114), (⟨"SportsHouseModel", "rowAt", "(II)I"⟩, 114), (⟨"SportsHouseModel", "rule0", "(II)I"⟩, 114), (⟨"SportsHouseModel", "say", "(III)V"⟩, 114), (⟨"SportsHouseModel", "sayHead", "(II)V"⟩, 114), (⟨"SportsHouseModel", "scoreOf", "(II)I"⟩, 114), (⟨"SportsHouseModel", "sendOff", "(III)V"⟩, 114), (⟨"SportsHouseModel", "setLive", "(III)V"⟩, 114), (⟨"SportsHouseModel", "settle", "(IIIZ)I"⟩, 114), (⟨"SportsHouseModel", "shareClub", "(II)Z"⟩, 114), (⟨"SportsHouseModel", "slotOf", "(II)I"⟩, 114), (⟨"SportsHouseModel", "sortPart", "(II)V"⟩, 114), (⟨"SportsHouseModel", "standAgainst", "(II)Z"⟩, 114), (⟨"SportsHouseModel", "stands", "(IIII)Z"⟩, 114), (⟨"SportsHouseModel", "substitute", "(IIII)V"⟩, 114), (⟨"SportsHouseModel", "take", "()V"⟩, 114), (⟨"SportsHouseModel", "takenBelow", "(I)I"⟩, 114), (⟨"SportsHouseModel", "tellAll", "(II)V"⟩, 114), (⟨"SportsHouseModel", "tellResult", "(IIII)V"⟩, 114), (⟨"SportsHouseModel", "turnSides", "(I)V"⟩, 114), (⟨"SportsHouseModel", "walk", "(II)V"⟩, 114), (⟨"SportsHouseModel", "wantNumber", "(III)V"⟩, 114), (⟨"SportsHouseModel", "whichOf", "([I)I"⟩, 114), (⟨"SportsHouseModel", "whyNot", "(III)I"⟩, 114), (⟨"SportsHouse$Lots", "countFrom", "(I)I"⟩, 16), (⟨"SportsHouse$Lots", "takeBelow", "(I)I"⟩, 16), (⟨"SportsHouse$Play", "benchPlace", "(II)I"⟩, 18), (⟨"SportsHouse$Play", "closeGap", "(II)V"⟩, 18), (⟨"SportsHouse$Play", "countOut", "()V"⟩, 18), (⟨"SportsHouse$Play", "endHalf", "()V"⟩, 18), (⟨"SportsHouse$Play", "fieldPlace", "(II)I"⟩, 18), (⟨"SportsHouse$Play", "goOnBase", "(II)V"⟩, 18), (⟨"SportsHouse$Play", "hit", "(II)V"⟩, 18), (⟨"SportsHouse$Play", "isAllowed", "(II)Z"⟩, 18), (⟨"SportsHouse$Play", "isLastInning", "()Z"⟩, 18), (⟨"SportsHouse$Play", "needsPerson", "(I)Z"⟩, 18), (⟨"SportsHouse$Play", "playBaseball", "(III)V"⟩, 18), (⟨"SportsHouse$Play", "playFootball", "(III)V"⟩, 18), (⟨"SportsHouse$Play", "playTennis", "(II)V"⟩, 18), (⟨"SportsHouse$Play", "playVolleyball", "(I)V"⟩, 18), (⟨"SportsHouse$Play", "putAside", "(IIII)V"⟩, 18), (⟨"SportsHouse$Play", "rotate", "(I)V"⟩, 18), (⟨"SportsHouse$Play", "sendOff", "(II)V"⟩, 18), (⟨"SportsHouse$Play", "showYellow", "(II)V"⟩, 18), (⟨"SportsHouse$Play", "substitute", "(III)V"⟩, 18), (⟨"SportsHouse$Play", "walk", "(I)V"⟩, 18), (⟨"SportsHouse$Referees", "firstBest", "(LSportsHouse$Match;III)I"⟩, 5), (⟨"SportsHouse$Referees", "gainOf", "(LSportsHouse$Match;II)I"⟩, 5), (⟨"SportsHouse$Referees", "listMatches", "(I)V"⟩, 5), (⟨"SportsHouse$Referees", "weigh", "(LSportsHouse$Match;III)I"⟩, 5), (⟨"SportsHouse$Referees", "weighAll", "(I)V"⟩, 5), (⟨"SportsHouse$RuleText", "fail", "(I)Z"⟩, 10), (⟨"SportsHouse$RuleText", "isBetween", "(III)Z"⟩, 10), (⟨"SportsHouse$RuleText", "isOfKind", "(I)Z"⟩, 10), (⟨"SportsHouse$RuleText", "nextToken", "()V"⟩, 10), (⟨"SportsHouse$RuleText", "readOrder", "()Z"⟩, 10), (⟨"SportsHouse$RuleText", "readPoints", "()Z"⟩, 10), (⟨"SportsHouse$RuleText", "readRule", "(II)Z"⟩, 10), (⟨"SportsHouse$RuleText", "readSport", "()Z"⟩, 10), (⟨"SportsHouse$RuleText", "readStatement", "()Z"⟩, 10), (⟨"SportsHouse$RuleText", "takeRun", "(IIII)V"⟩, 10), (⟨"SportsHouse$RuleText", "wordOf", "(Ljava/lang/String;)I"⟩, 10), (⟨"SportsHouse$Season", "addFixture", "(LSportsHouse$Competition;IIII)V"⟩, 16), (⟨"SportsHouse$Season", "addRound", "(LSportsHouse$Competition;IIZI)V"⟩, 16), (⟨"SportsHouse$Season", "blockDays", "(LSportsHouse$Match;)V"⟩, 16), (⟨"SportsHouse$Season", "goBehind", "(LSportsHouse$Match;II)Z"⟩, 16), (⟨"SportsHouse$Season", "isBanned", "(ILSportsHouse$Match;)Z"⟩, 16), (⟨"SportsHouse$Season", "listAgainst", "(LSportsHouse$Match;)I"⟩, 16), (⟨"SportsHouse$Season", "listAhead", "(ILSportsHouse$Match;)I"⟩, 16), (⟨"SportsHouse$Season", "standAgainst", "(LSportsHouse$Match;LSportsHouse$Match;)Z"⟩, 16), (⟨"SportsHouse$Standings", "addCards", "(LSportsHouse$Match;)V"⟩, 14), (⟨"SportsHouse$Standings", "addSide", "(IIII)V"⟩, 14), (⟨"SportsHouse$Standings", "headWorth", "(II)J"⟩, 14), (⟨"SportsHouse$Standings", "lot", "(II)I"⟩, 14), (⟨"SportsHouse$Standings", "orderGroup", "(III)V"⟩, 14), (⟨"SportsHouse$Standings", "putWaiting", "(III)V"⟩, 14), (⟨"SportsHouse$Standings", "sort", "(II)V"⟩, 14), (⟨"SportsHouse$Standings", "weigh", "(III)V"⟩, 14), (⟨"SportsHouse$Standings", "worthOf", "(III)J"⟩, 14), (⟨"SportsHouse$Title", "awaySeatOf", "(I)I"⟩, 16), (⟨"SportsHouse$Title", "homeSeatOf", "(I)I"⟩, 16), (⟨"SportsHouse$Title", "isFirstBy", "(III)Z"⟩, 16), (⟨"SportsHouse$Title", "leastCut", "(I)I"⟩, 16), (⟨"SportsHouse$Title", "listOpen", "(II)Z"⟩, 16), (⟨"SportsHouse$Title", "noneAbove", "(I)Z"⟩, 16), (⟨"SportsHouse$Title", "openBetween", "(II)I"⟩, 16), (⟨"SportsHouse$Title", "relieve", "(II)Z"⟩, 16), (⟨"SportsHouse$Title", "search", "(I)Z"⟩, 16), (⟨"SportsHouse$Title", "setCaps", "(I)V"⟩, 16), (⟨"SportsHouse$Title", "shiftAlong", "(II)V"⟩, 16), (⟨"SportsHouse$Title", "spreadParts", "(I)Z"⟩, 16), (⟨"SportsHouse$Title", "takePartHome", "(I)Z"⟩, 16), (⟨"SportsHouse$Title", "takePoints", "(I)V"⟩, 16), (⟨"SportsHouse$Title", "takerOf", "(II)I"⟩, 16)]
def lw_tbl : List Cond := k2_sels lw_privs ++ tables_1
theorem lw_privs_ok : ∀ q ∈ lw_privs, lw_okq q := List.forall_mem_cons.mpr ⟨lw_p0, List.forall_mem_cons.mpr ⟨lw_p1, List.forall_mem_cons.mpr ⟨lw_p2, List.forall_mem_cons.mpr ⟨lw_p3, List.forall_mem_cons.mpr ⟨lw_p4, List.forall_mem_cons.mpr ⟨lw_p5, List.forall_mem_cons.mpr ⟨lw_p6, List.forall_mem_cons.mpr ⟨lw_p7, List.forall_mem_cons.mpr ⟨lw_p8, List.forall_mem_cons.mpr ⟨lw_p9, List.forall_mem_cons.mpr ⟨lw_p10, List.forall_mem_cons.mpr ⟨lw_p11, List.forall_mem_cons.mpr ⟨lw_p12, List.forall_mem_cons.mpr ⟨lw_p13, List.forall_mem_cons.mpr ⟨lw_p14, List.forall_mem_cons.mpr ⟨lw_p15, List.forall_mem_cons.mpr ⟨lw_p16, List.forall_mem_cons.mpr ⟨lw_p17, List.forall_mem_cons.mpr ⟨lw_p18, List.forall_mem_cons.mpr ⟨lw_p19, List.forall_mem_cons.mpr ⟨lw_p20, List.forall_mem_cons.mpr ⟨lw_p21, List.forall_mem_cons.mpr ⟨lw_p22, List.forall_mem_cons.mpr ⟨lw_p23, List.forall_mem_cons.mpr ⟨lw_p24, List.forall_mem_cons.mpr ⟨lw_p25, List.forall_mem_cons.mpr ⟨lw_p26, List.forall_mem_cons.mpr ⟨lw_p27, List.forall_mem_cons.mpr ⟨lw_p28, List.forall_mem_cons.mpr ⟨lw_p29, List.forall_mem_cons.mpr ⟨lw_p30, List.forall_mem_cons.mpr ⟨lw_p31, List.forall_mem_cons.mpr ⟨lw_p32, List.forall_mem_cons.mpr ⟨lw_p33, List.forall_mem_cons.mpr ⟨lw_p34, List.forall_mem_cons.mpr ⟨lw_p35, List.forall_mem_cons.mpr ⟨lw_p36, List.forall_mem_cons.mpr ⟨lw_p37, List.forall_mem_cons.mpr ⟨lw_p38, List.forall_mem_cons.mpr ⟨lw_p39, List.forall_mem_cons.mpr ⟨lw_p40, List.forall_mem_cons.mpr ⟨lw_p41, List.forall_mem_cons.mpr ⟨lw_p42, List.forall_mem_cons.mpr ⟨lw_p43, List.forall_mem_cons.mpr ⟨lw_p44, List.forall_mem_cons.mpr ⟨lw_p45, List.forall_mem_cons.mpr ⟨lw_p46, List.forall_mem_cons.mpr ⟨lw_p47, List.forall_mem_cons.mpr ⟨lw_p48, List.forall_mem_cons.mpr ⟨lw_p49, List.forall_mem_cons.mpr ⟨lw_p50, List.forall_mem_cons.mpr ⟨lw_p51, List.forall_mem_cons.mpr ⟨lw_p52, List.forall_mem_cons.mpr ⟨lw_p53, List.forall_mem_cons.mpr ⟨lw_p54, List.forall_mem_cons.mpr ⟨lw_p55, List.forall_mem_cons.mpr ⟨lw_p56, List.forall_mem_cons.mpr ⟨lw_p57, List.forall_mem_cons.mpr ⟨lw_p58, List.forall_mem_cons.mpr ⟨lw_p59, List.forall_mem_cons.mpr ⟨lw_p60, List.forall_mem_cons.mpr ⟨lw_p61, List.forall_mem_cons.mpr ⟨lw_p62, List.forall_mem_cons.mpr ⟨lw_p63, List.forall_mem_cons.mpr ⟨lw_p64, List.forall_mem_cons.mpr ⟨lw_p65, List.forall_mem_cons.mpr ⟨lw_p66, List.forall_mem_cons.mpr ⟨lw_p67, List.forall_mem_cons.mpr ⟨lw_p68, List.forall_mem_cons.mpr ⟨lw_p69, List.forall_mem_cons.mpr ⟨lw_p70, List.forall_mem_cons.mpr ⟨lw_p71, List.forall_mem_cons.mpr ⟨lw_p72, List.forall_mem_cons.mpr ⟨lw_p73, List.forall_mem_cons.mpr ⟨lw_p74, List.forall_mem_cons.mpr ⟨lw_p75, List.forall_mem_cons.mpr ⟨lw_p76, List.forall_mem_cons.mpr ⟨lw_p77, List.forall_mem_cons.mpr ⟨lw_p78, List.forall_mem_cons.mpr ⟨lw_p79, List.forall_mem_cons.mpr ⟨lw_p80, List.forall_mem_cons.mpr ⟨lw_p81, List.forall_mem_cons.mpr ⟨lw_p82, List.forall_mem_cons.mpr ⟨lw_p83, List.forall_mem_cons.mpr ⟨lw_p84, List.forall_mem_cons.mpr ⟨lw_p85, List.forall_mem_cons.mpr ⟨lw_p86, List.forall_mem_cons.mpr ⟨lw_p87, List.forall_mem_cons.mpr ⟨lw_p88, List.forall_mem_cons.mpr ⟨lw_p89, List.forall_mem_cons.mpr ⟨lw_p90, List.forall_mem_cons.mpr ⟨lw_p91, List.forall_mem_cons.mpr ⟨lw_p92, List.forall_mem_cons.mpr ⟨lw_p93, List.forall_mem_cons.mpr ⟨lw_p94, List.forall_mem_cons.mpr ⟨lw_p95, List.forall_mem_cons.mpr ⟨lw_p96, List.forall_mem_cons.mpr ⟨lw_p97, List.forall_mem_cons.mpr ⟨lw_p98, List.forall_mem_cons.mpr ⟨lw_p99, List.forall_mem_cons.mpr ⟨lw_p100, List.forall_mem_cons.mpr ⟨lw_p101, List.forall_mem_cons.mpr ⟨lw_p102, List.forall_mem_cons.mpr ⟨lw_p103, List.forall_mem_cons.mpr ⟨lw_p104, List.forall_mem_cons.mpr ⟨lw_p105, List.forall_mem_cons.mpr ⟨lw_p106, List.forall_mem_cons.mpr ⟨lw_p107, List.forall_mem_cons.mpr ⟨lw_p108, List.forall_mem_cons.mpr ⟨lw_p109, List.forall_mem_cons.mpr ⟨lw_p110, List.forall_mem_cons.mpr ⟨lw_p111, List.forall_mem_cons.mpr ⟨lw_p112, List.forall_mem_cons.mpr ⟨lw_p113, List.forall_mem_cons.mpr ⟨lw_p114, List.forall_mem_cons.mpr ⟨lw_p115, List.forall_mem_cons.mpr ⟨lw_p116, List.forall_mem_cons.mpr ⟨lw_p117, List.forall_mem_cons.mpr ⟨lw_p118, List.forall_mem_cons.mpr ⟨lw_p119, List.forall_mem_cons.mpr ⟨lw_p120, List.forall_mem_cons.mpr ⟨lw_p121, List.forall_mem_cons.mpr ⟨lw_p122, List.forall_mem_cons.mpr ⟨lw_p123, List.forall_mem_cons.mpr ⟨lw_p124, List.forall_mem_cons.mpr ⟨lw_p125, List.forall_mem_cons.mpr ⟨lw_p126, List.forall_mem_cons.mpr ⟨lw_p127, List.forall_mem_cons.mpr ⟨lw_p128, List.forall_mem_cons.mpr ⟨lw_p129, List.forall_mem_cons.mpr ⟨lw_p130, List.forall_mem_cons.mpr ⟨lw_p131, List.forall_mem_cons.mpr ⟨lw_p132, List.forall_mem_cons.mpr ⟨lw_p133, List.forall_mem_cons.mpr ⟨lw_p134, List.forall_mem_cons.mpr ⟨lw_p135, List.forall_mem_cons.mpr ⟨lw_p136, List.forall_mem_cons.mpr ⟨lw_p137, List.forall_mem_cons.mpr ⟨lw_p138, List.forall_mem_cons.mpr ⟨lw_p139, List.forall_mem_cons.mpr ⟨lw_p140, List.forall_mem_cons.mpr ⟨lw_p141, List.forall_mem_cons.mpr ⟨lw_p142, List.forall_mem_cons.mpr ⟨lw_p143, List.forall_mem_cons.mpr ⟨lw_p144, List.forall_mem_cons.mpr ⟨lw_p145, List.forall_mem_cons.mpr ⟨lw_p146, List.forall_mem_cons.mpr ⟨lw_p147, List.forall_mem_cons.mpr ⟨lw_p148, List.forall_mem_cons.mpr ⟨lw_p149, List.forall_mem_cons.mpr ⟨lw_p150, fun _ h => absurd h List.not_mem_nil⟩⟩⟩⟩⟩⟩⟩⟩⟩⟩⟩⟩⟩⟩⟩⟩⟩⟩⟩⟩⟩⟩⟩⟩⟩⟩⟩⟩⟩⟩⟩⟩⟩⟩⟩⟩⟩⟩⟩⟩⟩⟩⟩⟩⟩⟩⟩⟩⟩⟩⟩⟩⟩⟩⟩⟩⟩⟩⟩⟩⟩⟩⟩⟩⟩⟩⟩⟩⟩⟩⟩⟩⟩⟩⟩⟩⟩⟩⟩⟩⟩⟩⟩⟩⟩⟩⟩⟩⟩⟩⟩⟩⟩⟩⟩⟩⟩⟩⟩⟩⟩⟩⟩⟩⟩⟩⟩⟩⟩⟩⟩⟩⟩⟩⟩⟩⟩⟩⟩⟩⟩⟩⟩⟩⟩⟩⟩⟩⟩⟩⟩⟩⟩⟩⟩⟩⟩⟩⟩⟩⟩⟩⟩⟩⟩⟩⟩⟩⟩⟩⟩
def RX0 : String := "SportsHouse$Competition"
def TX0 : u_T := fun k => match k with
  | 0 => ("SportsHouse$Competition", "number", "I", true)
  | 1 => ("SportsHouse$Competition", "rules", "[I", true)
  | 2 => ("SportsHouse$Competition", "keys", "[I", true)
  | 3 => ("SportsHouse$Competition", "clubs", "[I", true)
  | 4 => ("SportsHouse$Competition", "seat", "[I", true)
  | 5 => ("SportsHouse$Competition", "entered", "I", false)
  | 6 => ("SportsHouse$Competition", "planned", "Z", false)
  | 7 => ("SportsHouse$Competition", "firstMatch", "I", false)
  | _ => ("SportsHouse$Competition", "matchCount", "I", false)
def tyX0 : Nat → FieldType := fun k => match k with
  | 0 => .int
  | 1 => .array .int
  | 2 => .array .int
  | 3 => .array .int
  | 4 => .array .int
  | 5 => .int
  | 6 => .boolean
  | 7 => .int
  | _ => .int
abbrev wsX00 : List Cond := u_ws RX0 TX0 9
theorem nmX0 : ∀ a, a < 9 → ∀ b, b < 9 → a ≠ b → (TX0 a).2.1 ≠ (TX0 b).2.1 := by decide +kernel
theorem tyX0_ok : ∀ k, k < 9 → parseFieldDescriptor (TX0 k).2.2.1 = some (tyX0 k) := by decide +kernel
def RX1 : String := "SportsHouse$Lots"
def TX1 : u_T := fun k => match k with
  | 0 => ("SportsHouse$Lots", "things", "LSportsHouse$Things;", true)
  | 1 => ("SportsHouse$Lots", "groups", "I", false)
  | 2 => ("SportsHouse$Lots", "limit", "I", false)
  | 3 => ("SportsHouse$Lots", "clubCount", "I", false)
  | 4 => ("SportsHouse$Lots", "drawnCount", "I", false)
  | 5 => ("SportsHouse$Lots", "random", "I", false)
  | 6 => ("SportsHouse$Lots", "total", "I", false)
  | 7 => ("SportsHouse$Lots", "fresh", "Z", false)
  | 8 => ("SportsHouse$Lots", "potOf", "[I", true)
  | 9 => ("SportsHouse$Lots", "groupOf", "[I", true)
  | 10 => ("SportsHouse$Lots", "potSize", "[I", true)
  | 11 => ("SportsHouse$Lots", "with", "[I", true)
  | 12 => ("SportsHouse$Lots", "waiting", "[I", true)
  | 13 => ("SportsHouse$Lots", "waitingCount", "I", false)
  | 14 => ("SportsHouse$Lots", "taken", "[I", true)
  | _ => ("SportsHouse$Lots", "countrymen", "[I", true)
def tyX1 : Nat → FieldType := fun k => match k with
  | 0 => .object "SportsHouse$Things"
  | 1 => .int
  | 2 => .int
  | 3 => .int
  | 4 => .int
  | 5 => .int
  | 6 => .int
  | 7 => .boolean
  | 8 => .array .int
  | 9 => .array .int
  | 10 => .array .int
  | 11 => .array .int
  | 12 => .array .int
  | 13 => .int
  | 14 => .array .int
  | _ => .array .int
abbrev wsX10 : List Cond := u_ws RX1 TX1 16
theorem nmX1 : ∀ a, a < 16 → ∀ b, b < 16 → a ≠ b → (TX1 a).2.1 ≠ (TX1 b).2.1 := by decide +kernel
theorem tyX1_ok : ∀ k, k < 16 → parseFieldDescriptor (TX1 k).2.2.1 = some (tyX1 k) := by decide +kernel
def RX2 : String := "SportsHouse$Match"
def TX2 : u_T := fun k => match k with
  | 0 => ("SportsHouse$Match", "contest", "LSportsHouse$Competition;", true)
  | 1 => ("SportsHouse$Match", "number", "I", true)
  | 2 => ("SportsHouse$Match", "round", "I", true)
  | 3 => ("SportsHouse$Match", "home", "I", true)
  | 4 => ("SportsHouse$Match", "away", "I", true)
  | 5 => ("SportsHouse$Match", "date", "I", false)
  | 6 => ("SportsHouse$Match", "absent", "I", false)
  | 7 => ("SportsHouse$Match", "referee", "I", false)
  | 8 => ("SportsHouse$Match", "sheet", "[I", true)
  | 9 => ("SportsHouse$Match", "listed", "[I", true)
  | _ => ("SportsHouse$Match", "play", "LSportsHouse$Play;", false)
def tyX2 : Nat → FieldType := fun k => match k with
  | 0 => .object "SportsHouse$Competition"
  | 1 => .int
  | 2 => .int
  | 3 => .int
  | 4 => .int
  | 5 => .int
  | 6 => .int
  | 7 => .int
  | 8 => .array .int
  | 9 => .array .int
  | _ => .object "SportsHouse$Play"
abbrev wsX20 : List Cond := u_ws RX2 TX2 11
theorem nmX2 : ∀ a, a < 11 → ∀ b, b < 11 → a ≠ b → (TX2 a).2.1 ≠ (TX2 b).2.1 := by decide +kernel
theorem tyX2_ok : ∀ k, k < 11 → parseFieldDescriptor (TX2 k).2.2.1 = some (tyX2 k) := by decide +kernel
def RX3 : String := "SportsHouse$Play"
def TX3 : u_T := fun k => match k with
  | 0 => ("SportsHouse$Play", "rules", "[I", true)
  | 1 => ("SportsHouse$Play", "sheet", "[I", true)
  | 2 => ("SportsHouse$Play", "listed", "[I", true)
  | 3 => ("SportsHouse$Play", "ended", "Z", false)
  | 4 => ("SportsHouse$Play", "phase", "I", false)
  | 5 => ("SportsHouse$Play", "server", "I", false)
  | 6 => ("SportsHouse$Play", "points", "[I", true)
  | 7 => ("SportsHouse$Play", "games", "[I", true)
  | 8 => ("SportsHouse$Play", "score", "[I", true)
  | 9 => ("SportsHouse$Play", "changes", "[I", true)
  | 10 => ("SportsHouse$Play", "fielded", "[I", true)
  | 11 => ("SportsHouse$Play", "field", "[I", true)
  | 12 => ("SportsHouse$Play", "role", "[I", true)
  | 13 => ("SportsHouse$Play", "yellows", "[I", true)
  | 14 => ("SportsHouse$Play", "log", "[I", false)
  | 15 => ("SportsHouse$Play", "logged", "I", false)
  | 16 => ("SportsHouse$Play", "aside", "[I", false)
  | _ => ("SportsHouse$Play", "asides", "I", false)
def tyX3 : Nat → FieldType := fun k => match k with
  | 0 => .array .int
  | 1 => .array .int
  | 2 => .array .int
  | 3 => .boolean
  | 4 => .int
  | 5 => .int
  | 6 => .array .int
  | 7 => .array .int
  | 8 => .array .int
  | 9 => .array .int
  | 10 => .array .int
  | 11 => .array .int
  | 12 => .array .int
  | 13 => .array .int
  | 14 => .array .int
  | 15 => .int
  | 16 => .array .int
  | _ => .int
abbrev wsX30 : List Cond := u_ws RX3 TX3 18
theorem nmX3 : ∀ a, a < 18 → ∀ b, b < 18 → a ≠ b → (TX3 a).2.1 ≠ (TX3 b).2.1 := by decide +kernel
theorem tyX3_ok : ∀ k, k < 18 → parseFieldDescriptor (TX3 k).2.2.1 = some (tyX3 k) := by decide +kernel
def RX4 : String := "SportsHouse$Referees"
def TX4 : u_T := fun k => match k with
  | 0 => ("SportsHouse$Referees", "season", "LSportsHouse$Season;", true)
  | 1 => ("SportsHouse$Referees", "things", "LSportsHouse$Things;", true)
  | 2 => ("SportsHouse$Referees", "toServe", "[I", true)
  | 3 => ("SportsHouse$Referees", "serveCount", "I", false)
  | _ => ("SportsHouse$Referees", "best", "[I", false)
def tyX4 : Nat → FieldType := fun k => match k with
  | 0 => .object "SportsHouse$Season"
  | 1 => .object "SportsHouse$Things"
  | 2 => .array .int
  | 3 => .int
  | _ => .array .int
abbrev wsX40 : List Cond := u_ws RX4 TX4 5
theorem nmX4 : ∀ a, a < 5 → ∀ b, b < 5 → a ≠ b → (TX4 a).2.1 ≠ (TX4 b).2.1 := by decide +kernel
theorem tyX4_ok : ∀ k, k < 5 → parseFieldDescriptor (TX4 k).2.2.1 = some (tyX4 k) := by decide +kernel
def RX5 : String := "SportsHouse$RuleText"
def TX5 : u_T := fun k => match k with
  | 0 => ("SportsHouse$RuleText", "bytes", "[I", true)
  | 1 => ("SportsHouse$RuleText", "length", "I", false)
  | 2 => ("SportsHouse$RuleText", "faultKind", "I", false)
  | 3 => ("SportsHouse$RuleText", "faultAt", "I", false)
  | 4 => ("SportsHouse$RuleText", "values", "[I", true)
  | 5 => ("SportsHouse$RuleText", "keys", "[I", true)
  | 6 => ("SportsHouse$RuleText", "toldBits", "I", false)
  | 7 => ("SportsHouse$RuleText", "tokenKind", "I", false)
  | 8 => ("SportsHouse$RuleText", "tokenStart", "I", false)
  | _ => ("SportsHouse$RuleText", "tokenEnd", "I", false)
def tyX5 : Nat → FieldType := fun k => match k with
  | 0 => .array .int
  | 1 => .int
  | 2 => .int
  | 3 => .int
  | 4 => .array .int
  | 5 => .array .int
  | 6 => .int
  | 7 => .int
  | 8 => .int
  | _ => .int
abbrev wsX50 : List Cond := u_ws RX5 TX5 10
theorem nmX5 : ∀ a, a < 10 → ∀ b, b < 10 → a ≠ b → (TX5 a).2.1 ≠ (TX5 b).2.1 := by decide +kernel
theorem tyX5_ok : ∀ k, k < 10 → parseFieldDescriptor (TX5 k).2.2.1 = some (tyX5 k) := by decide +kernel
def RX6 : String := "SportsHouse$Season"
def TX6 : u_T := fun k => match k with
  | 0 => ("SportsHouse$Season", "things", "LSportsHouse$Things;", true)
  | 1 => ("SportsHouse$Season", "competitions", "[LSportsHouse$Competition;", true)
  | 2 => ("SportsHouse$Season", "competitionCount", "I", false)
  | 3 => ("SportsHouse$Season", "matches", "[LSportsHouse$Match;", true)
  | 4 => ("SportsHouse$Season", "matchCount", "I", false)
  | 5 => ("SportsHouse$Season", "rowCount", "I", false)
  | 6 => ("SportsHouse$Season", "deductions", "I", false)
  | 7 => ("SportsHouse$Season", "deductedIn", "[I", true)
  | 8 => ("SportsHouse$Season", "deductedFrom", "[I", true)
  | 9 => ("SportsHouse$Season", "deductedPoints", "[I", true)
  | 10 => ("SportsHouse$Season", "deductedOn", "[I", true)
  | 11 => ("SportsHouse$Season", "movedMatches", "[I", true)
  | 12 => ("SportsHouse$Season", "movedCount", "I", false)
  | 13 => ("SportsHouse$Season", "listed", "[I", true)
  | 14 => ("SportsHouse$Season", "datesBefore", "[I", true)
  | _ => ("SportsHouse$Season", "blocked", "[I", true)
def tyX6 : Nat → FieldType := fun k => match k with
  | 0 => .object "SportsHouse$Things"
  | 1 => .array (.object "SportsHouse$Competition")
  | 2 => .int
  | 3 => .array (.object "SportsHouse$Match")
  | 4 => .int
  | 5 => .int
  | 6 => .int
  | 7 => .array .int
  | 8 => .array .int
  | 9 => .array .int
  | 10 => .array .int
  | 11 => .array .int
  | 12 => .int
  | 13 => .array .int
  | 14 => .array .int
  | _ => .array .int
abbrev wsX60 : List Cond := u_ws RX6 TX6 16
theorem nmX6 : ∀ a, a < 16 → ∀ b, b < 16 → a ≠ b → (TX6 a).2.1 ≠ (TX6 b).2.1 := by decide +kernel
theorem tyX6_ok : ∀ k, k < 16 → parseFieldDescriptor (TX6 k).2.2.1 = some (tyX6 k) := by decide +kernel
def RX7 : String := "SportsHouse$Standings"
def TX7 : u_T := fun k => match k with
  | 0 => ("SportsHouse$Standings", "season", "LSportsHouse$Season;", true)
  | 1 => ("SportsHouse$Standings", "contest", "LSportsHouse$Competition;", false)
  | 2 => ("SportsHouse$Standings", "lines", "[I", true)
  | 3 => ("SportsHouse$Standings", "away", "[I", true)
  | 4 => ("SportsHouse$Standings", "fair", "[I", true)
  | 5 => ("SportsHouse$Standings", "headPoints", "[I", true)
  | 6 => ("SportsHouse$Standings", "headScored", "[I", true)
  | 7 => ("SportsHouse$Standings", "order", "[I", true)
  | 8 => ("SportsHouse$Standings", "partedBy", "[I", true)
  | 9 => ("SportsHouse$Standings", "worth", "[J", true)
  | 10 => ("SportsHouse$Standings", "waitingFrom", "[I", true)
  | 11 => ("SportsHouse$Standings", "waitingTo", "[I", true)
  | 12 => ("SportsHouse$Standings", "waitingKey", "[I", true)
  | _ => ("SportsHouse$Standings", "waiting", "I", false)
def tyX7 : Nat → FieldType := fun k => match k with
  | 0 => .object "SportsHouse$Season"
  | 1 => .object "SportsHouse$Competition"
  | 2 => .array .int
  | 3 => .array .int
  | 4 => .array .int
  | 5 => .array .int
  | 6 => .array .int
  | 7 => .array .int
  | 8 => .array .int
  | 9 => .array .long
  | 10 => .array .int
  | 11 => .array .int
  | 12 => .array .int
  | _ => .int
abbrev wsX70 : List Cond := u_ws RX7 TX7 14
theorem nmX7 : ∀ a, a < 14 → ∀ b, b < 14 → a ≠ b → (TX7 a).2.1 ≠ (TX7 b).2.1 := by decide +kernel
theorem tyX7_ok : ∀ k, k < 14 → parseFieldDescriptor (TX7 k).2.2.1 = some (tyX7 k) := by decide +kernel
def RX8 : String := "SportsHouse$Things"
def TX8 : u_T := fun k => match k with
  | 0 => ("SportsHouse$Things", "stadium", "[I", true)
  | 1 => ("SportsHouse$Things", "country", "[I", true)
  | 2 => ("SportsHouse$Things", "clubs", "I", false)
  | 3 => ("SportsHouse$Things", "persons", "I", false)
  | 4 => ("SportsHouse$Things", "firstSpan", "[I", true)
  | 5 => ("SportsHouse$Things", "spans", "I", false)
  | 6 => ("SportsHouse$Things", "spanClub", "[I", true)
  | 7 => ("SportsHouse$Things", "spanFrom", "[I", true)
  | 8 => ("SportsHouse$Things", "spanTo", "[I", true)
  | 9 => ("SportsHouse$Things", "nextSpan", "[I", true)
  | 10 => ("SportsHouse$Things", "officialHome", "[I", true)
  | 11 => ("SportsHouse$Things", "officialCountry", "[I", true)
  | 12 => ("SportsHouse$Things", "officials", "I", false)
  | _ => ("SportsHouse$Things", "today", "I", false)
def tyX8 : Nat → FieldType := fun k => match k with
  | 0 => .array .int
  | 1 => .array .int
  | 2 => .int
  | 3 => .int
  | 4 => .array .int
  | 5 => .int
  | 6 => .array .int
  | 7 => .array .int
  | 8 => .array .int
  | 9 => .array .int
  | 10 => .array .int
  | 11 => .array .int
  | 12 => .int
  | _ => .int
abbrev wsX80 : List Cond := u_ws RX8 TX8 14
theorem nmX8 : ∀ a, a < 14 → ∀ b, b < 14 → a ≠ b → (TX8 a).2.1 ≠ (TX8 b).2.1 := by decide +kernel
theorem tyX8_ok : ∀ k, k < 14 → parseFieldDescriptor (TX8 k).2.2.1 = some (tyX8 k) := by decide +kernel
def RX9 : String := "SportsHouse$Title"
def TX9 : u_T := fun k => match k with
  | 0 => ("SportsHouse$Title", "season", "LSportsHouse$Season;", true)
  | 1 => ("SportsHouse$Title", "standings", "LSportsHouse$Standings;", true)
  | 2 => ("SportsHouse$Title", "answer", "I", false)
  | 3 => ("SportsHouse$Title", "cutBits", "I", false)
  | 4 => ("SportsHouse$Title", "results", "[I", true)
  | 5 => ("SportsHouse$Title", "contest", "LSportsHouse$Competition;", false)
  | 6 => ("SportsHouse$Title", "best", "I", false)
  | 7 => ("SportsHouse$Title", "points", "[I", true)
  | 8 => ("SportsHouse$Title", "open", "[I", true)
  | 9 => ("SportsHouse$Title", "openCount", "I", false)
  | 10 => ("SportsHouse$Title", "homeParts", "[I", true)
  | 11 => ("SportsHouse$Title", "cap", "[I", true)
  | 12 => ("SportsHouse$Title", "load", "[I", true)
  | 13 => ("SportsHouse$Title", "via", "[I", true)
  | 14 => ("SportsHouse$Title", "queue", "[I", true)
  | _ => ("SportsHouse$Title", "slack", "[I", false)
def tyX9 : Nat → FieldType := fun k => match k with
  | 0 => .object "SportsHouse$Season"
  | 1 => .object "SportsHouse$Standings"
  | 2 => .int
  | 3 => .int
  | 4 => .array .int
  | 5 => .object "SportsHouse$Competition"
  | 6 => .int
  | 7 => .array .int
  | 8 => .array .int
  | 9 => .int
  | 10 => .array .int
  | 11 => .array .int
  | 12 => .array .int
  | 13 => .array .int
  | 14 => .array .int
  | _ => .array .int
abbrev wsX90 : List Cond := u_ws RX9 TX9 16
theorem nmX9 : ∀ a, a < 16 → ∀ b, b < 16 → a ≠ b → (TX9 a).2.1 ≠ (TX9 b).2.1 := by decide +kernel
theorem tyX9_ok : ∀ k, k < 16 → parseFieldDescriptor (TX9 k).2.2.1 = some (tyX9 k) := by decide +kernel
def RX10 : String := "SportsHouse"
def TX10 : u_T := fun k => match k with
  | 0 => ("SportsHouse", "text", "LSportsHouse$RuleText;", true)
  | 1 => ("SportsHouse", "things", "LSportsHouse$Things;", true)
  | 2 => ("SportsHouse", "season", "LSportsHouse$Season;", true)
  | 3 => ("SportsHouse", "standings", "LSportsHouse$Standings;", true)
  | 4 => ("SportsHouse", "title", "LSportsHouse$Title;", true)
  | 5 => ("SportsHouse", "lots", "LSportsHouse$Lots;", true)
  | _ => ("SportsHouse", "referees", "LSportsHouse$Referees;", true)
def tyX10 : Nat → FieldType := fun k => match k with
  | 0 => .object "SportsHouse$RuleText"
  | 1 => .object "SportsHouse$Things"
  | 2 => .object "SportsHouse$Season"
  | 3 => .object "SportsHouse$Standings"
  | 4 => .object "SportsHouse$Title"
  | 5 => .object "SportsHouse$Lots"
  | _ => .object "SportsHouse$Referees"
abbrev wsX100 : List Cond := u_ws RX10 TX10 7
theorem nmX10 : ∀ a, a < 7 → ∀ b, b < 7 → a ≠ b → (TX10 a).2.1 ≠ (TX10 b).2.1 := by decide +kernel
theorem tyX10_ok : ∀ k, k < 7 → parseFieldDescriptor (TX10 k).2.2.1 = some (tyX10 k) := by decide +kernel
def RX11 : String := "SportsHouseModel"
def LX11 : List (List (String × String × String × Bool)) := [[("SportsHouseModel", "text", "[I", true), ("SportsHouseModel", "length", "I", false), ("SportsHouseModel", "faultAt", "I", false), ("SportsHouseModel", "today", "I", false), ("SportsHouseModel", "fresh", "[I", true), ("SportsHouseModel", "rules", "[I", true), ("SportsHouseModel", "competitions", "I", false), ("SportsHouseModel", "entrants", "[I", true)], [("SportsHouseModel", "entered", "[I", true), ("SportsHouseModel", "planned", "[Z", true), ("SportsHouseModel", "firstOf", "[I", true), ("SportsHouseModel", "manyOf", "[I", true), ("SportsHouseModel", "clubs", "I", false), ("SportsHouseModel", "stadiums", "[I", true), ("SportsHouseModel", "countries", "[I", true), ("SportsHouseModel", "persons", "I", false)], [("SportsHouseModel", "spans", "I", false), ("SportsHouseModel", "spanPerson", "[I", true), ("SportsHouseModel", "spanClub", "[I", true), ("SportsHouseModel", "spanFrom", "[I", true), ("SportsHouseModel", "spanTo", "[I", true), ("SportsHouseModel", "officials", "I", false), ("SportsHouseModel", "homes", "[I", true), ("SportsHouseModel", "officialCountries", "[I", true)], [("SportsHouseModel", "deducted", "I", false), ("SportsHouseModel", "deductComp", "[I", true), ("SportsHouseModel", "deductClub", "[I", true), ("SportsHouseModel", "deductPoints", "[I", true), ("SportsHouseModel", "deductDay", "[I", true), ("SportsHouseModel", "matches", "I", false), ("SportsHouseModel", "mComp", "[I", true), ("SportsHouseModel", "mRound", "[I", true)], [("SportsHouseModel", "mHome", "[I", true), ("SportsHouseModel", "mAway", "[I", true), ("SportsHouseModel", "mDay", "[I", true), ("SportsHouseModel", "mWhat", "[I", true), ("SportsHouseModel", "mScore0", "[I", true), ("SportsHouseModel", "mScore1", "[I", true), ("SportsHouseModel", "mOfficial", "[I", true), ("SportsHouseModel", "sheetMany", "[I", true)], [("SportsHouseModel", "sheetPerson", "[I", true), ("SportsHouseModel", "sheetStands", "[I", true), ("SportsHouseModel", "sheetYellows", "[I", true), ("SportsHouseModel", "sheetSent", "[Z", true), ("SportsHouseModel", "fieldMany", "[I", true), ("SportsHouseModel", "fieldSlot", "[I", true), ("SportsHouseModel", "live", "[I", true), ("SportsHouseModel", "rowsMade", "I", false)], [("SportsHouseModel", "rKind", "[I", true), ("SportsHouseModel", "rSide", "[I", true), ("SportsHouseModel", "rPerson", "[I", true), ("SportsHouseModel", "rOther", "[I", true), ("SportsHouseModel", "rNext", "[I", true), ("SportsHouseModel", "rowFirst", "[I", true), ("SportsHouseModel", "rowMany", "[I", true), ("SportsHouseModel", "asideFirst", "[I", true)], [("SportsHouseModel", "asideMany", "[I", true), ("SportsHouseModel", "at", "I", false), ("SportsHouseModel", "tKind", "I", false), ("SportsHouseModel", "tFrom", "I", false), ("SportsHouseModel", "tTo", "I", false), ("SportsHouseModel", "tValue", "I", false), ("SportsHouseModel", "badNumber", "I", false), ("SportsHouseModel", "badAt", "I", false)], [("SportsHouseModel", "statementWords", "[I", true), ("SportsHouseModel", "sportWords", "[I", true), ("SportsHouseModel", "keyWords", "[I", true), ("SportsHouseModel", "least", "[I", true), ("SportsHouseModel", "greatest", "[I", true), ("SportsHouseModel", "toldAlready", "[Z", true), ("SportsHouseModel", "keyTold", "[Z", true), ("SportsHouseModel", "gone", "[I", true)], [("SportsHouseModel", "wasDay", "[I", true), ("SportsHouseModel", "goneMany", "I", false), ("SportsHouseModel", "movedRow", "[I", true), ("SportsHouseModel", "movedMany", "I", false), ("SportsHouseModel", "told", "[I", true), ("SportsHouseModel", "standingClub", "[I", true), ("SportsHouseModel", "partedBy", "[I", true), ("SportsHouseModel", "standingMany", "I", false)], [("SportsHouseModel", "supposes", "Z", false), ("SportsHouseModel", "supposed", "[I", true), ("SportsHouseModel", "result0", "I", false), ("SportsHouseModel", "result1", "I", false), ("SportsHouseModel", "says", "[I", true), ("SportsHouseModel", "groupBits", "I", false), ("SportsHouseModel", "pile", "[I", true), ("SportsHouseModel", "piled", "I", false)], [("SportsHouseModel", "witnessOf", "I", false), ("SportsHouseModel", "witnessed", "[I", true), ("SportsHouseModel", "cutBits", "I", false), ("SportsHouseModel", "points", "[I", true), ("SportsHouseModel", "leftOf", "[I", true), ("SportsHouseModel", "spare", "[I", true), ("SportsHouseModel", "between", "[I", true), ("SportsHouseModel", "best", "I", false)], [("SportsHouseModel", "slack", "[I", true), ("SportsHouseModel", "open", "[I", true), ("SportsHouseModel", "isDraw", "Z", false), ("SportsHouseModel", "groups", "I", false), ("SportsHouseModel", "limit", "I", false), ("SportsHouseModel", "potOf", "[I", true), ("SportsHouseModel", "groupOf", "[I", true), ("SportsHouseModel", "seed", "I", false)], [("SportsHouseModel", "trying", "[I", true), ("SportsHouseModel", "tried", "[I", true), ("SportsHouseModel", "dayMatch", "[I", true), ("SportsHouseModel", "dayMany", "I", false), ("SportsHouseModel", "holds", "[I", true), ("SportsHouseModel", "far", "[I", true), ("SportsHouseModel", "comesBy", "[I", true), ("SportsHouseModel", "hasOne", "[I", true)], [("SportsHouseModel", "foundMany", "I", false), ("SportsHouseModel", "foundSum", "I", false)]]
def TX11 : u_T := fun k => (LX11.getD (k / 8) []).getD (k % 8) ("SportsHouseModel", "foundSum", "I", false)
def MX11 : List (List FieldType) := [[.array .int, .int, .int, .int, .array .int, .array .int, .int, .array .int], [.array .int, .array .boolean, .array .int, .array .int, .int, .array .int, .array .int, .int], [.int, .array .int, .array .int, .array .int, .array .int, .int, .array .int, .array .int], [.int, .array .int, .array .int, .array .int, .array .int, .int, .array .int, .array .int], [.array .int, .array .int, .array .int, .array .int, .array .int, .array .int, .array .int, .array .int], [.array .int, .array .int, .array .int, .array .boolean, .array .int, .array .int, .array .int, .int], [.array .int, .array .int, .array .int, .array .int, .array .int, .array .int, .array .int, .array .int], [.array .int, .int, .int, .int, .int, .int, .int, .int], [.array .int, .array .int, .array .int, .array .int, .array .int, .array .boolean, .array .boolean, .array .int], [.array .int, .int, .array .int, .int, .array .int, .array .int, .array .int, .int], [.boolean, .array .int, .int, .int, .array .int, .int, .array .int, .int], [.int, .array .int, .int, .array .int, .array .int, .array .int, .array .int, .int], [.array .int, .array .int, .boolean, .int, .int, .array .int, .array .int, .int], [.array .int, .array .int, .array .int, .int, .array .int, .array .int, .array .int, .array .int], [.int, .int]]
def tyX11 : Nat → FieldType := fun k => (MX11.getD (k / 8) []).getD (k % 8) .int
abbrev wsX110 : List Cond := u_ws RX11 TX11 114
def sqh_ (s : String) : Nat := s.toByteArray.data.toList.foldl (fun h b => h * 256 + b.toNat) 0
def HX11 : List (List Nat) := [[1952807028, 119182899770472, 28817604583113076, 500085055865, 440005915496, 491596309875, 30773723549582938732778974835, 7308907279878616179], [28550418845033828, 31644363111949668, 28826387908677478, 120265232699238, 427021394547, 8319381495554076019, 1834259110254145529203, 31636739628953203], [495806672499, 545145201503530428624750, 8318255637958784354, 8318255638009507693, 126926508151919, 2054967293096944036979, 448546039155, 37907455735603011591321731092985854649715], [7234298831783093604, 474107008239736252755312, 474107008239736252560738, 31071076891999369354156078195, 1851980500936469799289, 30787924973348211, 469282811248, 120200824712804], [469366697317, 469249778041, 1833197945, 469617893748, 30772458998097200, 30772458998097201, 2016416477013787369836, 2128898098779379560057], [139519465801608734629392238, 139519465801612097303241843, 35716983245214369314027566963, 2128898098779480485492, 1889162491043055234681, 1889162491043156619124, 1818850917, 8245940779841840229], [490891472484, 491025687653, 32176543987101550, 125685580981618, 490941544564, 8245940587039191924, 32210705535037049, 460198518713056928887668], [1797650463722995543673, 24948, 499481407076, 499398111085, 7623791, 127914350507365, 1814798739609139438962, 422540755316], [2341697732031921526464468223157363, 545146211475269105116275, 7738724951144948851, 465557353332, 7454131802490631028, 140761577227429991378150521, 30229394290076772, 1735356005], [131260429394297, 7453297289690443385, 7885651650395926391, 2018726822501272350329, 1953459300, 35731471630456102017391424866, 8097879449231704697, 35731471630456102017558474361], [8319679514845341043, 8319679514845341028, 32199693910701104, 32199693910701105, 1935767923, 1908260578159833478259, 1885957221, 482805048676], [2202761364624725200742, 2202761364624725206372, 27995164885218419, 123623812527219, 119182766395238, 495806673509, 27696098611389806, 1650815860], [495739560811, 1869636974, 115943790502263, 113741193900147, 465625246068, 482906230630, 29117745638428518, 1936024932], [128035012046439, 500135716196, 7233195849788187496, 28254671288233593, 448545973363, 6709618, 27988538338525817, 114767755701861], [1889599342405933428345, 7381247431273575789]]
def hqX11 (k : Nat) : Nat := (HX11.getD (k / 8) []).getD (k % 8) 0
theorem hqX11_k : ∀ k, k < 114 → sqh_ (TX11 k).2.1 = hqX11 k := by decide +kernel
theorem hqX11_i : ∀ a, a < 114 → ∀ b, b < 114 → a ≠ b → hqX11 a ≠ hqX11 b := by decide +kernel
theorem nmX11 : ∀ a, a < 114 → ∀ b, b < 114 → a ≠ b → (TX11 a).2.1 ≠ (TX11 b).2.1 := fun a ha b hb hn e => hqX11_i a ha b hb hn (((hqX11_k a ha).symm.trans (congrArg sqh_ e)).trans (hqX11_k b hb))
theorem tyX11_ok : ∀ k, k < 114 → parseFieldDescriptor (TX11 k).2.2.1 = some (tyX11 k) := by decide +kernel
def RL : String := "SportsHouseLaw"
def RJ7 : String := "java/util/Arrays"
abbrev vwCl : List vw_C := [(RX0, TX0, 9), (RX1, TX1, 16), (RX2, TX2, 11), (RX3, TX3, 18), (RX4, TX4, 5), (RX5, TX5, 10), (RX6, TX6, 16), (RX7, TX7, 14), (RX8, TX8, 14), (RX9, TX9, 16), (RX10, TX10, 7), (RX11, TX11, 114)]
/-- the words that go on holding -/
def lw_g : List Cond := lw_tbl.filter goodWord
theorem lw_at {w : Cond} (i : Nat) (h : tables_1[i]? = some w) (hg : goodWord w = true) : w ∈ lw_g := List.mem_filter.mpr ⟨List.mem_append_right _ (List.mem_of_getElem? h), hg⟩
theorem lwq_1 {w : Cond} (h : w ∈ tables_1_1) (hg : goodWord w = true) : w ∈ lw_g := List.mem_filter.mpr ⟨List.mem_append_right _ (lt_b1 h), hg⟩
theorem lwq_2 {w : Cond} (h : w ∈ tables_1_2) (hg : goodWord w = true) : w ∈ lw_g := List.mem_filter.mpr ⟨List.mem_append_right _ (lt_b2 h), hg⟩
theorem lwq_3 {w : Cond} (h : w ∈ tables_1_3) (hg : goodWord w = true) : w ∈ lw_g := List.mem_filter.mpr ⟨List.mem_append_right _ (lt_b3 h), hg⟩
theorem lwq_4 {w : Cond} (h : w ∈ tables_1_4) (hg : goodWord w = true) : w ∈ lw_g := List.mem_filter.mpr ⟨List.mem_append_right _ (lt_b4 h), hg⟩
theorem lwq_5 {w : Cond} (h : w ∈ tables_1_5) (hg : goodWord w = true) : w ∈ lw_g := List.mem_filter.mpr ⟨List.mem_append_right _ (lt_b5 h), hg⟩
theorem lwq_6 {w : Cond} (h : w ∈ tables_1_6) (hg : goodWord w = true) : w ∈ lw_g := List.mem_filter.mpr ⟨List.mem_append_right _ (lt_b6 h), hg⟩
theorem lwq_7 {w : Cond} (h : w ∈ tables_1_7) (hg : goodWord w = true) : w ∈ lw_g := List.mem_filter.mpr ⟨List.mem_append_right _ (lt_b7 h), hg⟩
theorem lwq_8 {w : Cond} (h : w ∈ tables_1_8) (hg : goodWord w = true) : w ∈ lw_g := List.mem_filter.mpr ⟨List.mem_append_right _ (lt_b8 h), hg⟩
theorem lwq_9 {w : Cond} (h : w ∈ tables_1_9) (hg : goodWord w = true) : w ∈ lw_g := List.mem_filter.mpr ⟨List.mem_append_right _ (lt_b9 h), hg⟩
theorem lwq_10 {w : Cond} (h : w ∈ tables_1_10) (hg : goodWord w = true) : w ∈ lw_g := List.mem_filter.mpr ⟨List.mem_append_right _ (lt_b10 h), hg⟩
theorem lw_sub2 {L : List Cond} (hL : ∀ w ∈ L, w ∈ tables_1) (ws : List Cond) (ps : List Nat) (hp : ws = ps.filterMap (fun i => L[i]?)) (hg : ws.all goodWord = true) : ∀ w ∈ ws, w ∈ lw_g := by
  intro w hw
  have h1 := List.all_eq_true.mp hg w hw
  rw [hp] at hw
  obtain ⟨i, -, hi⟩ := List.mem_filterMap.mp hw
  exact List.mem_filter.mpr ⟨List.mem_append_right _ (hL w (List.mem_of_getElem? hi)), h1⟩
theorem lw_any {w : Cond} (i : Nat) (h : tables_1[i]? = some w) : w ∈ lw_tbl := List.mem_append_right _ (List.mem_of_getElem? h)
theorem lw_sel (i : Nat) {q : MethodName × Nat} (h : lw_privs[i]? = some q) : Cond.selects q.1.cls q.1 q.1 ∈ lw_g := List.mem_filter.mpr ⟨List.mem_append_left _ (List.mem_map.mpr ⟨q, List.mem_of_getElem? h, rfl⟩), rfl⟩
theorem lw_good : ∀ w ∈ lw_g, (w.onTables && w.keeps) = true ∨ ∃ ty, w = .arrayClass ty := fun w h => good_of_word (List.mem_filter.mp h).2
/-- words of another kind that the methods need -/
def ex_E (U : State) : Prop := va_AO "SportsHouse$Competition" U ∧ va_AO "SportsHouse$Match" U ∧ va_Nw (.castable "[I" "java/lang/Cloneable") U ∧ va_Nw (.methodLinkNest "SportsHouse" 11 ⟨"SportsHouse$RuleText", "<init>", "()V"⟩ "SportsHouse") U ∧ va_Nw (.methodLinkNest "SportsHouse" 18 ⟨"SportsHouse$Things", "<init>", "()V"⟩ "SportsHouse") U ∧ va_Nw (.methodLinkNest "SportsHouse$Play" 89 ⟨"SportsHouse", "isSide", "(I)Z"⟩ "SportsHouse") U
theorem ex_warm {s U : State} (hW : s.WarmedH U.vm) (h : ex_E s) : ex_E U := ⟨h.1.moved hW.alike, h.2.1.moved hW.alike, h.2.2.1.warmC hW, h.2.2.2.1.warmM hW, h.2.2.2.2.1.warmM hW, h.2.2.2.2.2.warmM hW⟩
theorem ex_same {s U : State} (hW : s.vm = U.vm) (h : ex_E s) : ex_E U := ⟨h.1.moved (by rw [hW]; exact Vm.Alike.refl _), h.2.1.moved (by rw [hW]; exact Vm.Alike.refl _), h.2.2.1.same rfl hW, h.2.2.2.1.same rfl hW, h.2.2.2.2.1.same rfl hW, h.2.2.2.2.2.same rfl hW⟩
theorem inX0 : ∀ w ∈ wsX00, w ∈ lw_g := lw_sub2 (L := tables_1_3) (fun _ h => lt_b3 h) _ [114, 116, 118, 120, 122, 124, 126, 128, 130] (by decide +kernel) (by decide +kernel)
theorem inX1 : ∀ w ∈ wsX10, w ∈ lw_g := lw_sub2 (L := tables_1_2) (fun _ h => lt_b2 h) _ [110, 112, 114, 116, 118, 120, 122, 124, 126, 128, 130, 132, 134, 136, 138, 140] (by decide +kernel) (by decide +kernel)
theorem inX2 : ∀ w ∈ wsX20, w ∈ lw_g := lw_sub2 (L := tables_1_4) (fun _ h => lt_b4 h) _ [26, 28, 30, 32, 34, 36, 38, 40, 42, 44, 46] (by decide +kernel) (by decide +kernel)
theorem inX3 : ∀ w ∈ wsX30, w ∈ lw_g := lw_sub2 (L := (tables_1_4 ++ tables_1_5)) (fun _ h => (List.mem_append.mp h).elim lt_b4 lt_b5) _ [217, 219, 221, 223, 225, 227, 229, 231, 233, 235, 237, 239, 241, 243, 245, 247, 249, 251] (by decide +kernel) (by decide +kernel)
theorem inX4 : ∀ w ∈ wsX40, w ∈ lw_g := lw_sub2 (L := tables_1_2) (fun _ h => lt_b2 h) _ [154, 156, 158, 160, 162] (by decide +kernel) (by decide +kernel)
theorem inX5 : ∀ w ∈ wsX50, w ∈ lw_g := lw_sub2 (L := tables_1_1) (fun _ h => lt_b1 h) _ [51, 53, 55, 57, 59, 61, 63, 65, 67, 69] (by decide +kernel) (by decide +kernel)
theorem inX6 : ∀ w ∈ wsX60, w ∈ lw_g := lw_sub2 (L := tables_1_1) (fun _ h => lt_b1 h) _ [172, 174, 176, 178, 180, 182, 184, 186, 188, 190, 192, 194, 196, 198, 200, 202] (by decide +kernel) (by decide +kernel)
theorem inX7 : ∀ w ∈ wsX70, w ∈ lw_g := lw_sub2 (L := (tables_1_1 ++ tables_1_2)) (fun _ h => (List.mem_append.mp h).elim lt_b1 lt_b2) _ [229, 231, 233, 235, 237, 239, 241, 243, 245, 247, 249, 251, 253, 255] (by decide +kernel) (by decide +kernel)
theorem inX8 : ∀ w ∈ wsX80, w ∈ lw_g := lw_sub2 (L := tables_1_1) (fun _ h => lt_b1 h) _ [107, 109, 111, 113, 115, 117, 119, 121, 123, 125, 127, 129, 131, 133] (by decide +kernel) (by decide +kernel)
theorem inX9 : ∀ w ∈ wsX90, w ∈ lw_g := lw_sub2 (L := tables_1_2) (fun _ h => lt_b2 h) _ [47, 49, 51, 53, 55, 57, 59, 61, 63, 65, 67, 69, 71, 73, 75, 77] (by decide +kernel) (by decide +kernel)
theorem inX10 : ∀ w ∈ wsX100, w ∈ lw_g := lw_sub2 (L := tables_1_2) (fun _ h => lt_b2 h) _ [172, 174, 176, 178, 180, 182, 184] (by decide +kernel) (by decide +kernel)
theorem inX11 : ∀ w ∈ wsX110, w ∈ lw_g := lw_sub2 (L := (tables_1_7 ++ tables_1_8)) (fun _ h => (List.mem_append.mp h).elim lt_b7 lt_b8) _ [101, 103, 105, 107, 109, 111, 113, 115, 117, 119, 121, 123, 125, 127, 129, 131, 133, 135, 137, 139, 141, 143, 145, 147, 149, 151, 153, 155, 157, 159, 161, 163, 165, 167, 169, 171, 173, 175, 177, 179, 181, 183, 185, 187, 189, 191, 193, 195, 197, 199, 201, 203, 205, 207, 209, 211, 213, 215, 217, 219, 221, 223, 225, 227, 229, 231, 233, 235, 237, 239, 241, 243, 245, 247, 249, 251, 253, 255, 257, 259, 261, 263, 265, 267, 269, 271, 273, 275, 277, 279, 281, 283, 285, 287, 289, 291, 293, 295, 297, 299, 301, 303, 305, 307, 309, 311, 313, 315, 317, 319, 321, 323, 325, 327] (by decide +kernel) (by decide +kernel)
theorem vi_0 : vwCl[0]? = some (RX0, TX0, 9) := rfl
theorem vi_2 : vwCl[2]? = some (RX2, TX2, 11) := rfl
theorem vi_3 : vwCl[3]? = some (RX3, TX3, 18) := rfl
theorem gi_c {c0 : Cond} (h : c0 ∈ lw_g) : GoodIn lw_g (c0 :: lw_g) := fun w hw => (List.mem_cons.mp hw).elim (fun e => e ▸ ⟨h, lw_good _ h⟩) (fun h => ⟨h, lw_good _ h⟩)
theorem gi_V {own : String} {i : Nat} {C : String} {y : MethodName} {c0 : Cond} (h1 : Cond.methodLink own i y ∈ lw_g) (h2 : Cond.instanceMethod y ∈ lw_g) (h3 : Cond.selects C y y ∈ lw_g) (h4 : Cond.initialized C ∈ lw_g) (hc : c0 ∈ lw_g) : GoodIn lw_g (wsV own i C y (c0 :: lw_g)) := by
  intro w hw
  unfold wsV at hw
  rcases List.mem_append.mp hw with h | h
  · have h9 : w ∈ lw_g := by
      simp only [List.mem_cons, List.not_mem_nil, or_false] at h
      rcases h with rfl | rfl | rfl | rfl <;> assumption
    exact ⟨h9, lw_good _ h9⟩
  · exact gi_c hc w h
theorem gi_S {own : String} {i : Nat} {y : MethodName} {c0 : Cond} (h1 : Cond.methodLink own i y ∈ lw_g) (h2 : Cond.static y ∈ lw_g) (h4 : Cond.initialized y.cls ∈ lw_g) (hc : c0 ∈ lw_g) : GoodIn lw_g (va_wsS own i y (c0 :: lw_g)) := by
  intro w hw
  unfold va_wsS at hw
  rcases List.mem_append.mp hw with h | h
  · have h9 : w ∈ lw_g := by
      simp only [List.mem_cons, List.not_mem_nil, or_false] at h
      rcases h with rfl | rfl | rfl <;> assumption
    exact ⟨h9, lw_good _ h9⟩
  · exact gi_c hc w h
-- a method's start: its world's cells are apart
abbrev ro_P (dC : Nat → ClassId) (dI : Nat → Nat → Nat) (ws : va_W) (tys : List (ClassId × FieldType)) (sz : Nat) (av : List Value) : Array Value → State → Prop := va_Pc av (fun U => U.heap.size = sz ∧ va_P (dC, dI) vwCl ws U.heap ∧ va_K (dC, dI) vwCl tys U ∧ va_D (fun _ => True) ws ∧ ex_E U)
theorem ro_blind {dC : Nat → ClassId} {dI : Nat → Nat → Nat} {ws : va_W} {tys : List (ClassId × FieldType)} {sz : Nat} {av : List Value} : FrameBlind (ro_P dC dI ws tys sz av) := fun a U g mk q => by
  obtain ⟨q0, q1, qP, qK, qD, qE⟩ := q
  exact ⟨q0, q1, qP, va_K.moved (u := U) (U := U.calling g mk a) (Vm.Alike.refl U.vm) qK, qD, ex_same (s := U) (U := U.calling g mk a) rfl qE⟩
theorem ro_entry {l : Launch} {y : MethodName} {cc : ByteArray} {maxL : Nat} {ret : Option FieldType} {rm : Room} {dC : Nat → ClassId} {dI : Nat → Nat → Nat} {ws : va_W} {tys : List (ClassId × FieldType)} {sz : Nat} {av : List Value} {Qc : Array Value → State → Outcome → State → Prop} {mc ms : Nat} {A : Nat → Prop} (hy : plainName y.cls = true) (hav : (lg_sl av).length ≤ maxL)
    (body : ∀ (p : Program) (e : Env) (s : State) (m : MethodId) (below : List Frame) (meth : Method) (c : Code) (ls : Array Slot), p.tables.exec = Jvm.exec → c.code = cc → meth.sig.returnType = ret → meth.locks = false → (∀ w ∈ lw_g, w.before av.toArray s = true) → s.vm.findClass y.cls = some m.cls → meth.name = y.name → c.maxLocals = maxL → s.heap.size = sz → va_P (dC, dI) vwCl ws s.heap → va_K (dC, dI) vwCl tys s → va_D (fun _ => True) ws → ex_E s → lv_has ls maxL (lv_args 0 av) →
      W p l e rm s m av.toArray below meth c s.heap [] 0 0 (MQ below Qc av.toArray s mc ms A) (F0 m 0 ls [])) : Met l y (.code y cc maxL ret :: lw_g) rm (ro_P dC dI ws tys sz av) Qc mc ms A := by
  refine Met.ofW (cc := cc) (maxL := maxL) (ret := ret) hy rfl ?_
  intro p e s m args below meth c s₁ B hml hv
  obtain ⟨rfl, hsz, hP, hK, hD0, hE⟩ := hv
  have hts := atoms_spec (ws := .code y cc maxL ret :: lw_g) B.pre
  have hl := lv_entry av (n := maxL) hav
  rw [lg_entry_eq]
  exact body p e s m below meth c _ B.exec B.bytes B.returns B.notSynchronized (fun w h => hts w (List.mem_cons_of_mem _ h)) (findClass_of_methodNamed B.named) (name_of_methodNamed B.named B.method).1 hml hsz hP hK hD0 hE hl
section ROC
variable {p : Program} {l : Launch} {e : Env} {R : Room} {s : State} {m : MethodId} {args : Array Value} {below : List Frame} {meth : Method} {c : Code} {H : Heap} {locs : List Loc} {cells slots : Nat} {Q : State → Prop} {cc bytes : ByteArray} {pc nL maxL index n : Nat} {ls : Array Slot} {rest As : List Value} {A0 : Nat → Prop} {H0 : Heap} {dC : Nat → ClassId} {dI : Nat → Nat → Nat} {ws wc : va_W} {tys tysc : List (ClassId × FieldType)} {own C : String} {y : MethodName} {ret : Option FieldType} {rm : Room} {b : Nat} {v : Int32}
end ROC
-- the picture of the whole heap: kind, index, slot to a number; a reference is a kind and an index
abbrev Zv : Type := Int ⊕ (Int ⊕ Option (Nat × Int))
abbrev Zt : Type := Nat → Int → Int → Int
abbrev Zl : Type := List (Option Zv)
abbrev vI (x : Int) : Zv := Sum.inl x
abbrev vL (x : Int) : Zv := Sum.inr (Sum.inl x)
abbrev vR (k : Nat) (i : Int) : Zv := Sum.inr (Sum.inr (some (k, i)))
abbrev vN : Zv := Sum.inr (Sum.inr none)
-- rows: what they hold (1 int, 2 boolean, 3 long, 4 and 5 references), their length (none: it stands at slot -2), the bounds of what they hold
def ta_l : List (List (Option (Nat × Option Int × Int × Int))) := [
  [],
  [],
  [],
  [],
  [],
  [none, none, none, none, none, none, none, none, none, none, none, none, none, none, none, none, none, none, none, none, none, none, none, none, none, none, none, none, none, none, some (1, none, (-2147483648), 2147483647)],
  [none, none, none, none, none, none, none, none, some (1, some 400, 0, 126), none, none, none, some (1, some 23, (-1), 999), some (1, some 92, (-1), 999), none, some (1, some 48, 0, 11), some (1, some 4, 0, 12), some (2, some 4, 0, 1), some (1, some 4, 0, 400), some (1, some 4, 0, 400), none, some (1, some 12, 0, 11), some (1, some 12, 0, 7), none, none, some (1, some 300, 0, 199), some (1, some 300, 0, 11), some (1, some 300, 0, 999), some (1, some 300, 0, 999), none, some (1, some 8, 0, 11), some (1, some 8, 0, 7)],
  [none, some (1, some 50, 0, 3), some (1, some 50, 0, 11), some (1, some 50, 0, 99), some (1, some 50, 0, 999), none, some (1, some 400, 0, 3), some (1, some 400, (-2147483648), 2147483647), some (1, some 400, 0, 11), some (1, some 400, 0, 11), some (1, some 400, 0, 999), some (1, some 400, 0, 3), some (1, some 400, (-2147483648), 2147483647), some (1, some 400, (-2147483648), 2147483647), some (1, some 400, (-1), 7), some (1, some 800, 0, 10), some (1, some 8000, 0, 199), some (1, some 8000, 0, 2), some (1, some 8000, (-2147483648), 2147483647), some (2, some 8000, 0, 1), some (1, some 800, 0, 6), some (1, some 4800, 0, 7999), some (1, some 3200, (-2147483648), 2147483647), none, some (1, some 3000, (-2147483648), 2147483647), some (1, some 3000, (-2147483648), 2147483647), some (1, some 3000, (-2147483648), 2147483647), some (1, some 3000, (-2147483648), 2147483647), some (1, some 3000, (-1), 2999), some (1, some 400, (-1), 2999), some (1, some 400, 0, 3000), some (1, some 400, (-1), 2999)],
  [some (1, some 400, 0, 3000), none, none, none, none, none, none, none, some (1, some 82, 0, 122), some (1, some 36, 0, 122), some (1, some 37, 0, 122), some (1, some 10, 0, 2), some (1, some 10, 0, 999), some (2, some 14, 0, 1), some (2, some 7, 0, 1), some (1, some 400, 0, 399), some (1, some 400, 0, 999), none, some (1, some 400, 0, 399), none, some (1, some 108, (-2147483648), 2147483647), some (1, some 12, 0, 11), some (1, some 12, (-1), 7), none, none, some (1, some 400, 0, 2), none, none, some (1, some 36, (-2147483648), 2147483647), none, some (1, some 120, 0, 12)],
  [none, some (1, some 400, (-1), 2), none, some (1, some 12, (-2147483648), 2147483647), some (1, some 12, 0, 1000), some (1, some 12, (-2147483648), 2147483647), some (1, some 144, 0, 1000), none, some (1, some 4096, (-2147483648), 2147483647), some (1, some 400, 0, 399), none, none, none, some (1, some 12, (-1), 2), some (1, some 12, (-1), 3), none, some (1, some 12, 0, 11), some (1, some 12, (-1), 3), some (1, some 400, 0, 399), none, some (1, some 8, (-1), 399), some (1, some 8, (-2147483648), 2147483647), some (1, some 8, 0, 399), some (1, some 400, (-1), 7)],
  [],
  [],
  [none, none, none, none, none, none, none, none, none, none, none, none, none, none, none, none, none, some (1, some 16, 0, 999), some (1, some 7, (-1), 6), some (1, some 12, 0, 11), some (1, some 12, (-1), 11)],
  [none, none, none, none, none, none, none, none, none, none, none, none, some (1, some 12, (-1), 2), some (1, some 12, (-1), 3), some (1, some 3, 0, 4), some (1, some 48, (-2147483648), 2147483647), some (1, some 12, 0, 11), none, some (1, some 12, 0, 1), some (1, some 32, (-2147483648), 2147483647)],
  [some (1, some 20, 0, 199), some (1, some 2, 0, 10), none, none, none, none, none, none, none, none, none, none, none, none, none, none, none, none, some (1, some 2, (-2147483648), 2147483647), some (1, some 2, (-2147483648), 2147483647), some (1, some 2, (-2147483648), 2147483647), some (1, some 2, (-2147483648), 2147483647), some (1, some 2, 0, 6), some (1, some 12, 0, 19), some (1, some 20, 0, 3), some (1, some 20, (-2147483648), 2147483647)],
  [none, none, some (1, some 400, 0, 399), none, none, none, none, none, none, none, none, none, none, none, none, none, none, none, none, none, some (1, some 400, 0, 126), none, none, none, some (1, some 16, 0, 999), some (1, some 7, (-1), 6)],
  [none, none, none, none, none, none, none, none, none, some (4, some 4, 0, 1), none, some (5, some 400, 0, 1), none, none, none, some (1, some 50, 0, 3), some (1, some 50, 0, 11), some (1, some 50, 0, 99), some (1, some 50, 0, 999), some (1, some 400, 0, 399), none, some (1, some 400, 0, 399), some (1, some 400, 0, 999), some (1, some 1000, 0, 1), none, none, none, none, none, none, some (1, some 96, (-2147483648), 2147483647), some (1, some 12, (-2147483648), 2147483647)],
  [some (1, some 12, (-2147483648), 2147483647), some (1, some 144, (-2147483648), 2147483647), some (1, some 144, (-2147483648), 2147483647), some (1, some 12, 0, 11), some (1, some 12, (-1), 7), some (3, some 12, (-9223372036854775808), 9223372036854775807), some (1, some 16, 0, 12), some (1, some 16, 0, 12), some (1, some 16, 0, 8), none, none, none, none, none, none, none, some (1, some 12, 0, 11), some (1, some 12, 0, 7), none, none, some (1, some 200, (-1), 299), none, some (1, some 300, 0, 11), some (1, some 300, 0, 999), some (1, some 300, 0, 999), some (1, some 300, (-1), 299), some (1, some 8, 0, 11), some (1, some 8, 0, 7)],
  [none, none, none, none, none, none, none, none, some (1, some 400, (-2147483648), 2147483647), none, none, some (1, some 12, (-2147483648), 2147483647), some (1, some 40, 0, 399), none, some (1, some 40, (-2147483648), 2147483647), some (1, some 12, (-2147483648), 2147483647), some (1, some 12, (-2147483648), 2147483647), some (1, some 12, (-1), 40), some (1, some 12, 0, 11)]]
def ta_ (k : Nat) : Option (Nat × Option Int × Int × Int) := (ta_l.getD (k / 32) []).getD (k % 32) none
-- fields: how a field's value comes: (0, _) the number; (1, k) the one of kind k; (2, k) of kind k, the same index; (3, k) the index is told by the slot; (4, k) null if the slot is 0, else the same index; (5, k) null if the slot is 0, else the index behind it; with the bounds of the number
def tf_0 : List (Nat × Nat × Int × Int) := [(0, 0, 0, 3), (2, 401, (-2147483648), 2147483647), (2, 402, (-2147483648), 2147483647), (2, 403, (-2147483648), 2147483647), (2, 404, (-2147483648), 2147483647), (0, 0, 0, 12), (0, 0, 0, 1), (0, 0, 0, 400), (0, 0, 0, 400)]
def tf_1 : List (Nat × Nat × Int × Int) := [(1, 108, (-2147483648), 2147483647), (0, 0, 0, 4), (0, 0, 0, 3), (0, 0, (-2147483648), 2147483647), (0, 0, (-2147483648), 2147483647), (0, 0, (-2147483648), 2147483647), (0, 0, (-2147483648), 2147483647), (0, 0, 0, 1), (1, 428, (-2147483648), 2147483647), (1, 429, (-2147483648), 2147483647), (1, 430, (-2147483648), 2147483647), (1, 431, (-2147483648), 2147483647), (1, 432, (-2147483648), 2147483647), (0, 0, 0, 12), (1, 434, (-2147483648), 2147483647), (1, 435, (-2147483648), 2147483647)]
def tf_2 : List (Nat × Nat × Int × Int) := [(3, 100, (-2147483648), 2147483647), (0, 0, 0, 399), (0, 0, (-2147483648), 2147483647), (0, 0, 0, 11), (0, 0, 0, 11), (0, 0, 0, 999), (0, 0, (-1), 1), (0, 0, (-1), 7), (2, 448, (-2147483648), 2147483647), (2, 449, (-2147483648), 2147483647), (4, 103, (-2147483648), 2147483647)]
def tf_3 : List (Nat × Nat × Int × Int) := [(3, 401, (-2147483648), 2147483647), (2, 448, (-2147483648), 2147483647), (2, 449, (-2147483648), 2147483647), (0, 0, 0, 1), (0, 0, (-2147483648), 2147483647), (0, 0, 0, 1), (2, 466, (-2147483648), 2147483647), (2, 467, (-2147483648), 2147483647), (2, 468, (-2147483648), 2147483647), (2, 469, (-2147483648), 2147483647), (2, 470, (-2147483648), 2147483647), (2, 471, (-2147483648), 2147483647), (2, 472, (-2147483648), 2147483647), (2, 473, (-2147483648), 2147483647), (3, 190, (-2147483648), 2147483647), (0, 0, 0, 3000), (3, 190, (-2147483648), 2147483647), (0, 0, 0, 3000)]
def tf_4 : List (Nat × Nat × Int × Int) := [(1, 106, (-2147483648), 2147483647), (1, 108, (-2147483648), 2147483647), (1, 482, (-2147483648), 2147483647), (0, 0, 0, 400), (3, 190, (-2147483648), 2147483647)]
def tf_5 : List (Nat × Nat × Int × Int) := [(1, 500, (-2147483648), 2147483647), (0, 0, 0, 400), (0, 0, 0, 5), (0, 0, (-1), 400), (1, 504, (-2147483648), 2147483647), (1, 505, (-2147483648), 2147483647), (0, 0, (-2147483648), 2147483647), (0, 0, 0, 5), (0, 0, 0, 400), (0, 0, 0, 400)]
def tf_6 : List (Nat × Nat × Int × Int) := [(1, 108, (-2147483648), 2147483647), (1, 521, (-2147483648), 2147483647), (0, 0, 0, 4), (1, 523, (-2147483648), 2147483647), (0, 0, 0, 400), (0, 0, 0, 3000), (0, 0, 0, 50), (1, 527, (-2147483648), 2147483647), (1, 528, (-2147483648), 2147483647), (1, 529, (-2147483648), 2147483647), (1, 530, (-2147483648), 2147483647), (1, 531, (-2147483648), 2147483647), (0, 0, 0, 400), (1, 533, (-2147483648), 2147483647), (1, 534, (-2147483648), 2147483647), (1, 535, (-2147483648), 2147483647)]
def tf_7 : List (Nat × Nat × Int × Int) := [(1, 106, (-2147483648), 2147483647), (5, 100, (-2147483648), 2147483647), (1, 542, (-2147483648), 2147483647), (1, 543, (-2147483648), 2147483647), (1, 544, (-2147483648), 2147483647), (1, 545, (-2147483648), 2147483647), (1, 546, (-2147483648), 2147483647), (1, 547, (-2147483648), 2147483647), (1, 548, (-2147483648), 2147483647), (1, 549, (-2147483648), 2147483647), (1, 550, (-2147483648), 2147483647), (1, 551, (-2147483648), 2147483647), (1, 552, (-2147483648), 2147483647), (0, 0, 0, 16)]
def tf_8 : List (Nat × Nat × Int × Int) := [(1, 560, (-2147483648), 2147483647), (1, 561, (-2147483648), 2147483647), (0, 0, 0, 12), (0, 0, 0, 200), (1, 564, (-2147483648), 2147483647), (0, 0, 0, 300), (1, 566, (-2147483648), 2147483647), (1, 567, (-2147483648), 2147483647), (1, 568, (-2147483648), 2147483647), (1, 569, (-2147483648), 2147483647), (1, 570, (-2147483648), 2147483647), (1, 571, (-2147483648), 2147483647), (0, 0, 0, 8), (0, 0, 0, 999)]
def tf_9 : List (Nat × Nat × Int × Int) := [(1, 106, (-2147483648), 2147483647), (1, 107, (-2147483648), 2147483647), (0, 0, (-1), 2), (0, 0, 0, 4095), (1, 584, (-2147483648), 2147483647), (5, 100, (-2147483648), 2147483647), (0, 0, (-2147483648), 2147483647), (1, 587, (-2147483648), 2147483647), (1, 588, (-2147483648), 2147483647), (0, 0, 0, 40), (1, 590, (-2147483648), 2147483647), (1, 591, (-2147483648), 2147483647), (1, 592, (-2147483648), 2147483647), (1, 593, (-2147483648), 2147483647), (1, 594, (-2147483648), 2147483647), (5, 190, (-2147483648), 2147483647)]
def tf_10 : List (Nat × Nat × Int × Int) := [(1, 105, (-2147483648), 2147483647), (1, 108, (-2147483648), 2147483647), (1, 106, (-2147483648), 2147483647), (1, 107, (-2147483648), 2147483647), (1, 109, (-2147483648), 2147483647), (1, 101, (-2147483648), 2147483647), (1, 104, (-2147483648), 2147483647)]
def tf_11 : List (Nat × Nat × Int × Int) := [(1, 200, (-2147483648), 2147483647), (0, 0, 0, 400), (0, 0, (-1), 400), (0, 0, 0, 999), (1, 204, (-2147483648), 2147483647), (1, 205, (-2147483648), 2147483647), (0, 0, 0, 4), (1, 207, (-2147483648), 2147483647), (1, 208, (-2147483648), 2147483647), (1, 209, (-2147483648), 2147483647), (1, 210, (-2147483648), 2147483647), (1, 211, (-2147483648), 2147483647), (0, 0, 0, 12), (1, 213, (-2147483648), 2147483647), (1, 214, (-2147483648), 2147483647), (0, 0, 0, 200), (0, 0, 0, 300), (1, 217, (-2147483648), 2147483647), (1, 218, (-2147483648), 2147483647), (1, 219, (-2147483648), 2147483647), (1, 220, (-2147483648), 2147483647), (0, 0, 0, 8), (1, 222, (-2147483648), 2147483647), (1, 223, (-2147483648), 2147483647), (0, 0, 0, 50), (1, 225, (-2147483648), 2147483647), (1, 226, (-2147483648), 2147483647), (1, 227, (-2147483648), 2147483647), (1, 228, (-2147483648), 2147483647), (0, 0, 0, 400), (1, 230, (-2147483648), 2147483647), (1, 231, (-2147483648), 2147483647), (1, 232, (-2147483648), 2147483647), (1, 233, (-2147483648), 2147483647), (1, 234, (-2147483648), 2147483647), (1, 235, (-2147483648), 2147483647), (1, 236, (-2147483648), 2147483647), (1, 237, (-2147483648), 2147483647), (1, 238, (-2147483648), 2147483647), (1, 239, (-2147483648), 2147483647), (1, 240, (-2147483648), 2147483647), (1, 241, (-2147483648), 2147483647), (1, 242, (-2147483648), 2147483647), (1, 243, (-2147483648), 2147483647), (1, 244, (-2147483648), 2147483647), (1, 245, (-2147483648), 2147483647), (1, 246, (-2147483648), 2147483647), (0, 0, 0, 3000), (1, 248, (-2147483648), 2147483647), (1, 249, (-2147483648), 2147483647), (1, 250, (-2147483648), 2147483647), (1, 251, (-2147483648), 2147483647), (1, 252, (-2147483648), 2147483647), (1, 253, (-2147483648), 2147483647), (1, 254, (-2147483648), 2147483647), (1, 255, (-2147483648), 2147483647), (1, 256, (-2147483648), 2147483647), (0, 0, 0, 400), (0, 0, 0, 4), (0, 0, 0, 400), (0, 0, 0, 400), (0, 0, (-2147483648), 2147483647), (0, 0, 0, 5), (0, 0, (-1), 400), (1, 264, (-2147483648), 2147483647), (1, 265, (-2147483648), 2147483647), (1, 266, (-2147483648), 2147483647), (1, 267, (-2147483648), 2147483647), (1, 268, (-2147483648), 2147483647), (1, 269, (-2147483648), 2147483647), (1, 270, (-2147483648), 2147483647), (1, 271, (-2147483648), 2147483647), (1, 272, (-2147483648), 2147483647), (0, 0, 0, 400), (1, 274, (-2147483648), 2147483647), (0, 0, 0, 400), (1, 276, (-2147483648), 2147483647), (1, 277, (-2147483648), 2147483647), (1, 278, (-2147483648), 2147483647), (0, 0, 0, 12), (0, 0, 0, 1), (1, 281, (-2147483648), 2147483647), (0, 0, (-2147483648), 2147483647), (0, 0, (-2147483648), 2147483647), (1, 284, (-2147483648), 2147483647), (0, 0, 0, 4095), (1, 286, (-2147483648), 2147483647), (0, 0, 0, 120), (0, 0, (-1), 3), (1, 289, (-2147483648), 2147483647), (0, 0, 0, 4095), (1, 291, (-2147483648), 2147483647), (1, 292, (-2147483648), 2147483647), (1, 293, (-2147483648), 2147483647), (1, 294, (-2147483648), 2147483647), (0, 0, (-2147483648), 2147483647), (1, 296, (-2147483648), 2147483647), (1, 297, (-2147483648), 2147483647), (0, 0, 0, 1), (0, 0, 0, 4), (0, 0, 0, 3), (1, 301, (-2147483648), 2147483647), (1, 302, (-2147483648), 2147483647), (0, 0, (-2147483648), 2147483647), (1, 304, (-2147483648), 2147483647), (1, 305, (-2147483648), 2147483647), (1, 306, (-2147483648), 2147483647), (0, 0, 0, 400), (1, 308, (-2147483648), 2147483647), (1, 309, (-2147483648), 2147483647), (1, 310, (-2147483648), 2147483647), (1, 311, (-2147483648), 2147483647), (0, 0, (-2147483648), 2147483647), (0, 0, (-2147483648), 2147483647)]
def tf_l : List (List (Nat × Nat × Int × Int)) := [tf_0, tf_1, tf_2, tf_3, tf_4, tf_5, tf_6, tf_7, tf_8, tf_9, tf_10, tf_11]
def tw_0 : List (Nat × Nat × Int × Int) := [(0, 0, 0, 3), (5, 401, (-2147483648), 2147483647), (5, 402, (-2147483648), 2147483647), (5, 403, (-2147483648), 2147483647), (5, 404, (-2147483648), 2147483647), (0, 0, 0, 12), (0, 0, 0, 1), (0, 0, 0, 400), (0, 0, 0, 400)]
def tw_2 : List (Nat × Nat × Int × Int) := [(5, 100, (-2147483648), 2147483647), (0, 0, 0, 399), (0, 0, (-2147483648), 2147483647), (0, 0, 0, 11), (0, 0, 0, 11), (0, 0, 0, 999), (0, 0, (-1), 1), (0, 0, (-1), 7), (5, 448, (-2147483648), 2147483647), (5, 449, (-2147483648), 2147483647), (5, 103, (-2147483648), 2147483647)]
def tw_3 : List (Nat × Nat × Int × Int) := [(5, 401, (-2147483648), 2147483647), (5, 448, (-2147483648), 2147483647), (5, 449, (-2147483648), 2147483647), (0, 0, 0, 1), (0, 0, (-2147483648), 2147483647), (0, 0, 0, 1), (5, 466, (-2147483648), 2147483647), (5, 467, (-2147483648), 2147483647), (5, 468, (-2147483648), 2147483647), (5, 469, (-2147483648), 2147483647), (5, 470, (-2147483648), 2147483647), (5, 471, (-2147483648), 2147483647), (5, 472, (-2147483648), 2147483647), (5, 473, (-2147483648), 2147483647), (5, 190, (-2147483648), 2147483647), (0, 0, 0, 3000), (5, 190, (-2147483648), 2147483647), (0, 0, 0, 3000)]
def tf_ (k : Nat) : List (Nat × Nat × Int × Int) := if k < 100 then [] else if k < 150 then tf_l.getD (k - 100) [] else if k < 154 then ([tw_0, [], tw_2, tw_3] : List (List (Nat × Nat × Int × Int))).getD (k - 150) [] else []
def kc_ (k : Nat) : Nat := if k < 150 then k - 100 else k - 150
-- the engine: what a block of instructions does to the picture
def up_ (T : Zt) (k : Nat) (i j v : Int) : Zt := fun k' i' j' => if k' = k ∧ i' = i ∧ j' = j then v else T k' i' j'
def al_ (T : Zt) (k : Nat) (i : Int) : Prop := T k i (-1) = 1
def en_v (ad : Nat → Int → Nat) (v : Zv) : Value := match v with
  | .inl x => .int (Int32.ofInt x)
  | .inr (.inl x) => .long (Int64.ofInt x)
  | .inr (.inr none) => .null
  | .inr (.inr (some (k, i))) => .ref (ad k i)
def ok_v (T : Zt) (v : Zv) : Prop := match v with
  | .inl x => -2147483648 ≤ x ∧ x ≤ 2147483647
  | .inr (.inl x) => -9223372036854775808 ≤ x ∧ x ≤ 9223372036854775807
  | .inr (.inr none) => True
  | .inr (.inr (some (k, i))) => k < 100 ∨ al_ T k i
/-- the value of a field, by its row of the table -/
def fv_ (c k : Nat) (x i : Int) : Zv := match c with
  | 0 => vI x
  | 1 => vR k 0
  | 2 => vR k i
  | 3 => vR k x
  | 4 => if x = 0 then vN else vR k i
  | 5 => if x = 0 then vN else vR k (x - 1)
  | _ => vN
def ln_ (T : Zt) (k : Nat) (i : Int) : Int := match ta_ k with
  | some (_, some n, _, _) => n
  | _ => T k i (-2)
def wr_ (z : Int) : Int := (z + 2147483648) % 4294967296 - 2147483648
def an_ (x y : Int) : Int := (Int32.ofInt x &&& Int32.ofInt y).toInt
def or_ (x y : Int) : Int := (Int32.ofInt x ||| Int32.ofInt y).toInt
def xo_ (x y : Int) : Int := (Int32.ofInt x ^^^ Int32.ofInt y).toInt
def sl_ (x y : Int) : Int := (Int32.ofInt x <<< (Int32.ofInt y &&& 31)).toInt
def sr_ (x y : Int) : Int := (Int32.ofInt x >>> (Int32.ofInt y &&& 31)).toInt
def dq_ (x y : Int) : Int := (Int32.ofInt x / Int32.ofInt y).toInt
def dr_ (x y : Int) : Int := (Int32.ofInt x - Int32.ofInt x / Int32.ofInt y * Int32.ofInt y).toInt
def wq_ (z : Int) : Int := (z + 9223372036854775808) % 18446744073709551616 - 9223372036854775808
def us_ (x y : Int) : Int := ((Int32.ofInt x).toUInt32 >>> ((Int32.ofInt y).toUInt32 &&& Int32.toUInt32 31)).toInt32.toInt
/-- a place of the locals is set; not where the second half of a long stands -/
def st_ (K : Zl → Prop) : Zl → Nat → Option Zv → Prop
  | [], _, _ => False
  | _ :: t, 0, v => K (v :: t)
  | a :: t, 1, v => match a with
    | some (.inr (.inl _)) => False
    | a => st_ (fun t' => K (a :: t')) t 0 v
  | a :: t, k + 2, v => st_ (fun t' => K (a :: t')) t (k + 1) v
def rg_ (z : Int) (Q : Prop) : Prop := -2147483648 ≤ z ∧ z ≤ 2147483647 ∧ Q
def rl_ (z : Int) (Q : Prop) : Prop := -9223372036854775808 ≤ z ∧ z ≤ 9223372036854775807 ∧ Q
def rk_ (z : Int) (Q : Prop) : Prop := -9223372036854775808 ≤ z → z ≤ 9223372036854775807 → Q
def rh_ (z : Int) (Q : Prop) : Prop := -2147483648 ≤ z → z ≤ 2147483647 → Q
def br_ (c : ClassFile.Cond) (x y : Int) (A B : Prop) : Prop := match c with
  | .eq => (x = y → A) ∧ (¬ x = y → B)
  | .ne => (¬ x = y → A) ∧ (x = y → B)
  | .lt => (x < y → A) ∧ (y ≤ x → B)
  | .ge => (y ≤ x → A) ∧ (x < y → B)
  | .gt => (y < x → A) ∧ (x ≤ y → B)
  | .le => (x ≤ y → A) ∧ (y < x → B)
def sx_ (K : Int → Zl → List Zv → Zt → Prop) (P : Zt → Option Zv → Prop) : List Instr → Int → Zl → List Zv → Zt → Prop
  | [], pe, ls, st, T => K pe ls st T
  | i :: r, pe, ls, st, T => match i with
    | .iconst n => sx_ K P r pe ls (vI n :: st) T
    | .sipush n => sx_ K P r pe ls (vL n :: st) T
    | .iload k => (match ls[k]? with
      | some (some (.inl x)) => sx_ K P r pe ls (vI x :: st) T
      | _ => False)
    | .aload k => (match ls[k]? with
      | some (some (.inr (.inr q))) => sx_ K P r pe ls (.inr (.inr q) :: st) T
      | _ => False)
    | .lload k => (match ls[k]? with
      | some (some (.inr (.inl x))) => sx_ K P r pe ls (vL x :: st) T
      | _ => False)
    | .istore k => (match st with
      | .inl x :: st => st_ (fun ls => sx_ K P r pe ls st T) ls k (some (vI x))
      | _ => False)
    | .astore k => (match st with
      | .inr (.inr q) :: st => st_ (fun ls => sx_ K P r pe ls st T) ls k (some (.inr (.inr q)))
      | _ => False)
    | .lstore k => (match st with
      | .inr (.inl x) :: st => st_ (fun ls => st_ (fun ls => st_ (fun ls => sx_ K P r pe ls st T) ls k (some (vL x))) ls (k + 1) none) ls k none
      | _ => False)
    | .iinc k n => (match ls[k]? with
      | some (some (.inl x)) => rg_ (x + n) (st_ (fun ls => sx_ K P r pe ls st T) ls k (some (vI (x + n))))
      | _ => False)
    | .iadd => (match st with
      | .inl y :: .inl x :: st => rg_ (x + y) (sx_ K P r pe ls (vI (x + y) :: st) T)
      | _ => False)
    | .isub => (match st with
      | .inl y :: .inl x :: st => rg_ (x - y) (sx_ K P r pe ls (vI (x - y) :: st) T)
      | _ => False)
    | .imul => (match st with
      | .inl y :: .inl x :: st => rg_ (x * y) (sx_ K P r pe ls (vI (x * y) :: st) T)
      | _ => False)
    | .fadd => (match st with
      | .inl y :: .inl x :: st => rh_ (wr_ (x + y)) (sx_ K P r pe ls (vI (wr_ (x + y)) :: st) T)
      | _ => False)
    | .fsub => (match st with
      | .inl y :: .inl x :: st => rh_ (wr_ (x - y)) (sx_ K P r pe ls (vI (wr_ (x - y)) :: st) T)
      | _ => False)
    | .fmul => (match st with
      | .inl y :: .inl x :: st => rh_ (wr_ (x * y)) (sx_ K P r pe ls (vI (wr_ (x * y)) :: st) T)
      | _ => False)
    | .ineg => (match st with
      | .inl x :: st => rg_ (-x) (sx_ K P r pe ls (vI (-x) :: st) T)
      | _ => False)
    | .fneg => (match st with
      | .inl x :: st => rh_ (wr_ (-x)) (sx_ K P r pe ls (vI (wr_ (-x)) :: st) T)
      | _ => False)
    | .idiv => (match st with
      | .inl y :: .inl x :: st => 0 ≤ x ∧ 0 < y ∧ sx_ K P r pe ls (vI (x / y) :: st) T
      | _ => False)
    | .fdiv => (match st with
      | .inl y :: .inl x :: st => 0 < y ∧ rh_ (dq_ x y) (sx_ K P r pe ls (vI (dq_ x y) :: st) T)
      | _ => False)
    | .frem => (match st with
      | .inl y :: .inl x :: st => 0 < y ∧ rh_ (dr_ x y) (sx_ K P r pe ls (vI (dr_ x y) :: st) T)
      | _ => False)
    | .dadd => (match st with
      | .inr (.inl y) :: .inr (.inl x) :: st => rk_ (wq_ (x + y)) (sx_ K P r pe ls (vL (wq_ (x + y)) :: st) T)
      | _ => False)
    | .dsub => (match st with
      | .inr (.inl y) :: .inr (.inl x) :: st => rk_ (wq_ (x - y)) (sx_ K P r pe ls (vL (wq_ (x - y)) :: st) T)
      | _ => False)
    | .dmul => (match st with
      | .inr (.inl y) :: .inr (.inl x) :: st => rk_ (wq_ (x * y)) (sx_ K P r pe ls (vL (wq_ (x * y)) :: st) T)
      | _ => False)
    | .irem => (match st with
      | .inl y :: .inl x :: st => 0 ≤ x ∧ 0 < y ∧ sx_ K P r pe ls (vI (x % y) :: st) T
      | _ => False)
    | .iand => (match st with
      | .inl y :: .inl x :: st => rh_ (an_ x y) (sx_ K P r pe ls (vI (an_ x y) :: st) T)
      | _ => False)
    | .ior => (match st with
      | .inl y :: .inl x :: st => rh_ (or_ x y) (sx_ K P r pe ls (vI (or_ x y) :: st) T)
      | _ => False)
    | .ixor => (match st with
      | .inl y :: .inl x :: st => rh_ (xo_ x y) (sx_ K P r pe ls (vI (xo_ x y) :: st) T)
      | _ => False)
    | .ishl => (match st with
      | .inl y :: .inl x :: st => rh_ (sl_ x y) (sx_ K P r pe ls (vI (sl_ x y) :: st) T)
      | _ => False)
    | .ishr => (match st with
      | .inl y :: .inl x :: st => rh_ (sr_ x y) (sx_ K P r pe ls (vI (sr_ x y) :: st) T)
      | _ => False)
    | .iushr => (match st with
      | .inl y :: .inl x :: st => rh_ (us_ x y) (sx_ K P r pe ls (vI (us_ x y) :: st) T)
      | _ => False)
    | .i2l => (match st with
      | .inl x :: st => sx_ K P r pe ls (vL x :: st) T
      | _ => False)
    | .l2i => (match st with
      | .inr (.inl x) :: st => rg_ x (sx_ K P r pe ls (vI x :: st) T)
      | _ => False)
    | .ladd => (match st with
      | .inr (.inl y) :: .inr (.inl x) :: st => rl_ (x + y) (sx_ K P r pe ls (vL (x + y) :: st) T)
      | _ => False)
    | .lsub => (match st with
      | .inr (.inl y) :: .inr (.inl x) :: st => rl_ (x - y) (sx_ K P r pe ls (vL (x - y) :: st) T)
      | _ => False)
    | .lmul => (match st with
      | .inr (.inl y) :: .inr (.inl x) :: st => rl_ (x * y) (sx_ K P r pe ls (vL (x * y) :: st) T)
      | _ => False)
    | .lrem => (match st with
      | .inr (.inl y) :: .inr (.inl x) :: st => 0 ≤ x ∧ 0 < y ∧ sx_ K P r pe ls (vL (x % y) :: st) T
      | _ => False)
    | .lcmp => (match st with
      | .inr (.inl y) :: .inr (.inl x) :: st => (x < y → sx_ K P r pe ls (vI (-1) :: st) T) ∧ (x = y → sx_ K P r pe ls (vI 0 :: st) T) ∧ (y < x → sx_ K P r pe ls (vI 1 :: st) T)
      | _ => False)
    | .dup => (match st with
      | .inl x :: st => sx_ K P r pe ls (vI x :: vI x :: st) T
      | .inr (.inr q) :: st => sx_ K P r pe ls (.inr (.inr q) :: .inr (.inr q) :: st) T
      | _ => False)
    | .dup2 => (match st with
      | .inl y :: .inr (.inr q) :: st => sx_ K P r pe ls (vI y :: .inr (.inr q) :: vI y :: .inr (.inr q) :: st) T
      | _ => False)
    | .pop => (match st with
      | .inl _ :: st => sx_ K P r pe ls st T
      | .inr (.inr _) :: st => sx_ K P r pe ls st T
      | _ => False)
    | .goto t => K t ls st T
    | .if_icmp c t => (match st with
      | .inl y :: .inl x :: st => br_ c x y (K t ls st T) (sx_ K P r pe ls st T)
      | _ => False)
    | .ifCond c t => (match st with
      | .inl x :: st => br_ c x 0 (K t ls st T) (sx_ K P r pe ls st T)
      | _ => False)
    | .ifnull t => (match st with
      | .inr (.inr none) :: st => K t ls st T
      | .inr (.inr (some _)) :: st => sx_ K P r pe ls st T
      | _ => False)
    | .ifnonnull t => (match st with
      | .inr (.inr none) :: st => sx_ K P r pe ls st T
      | .inr (.inr (some _)) :: st => K t ls st T
      | _ => False)
    | .tableswitch o ci j _ => (match o with
      | 0 => (match st with
        | .inr (.inr (some (k, i))) :: st => if k = 100 + ci.toNat then (match (tf_ k)[j.toNat]? with
            | some (0, _, lo, hi) => lo ≤ T k i j → T k i j ≤ hi → sx_ K P r pe ls (vI (T k i j) :: st) T
            | some (1, k', _) => sx_ K P r pe ls (vR k' 0 :: st) T
            | some (2, k', _) => sx_ K P r pe ls (vR k' i :: st) T
            | some (3, k', _) => sx_ K P r pe ls (vR k' (T k i j) :: st) T
            | some (4, k', _) => (T k i j = 0 → sx_ K P r pe ls (vN :: st) T) ∧ (¬ T k i j = 0 → sx_ K P r pe ls (vR k' i :: st) T)
            | some (5, k', _) => (T k i j = 0 → sx_ K P r pe ls (vN :: st) T) ∧ (¬ T k i j = 0 → sx_ K P r pe ls (vR k' (T k i j - 1) :: st) T)
            | _ => False) else False
        | _ => False)
      | _ => (match st with
        | .inl x :: .inr (.inr (some (k, i))) :: st => if k = 100 + ci.toNat then (match (tf_ k)[j.toNat]? with
            | some (0, _, lo, hi) => lo ≤ x ∧ x ≤ hi ∧ sx_ K P r pe ls st (up_ T k i j x)
            | _ => False) else False
        | _ => False))
    | .iaload => (match st with
      | .inl x :: .inr (.inr (some (k, i))) :: st => (match ta_ k with
        | some (1, some n, lo, hi) => 0 ≤ x ∧ x < n ∧ (lo ≤ T k i x → T k i x ≤ hi → sx_ K P r pe ls (vI (T k i x) :: st) T)
        | some (1, none, lo, hi) => 0 ≤ x ∧ x < T k i (-2) ∧ (lo ≤ T k i x → T k i x ≤ hi → sx_ K P r pe ls (vI (T k i x) :: st) T)
        | _ => False)
      | _ => False)
    | .baload => (match st with
      | .inl x :: .inr (.inr (some (k, i))) :: st => (match ta_ k with
        | some (2, some n, lo, hi) => 0 ≤ x ∧ x < n ∧ (lo ≤ T k i x → T k i x ≤ hi → sx_ K P r pe ls (vI (T k i x) :: st) T)
        | _ => False)
      | _ => False)
    | .laload => (match st with
      | .inl x :: .inr (.inr (some (k, i))) :: st => (match ta_ k with
        | some (3, some n, lo, hi) => 0 ≤ x ∧ x < n ∧ (lo ≤ T k i x → T k i x ≤ hi → sx_ K P r pe ls (vL (T k i x) :: st) T)
        | _ => False)
      | _ => False)
    | .aaload => (match st with
      | .inl x :: .inr (.inr (some (k, i))) :: st => (match ta_ k with
        | some (4, some n, _) => 0 ≤ x ∧ x < n ∧ (T k i x = 0 → sx_ K P r pe ls (vN :: st) T) ∧ (¬ T k i x = 0 → sx_ K P r pe ls (vR 100 x :: st) T)
        | some (5, some n, _) => 0 ≤ x ∧ x < n ∧ (T k i x = 0 → sx_ K P r pe ls (vN :: st) T) ∧ (¬ T k i x = 0 → sx_ K P r pe ls (vR 102 x :: st) T)
        | _ => False)
      | _ => False)
    | .iastore => (match st with
      | .inl v :: .inl x :: .inr (.inr (some (k, i))) :: st => (match ta_ k with
        | some (1, some n, lo, hi) => 0 ≤ x ∧ x < n ∧ lo ≤ v ∧ v ≤ hi ∧ sx_ K P r pe ls st (up_ T k i x v)
        | some (1, none, lo, hi) => 0 ≤ x ∧ x < T k i (-2) ∧ lo ≤ v ∧ v ≤ hi ∧ sx_ K P r pe ls st (up_ T k i x v)
        | _ => False)
      | _ => False)
    | .bastore => (match st with
      | .inl v :: .inl x :: .inr (.inr (some (k, i))) :: st => (match ta_ k with
        | some (2, some n, lo, hi) => 0 ≤ x ∧ x < n ∧ lo ≤ v ∧ v ≤ hi ∧ sx_ K P r pe ls st (up_ T k i x v)
        | _ => False)
      | _ => False)
    | .lastore => (match st with
      | .inr (.inl v) :: .inl x :: .inr (.inr (some (k, i))) :: st => (match ta_ k with
        | some (3, some n, lo, hi) => 0 ≤ x ∧ x < n ∧ lo ≤ v ∧ v ≤ hi ∧ sx_ K P r pe ls st (up_ T k i x v)
        | _ => False)
      | _ => False)
    | .arraylength => (match st with
      | .inr (.inr (some (k, i))) :: st => (match ta_ k with
        | some (_, some n, _) => sx_ K P r pe ls (vI n :: st) T
        | some (_, none, _) => 0 ≤ T k i (-2) → T k i (-2) ≤ 2147483647 → sx_ K P r pe ls (vI (T k i (-2)) :: st) T
        | _ => False)
      | _ => False)
    | .ireturn => (match st with
      | [.inl x] => P T (some (vI x))
      | _ => False)
    | .lreturn => (match st with
      | [.inr (.inl x)] => P T (some (vL x))
      | _ => False)
    | .return_ => (match st with
      | [] => P T none
      | _ => False)
    | _ => False
-- how a picture stands in a heap
def ce_ (cA : Nat → ClassId) (ad : Nat → Int → Nat) (T : Zt) (k : Nat) (i : Int) : va_E := match ta_ k with
  | some (1, _, _) => .inl (cA 0, (ln_ T k i).toNat, .inl fun x => Int32.ofInt (T k i (x : Int)))
  | some (2, _, _) => .inl (cA 1, (ln_ T k i).toNat, .inl fun x => Int32.ofInt (T k i (x : Int)))
  | some (3, _, _) => .inl (cA 2, (ln_ T k i).toNat, .inr (.inl fun x => Int64.ofInt (T k i (x : Int))))
  | some (4, _, _) => .inl (cA 3, (ln_ T k i).toNat, .inr (.inr (.inr (.inr fun x => if T k i (x : Int) = 0 then none else some (ad 100 x)))))
  | some (_, _, _) => .inl (cA 4, (ln_ T k i).toNat, .inr (.inr (.inr (.inr fun x => if T k i (x : Int) = 0 then none else some (ad 102 x)))))
  | none => .inr (kc_ k, (tf_ k).zipIdx.map fun q => en_v ad (fv_ q.1.1 q.1.2.1 (T k i (q.2 : Int)) i))
def wd_ (cA : Nat → ClassId) (ad : Nat → Int → Nat) (T : Zt) (ids : List (Nat × Int)) : va_W := ids.map fun q => (ad q.1 q.2, ce_ cA ad T q.1 q.2)
abbrev ty_ (cA : Nat → ClassId) : List (ClassId × FieldType) := [(cA 0, .int), (cA 1, .boolean), (cA 2, .long), (cA 3, .object RX0), (cA 4, .object RX2)]
def Rp_ (D : va_G) (cA : Nat → ClassId) (ad : Nat → Int → Nat) (T : Zt) (A : Nat → Prop) (H : Heap) : Prop := ∃ ids : List (Nat × Int), (∀ k i, al_ T k i ↔ (k, i) ∈ ids) ∧ va_P D vwCl (wd_ cA ad T ids) H ∧ va_D A (wd_ cA ad T ids)
/-- the rows of a competition, a match, a play are there only where it is -/
def ow_ (k : Nat) : Option Nat := if 400 ≤ k ∧ k < 420 then some 100 else if 440 ≤ k ∧ k < 460 then some 102 else if 460 ≤ k ∧ k < 480 then some 103 else none
/-- the picture keeps its table: bounds, and what is referred to is there; 191 0 0 counts the rows of kind 190 -/
def ok_T (T : Zt) : Prop :=
  (∀ k t n lo hi, ta_ k = some (t, n, lo, hi) → ∀ i x, 0 ≤ x → lo ≤ T k i x ∧ T k i x ≤ hi) ∧
  (∀ (k j c k' : Nat) (lo hi : Int), (tf_ k)[j]? = some (c, k', lo, hi) → ∀ i, lo ≤ T k i (j : Int) ∧ T k i (j : Int) ≤ hi) ∧
  (∀ i, 0 ≤ T 190 i (-2) ∧ T 190 i (-2) ≤ 2147483647) ∧
  (∀ k i, al_ T k i → ∀ (j c k' : Nat) (lo hi : Int), (tf_ k)[j]? = some (c, k', lo, hi) → ok_v T (fv_ c k' (T k i (j : Int)) i)) ∧
  (∀ i x, 0 ≤ x → T 521 i x ≠ 0 → al_ T 100 x) ∧ (∀ i x, 0 ≤ x → T 523 i x ≠ 0 → al_ T 102 x) ∧ (∀ k i, k < 100 → ¬ al_ T k i) ∧ (∀ k i o, ow_ k = some o → al_ T k i → al_ T o i ∨ al_ T (o + 50) i) ∧ (∀ i, T 191 0 0 ≤ i → ¬ al_ T 190 i)
def ok_l (T : Zt) (ls : Zl) (st : List Zv) : Prop := (∀ (k : Nat) (v : Zv), ls[k]? = some (some v) → ok_v T v) ∧ ∀ v ∈ st, ok_v T v
def Sb_ (ad0 ad : Nat → Int → Nat) (T0 T : Zt) : Prop := (∀ k i, al_ T0 k i → al_ T k i) ∧ ∀ k i, k < 100 ∨ al_ T0 k i → ad k i = ad0 k i
def lp_ (ad : Nat → Int → Nat) : Nat → Zl → List (Nat × Value)
  | _, [] => []
  | n, none :: r => lp_ ad (n + 1) r
  | n, some v :: r => (n, en_v ad v) :: lp_ ad (n + 1) r
/-- the static rows, which no method writes: AT_FIRST, LEAST, MOST -/
def sa_ (i : Nat) : List Int := ([[0, 3, 1, 0, 2, 0, 1, 7, 1, 2, 2, 3, 3, 3, 1, 0], [0, 0, 0, 0, 0, 0, 1, 1, 1, 1, 0, 2, 1, 1, 1, 0], [3, 9, 9, 9, 7, 1, 4, 30, 9, 6, 5, 25, 9, 9, 9, 999]] : List (List Int)).getD i []
def sn_ (i : Nat) : String := (["AT_FIRST", "LEAST", "MOST"] : List String).getD i ""
/-- the texts of the file, which no method writes -/
def stx_ (i : Nat) : Nat × String := ([(53, "sport;points;order;redo;legs;every;rest;field;subs;target;walkover;cards;red;seed;"), (82, "football;volleyball;tennis;baseball;"), (90, "diff;scored;wins;away;head;fair;lots;")] : List (Nat × String)).getD i (0, "")
def sle_ : List Nat := [82, 36, 37]
def sby_ : List (List Int32) := [[115, 112, 111, 114, 116, 59, 112, 111, 105, 110, 116, 115, 59, 111, 114, 100, 101, 114, 59, 114, 101, 100, 111, 59, 108, 101, 103, 115, 59, 101, 118, 101, 114, 121, 59, 114, 101, 115, 116, 59, 102, 105, 101, 108, 100, 59, 115, 117, 98, 115, 59, 116, 97, 114, 103, 101, 116, 59, 119, 97, 108, 107, 111, 118, 101, 114, 59, 99, 97, 114, 100, 115, 59, 114, 101, 100, 59, 115, 101, 101, 100, 59], [102, 111, 111, 116, 98, 97, 108, 108, 59, 118, 111, 108, 108, 101, 121, 98, 97, 108, 108, 59, 116, 101, 110, 110, 105, 115, 59, 98, 97, 115, 101, 98, 97, 108, 108, 59], [100, 105, 102, 102, 59, 115, 99, 111, 114, 101, 100, 59, 119, 105, 110, 115, 59, 97, 119, 97, 121, 59, 104, 101, 97, 100, 59, 102, 97, 105, 114, 59, 108, 111, 116, 115, 59]]
def stz_ (ad : Nat → Int → Nat) (A : Nat → Prop) (U : State) : Prop := vk_S 3 sle_ sby_ (fun i => ad 82 (i : Int)) (fun i => ad 83 (i : Int)) A U U.heap ∧ (∀ i : Nat, i < 3 → vk_R "SportsHouse$RuleText" (stx_ i).1 (stx_ i).2 (ad 82 (i : Int)) U) ∧ va_Z "java/lang/String" "COMPACT_STRINGS" "Z" (.int 1) A U U.heap ∧ (va_Z "jdk/internal/util/Preconditions" "SIOOBE_FORMATTER" "Ljava/util/function/BiFunction;" .null A U U.heap ∨ va_Z "jdk/internal/util/Preconditions" "SIOOBE_FORMATTER" "Ljava/util/function/BiFunction;" (.ref (ad 84 0)) A U U.heap)
def se_ (ad : Nat → Int → Nat) (A : Nat → Prop) (U : State) : Prop := (∀ i : Nat, i < 3 → va_Z "SportsHouse$RuleText" (sn_ i) "[I" (.ref (ad 81 i)) A U U.heap ∧ va_T .int (ad 81 i) 16 (fun j => .int (Int32.ofInt ((sa_ i).getD j 0))) A U U.heap) ∧ stz_ ad A U
abbrev Zm : Type := String × ByteArray × Nat × Option FieldType × Room
def Qc_ (D : va_G) (cA : Nat → ClassId) (ad0 : Nat → Int → Nat) (T0 : Zt) (A : Nat → Prop) (P : Zt → Option Zv → Prop) : Array Value → State → Outcome → State → Prop := fun _ st oc t =>
  (∃ (T : Zt) (ad : Nat → Int → Nat) (r : Option Zv), oc = .returned (r.map (en_v ad)) ∧ P T r ∧ ok_T T ∧ (∀ v, r = some v → ok_v T v) ∧ Rp_ D cA ad T A t.heap ∧ Sb_ ad0 ad T0 T) ∧ va_F A st t
/-- the room of the constructors is marked by its slots, so that a walk knows that it may put final fields -/
def im_ (n : Nat) : Bool := n == 23 || n == 25 || n == 111
def Cx_ (Y : Zm) (p : Program) (s : State) (m : MethodId) (args : Array Value) (meth : Method) (c : Code) (D : va_G) (cA : Nat → ClassId) (ad0 : Nat → Int → Nat) (A : Nat → Prop) : Prop :=
  p.tables.exec = Jvm.exec ∧ c.code = Y.2.1 ∧ c.maxLocals = Y.2.2.1 ∧ meth.sig.returnType = Y.2.2.2.1 ∧ meth.locks = false ∧ (∀ w ∈ lw_g, w.before args s = true) ∧ s.vm.findClass Y.1 = some m.cls ∧ va_K D vwCl (ty_ cA) s ∧ ex_E s ∧ (∀ q, s.heap.size ≤ q → A q) ∧ se_ ad0 A s ∧ (im_ Y.2.2.2.2.slots = true → meth.name = "<init>")
/-- from here on the method ends, and P holds of what it leaves -/
def J_ (Y : Zm) (T0 : Zt) (P : Zt → Option Zv → Prop) (bc bs : Nat) (pc : Int) (ls : Zl) (st : List Zv) (T : Zt) : Prop :=
  ∀ (l : Launch) (p : Program) (e : Env) (s : State) (m : MethodId) (args : Array Value) (below : List Frame) (meth : Method) (c : Code) (D : va_G) (cA : Nat → ClassId) (ad0 : Nat → Int → Nat) (A : Nat → Prop), Cx_ Y p s m args meth c D cA ad0 A →
  ∀ (ad : Nat → Int → Nat) (H : Heap) (locs : List Loc) (cells slots : Nat) (lsC : Array Slot), cells + bc ≤ Y.2.2.2.2.cells → slots + bs ≤ Y.2.2.2.2.slots → Rp_ D cA ad T A H → va_S A s.heap H locs → Sb_ ad0 ad T0 T → ok_T T → ok_l T ls st → lv_has lsC Y.2.2.1 (lp_ ad 0 ls) → ls.length = Y.2.2.1 →
  W p l e Y.2.2.2.2 s m args below meth c H locs cells slots (MQ below (Qc_ D cA ad0 T0 A P) args s Y.2.2.2.2.cells Y.2.2.2.2.slots A) (F0 m pc.toNat lsC (st.map (en_v ad)))
-- rows of the picture
theorem up_s (T : Zt) (k : Nat) (i j v : Int) : up_ T k i j v k i j = v := by simp [up_]
theorem up_n {T : Zt} {k k' : Nat} {i j v i' j' : Int} (h : ¬ (k' = k ∧ i' = i ∧ j' = j)) : up_ T k i j v k' i' j' = T k' i' j' := by simp [up_, h]
theorem up_o {T : Zt} {k k' : Nat} {i j v i' : Int} (h : (k', i') ≠ (k, i)) : up_ T k i j v k' i' = T k' i' := by
  funext j'
  refine up_n (fun q => h ?_)
  rw [q.1, q.2.1]
theorem lp_get {ad : Nat → Int → Nat} : ∀ {ls : Zl} {n k : Nat} {v : Zv}, ls[k]? = some (some v) → (n + k, en_v ad v) ∈ lp_ ad n ls
  | [], _, _, _, h => by simp at h
  | none :: r, n, 0, v, h => by simp at h
  | some w :: r, n, 0, v, h => by simp at h; subst h; simp [lp_]
  | none :: r, n, k + 1, v, h => by
    have h1 : r[k]? = some (some v) := by simpa using h
    have := lp_get (ad := ad) (n := n + 1) h1
    rw [show n + (k + 1) = n + 1 + k by omega]
    exact this
  | some w :: r, n, k + 1, v, h => by
    have h1 : r[k]? = some (some v) := by simpa using h
    have := lp_get (ad := ad) (n := n + 1) h1
    rw [show n + (k + 1) = n + 1 + k by omega]
    exact List.mem_cons_of_mem _ this
theorem lp_mem {ad : Nat → Int → Nat} : ∀ {ls : Zl} {n : Nat} {q : Nat × Value}, q ∈ lp_ ad n ls → ∃ k v, q = (n + k, en_v ad v) ∧ ls[k]? = some (some v)
  | [], _, _, h => by simp [lp_] at h
  | none :: r, n, q, h => by
    obtain ⟨k, v, e, h1⟩ := lp_mem (ls := r) (n := n + 1) h
    exact ⟨k + 1, v, by rw [e]; congr 1; omega, by simpa using h1⟩
  | some w :: r, n, q, h => by
    rcases List.mem_cons.mp h with rfl | h
    · exact ⟨0, w, rfl, rfl⟩
    · obtain ⟨k, v, e, h1⟩ := lp_mem (ls := r) (n := n + 1) h
      exact ⟨k + 1, v, by rw [e]; congr 1; omega, by simpa using h1⟩
theorem lp_read {ad : Nat → Int → Nat} {lsC : Array Slot} {nL : Nat} {ls : Zl} {k : Nat} {v : Zv} (h : lv_has lsC nL (lp_ ad 0 ls)) (hk : ls[k]? = some (some v)) : lsC[k]? = some (.val (en_v ad v)) := by
  have := h.2.2 _ (lp_get (ad := ad) (n := 0) hk)
  simpa using this
theorem en_cat {ad : Nat → Int → Nat} {v : Zv} : (en_v ad v).category = 2 ↔ ∃ x, v = vL x := by
  rcases v with x | x | _ | ⟨k, i⟩ <;> simp [en_v, Value.category]
theorem st_spec : ∀ {ls : Zl} {K : Zl → Prop} {k : Nat} {v : Option Zv}, st_ K ls k v → k < ls.length ∧ (∀ (k0 : Nat) (x : Int), k = k0 + 1 → ls[k0]? ≠ some (some (vL x))) ∧ K (ls.set k v)
  | [], _, _, _, h => by simp [st_] at h
  | a :: t, K, 0, v, h => ⟨by simp, fun k0 x e => by omega, by simpa [st_] using h⟩
  | a :: t, K, 1, v, h => by
    have h1 : st_ (fun t' => K (a :: t')) t 0 v ∧ ∀ x, a ≠ some (vL x) := by
      rcases a with _ | x | x | q
      · exact ⟨h, fun _ => by simp⟩
      · exact ⟨h, fun _ => by simp [vL]⟩
      · exact absurd h (by simp [st_])
      · exact ⟨h, fun _ => by simp [vL]⟩
    obtain ⟨q1, q2, q3⟩ := st_spec h1.1
    refine ⟨by simp; omega, fun k0 x e => ?_, by simpa using q3⟩
    have : k0 = 0 := by omega
    subst this
    simpa using h1.2 x
  | a :: t, K, k + 2, v, h => by
    have h1 : st_ (fun t' => K (a :: t')) t (k + 1) v := h
    obtain ⟨q1, q2, q3⟩ := st_spec h1
    refine ⟨by simp; omega, fun k0 x e => ?_, by simpa using q3⟩
    obtain ⟨k1, rfl⟩ : ∃ k1, k0 = k1 + 1 := ⟨k, by omega⟩
    have := q2 k1 x (by omega)
    simpa using this
theorem lp_set1 {ad : Nat → Int → Nat} {lsC : Array Slot} {nL : Nat} {ls : Zl} {k : Nat} {v : Zv} {w : Value} (hw : en_v ad v = w) (hn : ∀ (k0 : Nat) (x : Int), k = k0 + 1 → ls[k0]? ≠ some (some (vL x))) (h : lv_has lsC nL ((k, w) :: (lp_ ad 0 ls).filter (fun q => !(q.1 == k) && !(q.1 + 1 == k && q.2.category == 2)))) : lv_has lsC nL (lp_ ad 0 (ls.set k (some v))) := by
  subst hw
  refine ⟨h.1, h.2.1, fun q hq => ?_⟩
  obtain ⟨j, u, rfl, hu⟩ := lp_mem hq
  rw [List.getElem?_set] at hu
  by_cases hj : k = j
  · subst hj
    rw [if_pos rfl] at hu
    by_cases hl : k < ls.length
    · rw [if_pos hl] at hu
      simp at hu
      subst hu
      have := h.2.2 (k, en_v ad v) List.mem_cons_self
      simpa using this
    · rw [if_neg hl] at hu
      simp at hu
  · rw [if_neg hj] at hu
    refine h.2.2 _ (List.mem_cons_of_mem _ (List.mem_filter.mpr ⟨lp_get hu, ?_⟩))
    have h1 : ¬ (0 + j + 1 = k ∧ (en_v ad u).category = 2) := by
      rintro ⟨a, b⟩
      obtain ⟨x, rfl⟩ := en_cat.mp b
      exact hn j x (by omega) hu
    simp only [Bool.and_eq_true, Bool.not_eq_true', beq_eq_false_iff_ne, ne_eq, Bool.and_eq_false_iff]
    refine ⟨by omega, ?_⟩
    by_cases z : 0 + j + 1 = k
    · exact Or.inr (fun b => h1 ⟨z, b⟩)
    · exact Or.inl z
-- numbers
theorem i3_t {x : Int} (h1 : -2147483648 ≤ x) (h2 : x ≤ 2147483647) : (Int32.ofInt x).toInt = x := Int32.toInt_ofInt_of_le (by omega) (by omega)
theorem i6_t {x : Int} (h1 : -9223372036854775808 ≤ x) (h2 : x ≤ 9223372036854775807) : (Int64.ofInt x).toInt = x := Int64.toInt_ofInt_of_le (by omega) (by omega)
theorem i3_eq {x y : Int} (h1 : -2147483648 ≤ x ∧ x ≤ 2147483647) (h2 : -2147483648 ≤ y ∧ y ≤ 2147483647) : Int32.ofInt x = Int32.ofInt y ↔ x = y := ⟨fun h => by have := congrArg Int32.toInt h; rwa [i3_t h1.1 h1.2, i3_t h2.1 h2.2] at this, fun h => by rw [h]⟩
theorem i3_le {x y : Int} (h1 : -2147483648 ≤ x ∧ x ≤ 2147483647) (h2 : -2147483648 ≤ y ∧ y ≤ 2147483647) : Int32.ofInt x ≤ Int32.ofInt y ↔ x ≤ y := by rw [Int32.le_iff_toInt_le, i3_t h1.1 h1.2, i3_t h2.1 h2.2]
theorem i3_lt {x y : Int} (h1 : -2147483648 ≤ x ∧ x ≤ 2147483647) (h2 : -2147483648 ≤ y ∧ y ≤ 2147483647) : Int32.ofInt x < Int32.ofInt y ↔ x < y := by rw [Int32.lt_iff_toInt_lt, i3_t h1.1 h1.2, i3_t h2.1 h2.2]
theorem i3_in {x n : Int} (h1 : 0 ≤ x) (h2 : x < n) (h3 : x ≤ 2147483647) : vp_in (Int32.ofInt x) n.toNat := vp_in_iff.mpr (by rw [i3_t (by omega) h3]; omega)
theorem i3_cl {x : Int} (h1 : 0 ≤ x) (h3 : x ≤ 2147483647) : ((Int32.ofInt x).toNatClampNeg : Int) = x := by
  show (((Int32.ofInt x).toInt.toNat : Nat) : Int) = x
  rw [i3_t (by omega) h3]; omega
theorem i3_r (v : Int32) : -2147483648 ≤ v.toInt ∧ v.toInt ≤ 2147483647 := ⟨Int32.le_toInt v, by have := Int32.toInt_lt v; omega⟩
theorem i3_div {x y : Int} (h1 : 0 ≤ x) (h2 : x ≤ 2147483647) (h3 : 0 < y) (h4 : y ≤ 2147483647) : Int32.ofInt x / Int32.ofInt y = Int32.ofInt (x / y) := by
  obtain ⟨a, rfl⟩ := Int.eq_ofNat_of_zero_le h1
  obtain ⟨b, rfl⟩ := Int.eq_ofNat_of_zero_le (Int.le_of_lt h3)
  exact pk_div (a := a) (d := b) (by omega) (by omega) (by omega)
theorem i3_rem {x y : Int} (h1 : 0 ≤ x) (h2 : x ≤ 2147483647) (h3 : 0 < y) (h4 : y ≤ 2147483647) : Int32.ofInt x - Int32.ofInt x / Int32.ofInt y * Int32.ofInt y = Int32.ofInt (x % y) := by
  obtain ⟨a, rfl⟩ := Int.eq_ofNat_of_zero_le h1
  obtain ⟨b, rfl⟩ := Int.eq_ofNat_of_zero_le (Int.le_of_lt h3)
  exact pk_rem (a := a) (d := b) (by omega) (by omega) (by omega)
theorem i6_rem {x y : Int} (h1 : 0 ≤ x) (h2 : x ≤ 9223372036854775807) (h3 : 0 < y) (h4 : y ≤ 9223372036854775807) : Int64.ofInt x - Int64.ofInt x / Int64.ofInt y * Int64.ofInt y = Int64.ofInt (x % y) := by
  obtain ⟨a, rfl⟩ := Int.eq_ofNat_of_zero_le h1
  obtain ⟨b, rfl⟩ := Int.eq_ofNat_of_zero_le (Int.le_of_lt h3)
  exact pk_lRem (a := a) (b := b) (by omega) (by omega) (by omega)
theorem i3_ne {y : Int} (h3 : 0 < y) (h4 : y ≤ 2147483647) : ¬ Int32.ofInt y = 0 := fun h => by
  have := congrArg Int32.toInt h
  rw [i3_t (by omega) h4] at this
  have e : (0 : Int32).toInt = 0 := rfl
  omega
theorem i6_ne {y : Int} (h3 : 0 < y) (h4 : y ≤ 9223372036854775807) : ¬ Int64.ofInt y = 0 := fun h => by
  have := congrArg Int64.toInt h
  rw [i6_t (by omega) h4] at this
  have e : (0 : Int64).toInt = 0 := rfl
  omega
theorem wr_ofInt (z : Int) : Int32.ofInt (wr_ z) = Int32.ofInt z := by
  apply Int32.toInt_inj.mp
  rw [Int32.toInt_ofInt, Int32.toInt_ofInt]
  simp only [wr_, Int.bmod_def, Int32.size]
  omega
theorem wq_ofInt (z : Int) : Int64.ofInt (wq_ z) = Int64.ofInt z := by
  apply Int64.toInt_inj.mp
  rw [Int64.toInt_ofInt, Int64.toInt_ofInt]
  simp only [wq_, Int.bmod_def, Int64.size]
  omega
theorem wq_r (z : Int) : -9223372036854775808 ≤ wq_ z ∧ wq_ z ≤ 9223372036854775807 := by unfold wq_; omega
theorem wr_r (z : Int) : -2147483648 ≤ wr_ z ∧ wr_ z ≤ 2147483647 := by unfold wr_; omega
theorem i3_l {x : Int} (h : -2147483648 ≤ x ∧ x ≤ 2147483647) : (Int32.ofInt x).toInt64 = Int64.ofInt x := by
  apply Int64.toInt_inj.mp
  rw [Int32.toInt_toInt64, i3_t h.1 h.2, i6_t (by omega) (by omega)]
theorem i6_i {x : Int} (h : -2147483648 ≤ x ∧ x ≤ 2147483647) : (Int64.ofInt x).toInt32 = Int32.ofInt x := by
  apply Int32.toInt_inj.mp
  rw [Int64.toInt_toInt32, i6_t (by omega) (by omega), i3_t h.1 h.2]
  simp only [Int.bmod_def]
  omega
theorem i6_cmp {x y : Int} (h1 : -9223372036854775808 ≤ x ∧ x ≤ 9223372036854775807) (h2 : -9223372036854775808 ≤ y ∧ y ≤ 9223372036854775807) : lg_cmp (Int64.ofInt x) (Int64.ofInt y) = Int32.ofInt (if x < y then -1 else if x = y then 0 else 1) := by
  have e1 : Int64.ofInt y < Int64.ofInt x ↔ y < x := by rw [Int64.lt_iff_toInt_lt, i6_t h1.1 h1.2, i6_t h2.1 h2.2]
  have e2 : Int64.ofInt x = Int64.ofInt y ↔ x = y := ⟨fun h => by have := congrArg Int64.toInt h; rwa [i6_t h1.1 h1.2, i6_t h2.1 h2.2] at this, fun h => by rw [h]⟩
  unfold lg_cmp
  simp only [e1, e2]
  by_cases a : x < y
  · have b : ¬ y < x := by omega
    have c : ¬ x = y := by omega
    simp [a, b, c]
  · by_cases b : x = y
    · subst b
      simp
    · have c : y < x := by omega
      simp [a, b, c]
section JR
variable {Y : Zm} {T0 T : Zt} {P : Zt → Option Zv → Prop} {bc bs : Nat} {pc : Int} {ls : Zl} {st : List Zv}
/-- an instruction that changes the operand stack alone -/
theorem j_pure {n : Nat} {st' : List Zv} (hp : 0 ≤ pc) (hok : ok_l T ls st → ok_l T ls st')
    (hw : ∀ (p : Program) (l : Launch) (e : Env) (R : Room) (s : State) (m : MethodId) (args : Array Value) (below : List Frame) (meth : Method) (c : Code) (H : Heap) (locs : List Loc) (cells slots : Nat) (Q : State → Prop) (lsC : Array Slot) (ad : Nat → Int → Nat), p.tables.exec = Jvm.exec → c.code = Y.2.1 → (∀ w ∈ lw_g, w.before args s = true) → s.vm.findClass Y.1 = some m.cls → ok_l T ls st → lv_has lsC Y.2.2.1 (lp_ ad 0 ls) → W p l e R s m args below meth c H locs cells slots Q (F0 m (pc.toNat + n) lsC (st'.map (en_v ad))) → W p l e R s m args below meth c H locs cells slots Q (F0 m pc.toNat lsC (st.map (en_v ad))))
    (k : J_ Y T0 P bc bs (pc + n) ls st' T) : J_ Y T0 P bc bs pc ls st T := by
  intro l p e s m args below meth c D cA ad0 A X ad H locs cells slots lsC hc hs hR hS hB hT hL hl hn
  have h1 := k l p e s m args below meth c D cA ad0 A X ad H locs cells slots lsC hc hs hR hS hB hT (hok hL) hl hn
  rw [show (pc + n).toNat = pc.toNat + n by omega] at h1
  exact hw _ _ _ _ _ _ _ _ _ _ _ _ _ _ _ _ _ X.1 X.2.1 X.2.2.2.2.2.1 X.2.2.2.2.2.2.1 hL hl h1
/-- a jump -/
theorem j_jump {tgt : Int} (hp : 0 ≤ pc) (ht : 0 ≤ tgt) {off : Int} (e : pc + off = tgt) (hd : decode Y.2.1 pc.toNat = .ok (.goto off, 3)) (k : J_ Y T0 P bc bs tgt ls st T) : J_ Y T0 P bc bs pc ls st T := by
  intro l p e' s m args below meth c D cA ad0 A X ad H locs cells slots lsC hc hs hR hS hB hT hL hl hn
  exact lv_goto (tgt := tgt.toNat) X.1 X.2.1 hd (by omega) (k l p e' s m args below meth c D cA ad0 A X ad H locs cells slots lsC hc hs hR hS hB hT hL hl hn)
theorem ok_push {v : Zv} (hv : ok_v T v) (h : ok_l T ls st) : ok_l T ls (v :: st) := ⟨h.1, fun w hw => (List.mem_cons.mp hw).elim (fun q => q ▸ hv) (h.2 w)⟩
theorem ok_head {v : Zv} (h : ok_l T ls (v :: st)) : ok_v T v := h.2 v List.mem_cons_self
theorem ok_tail {v : Zv} (h : ok_l T ls (v :: st)) : ok_l T ls st := ⟨h.1, fun w hw => h.2 w (List.mem_cons_of_mem _ hw)⟩
theorem ok_set {k : Nat} {v : Option Zv} (hv : ∀ w, v = some w → ok_v T w) (h : ok_l T ls st) : ok_l T (ls.set k v) st := by
  refine ⟨fun j w hj => ?_, h.2⟩
  rw [List.getElem?_set] at hj
  by_cases a : k = j
  · rw [if_pos a] at hj
    by_cases b : k < ls.length
    · rw [if_pos b] at hj
      exact hv w (by simpa using hj)
    · rw [if_neg b] at hj
      simp at hj
  · rw [if_neg a] at hj
    exact h.1 j w hj
theorem j_iconst {n : Int} (h1 : -2147483648 ≤ n) (h2 : n ≤ 2147483647) (hd : decode Y.2.1 pc.toNat = .ok (.iconst n, 1)) (hp : 0 ≤ pc) (k : J_ Y T0 P bc bs (pc + 1) ls (vI n :: st) T) : J_ Y T0 P bc bs pc ls (st) T :=
  j_pure (n := 1) (st' := vI n :: st) hp (fun h => ok_push (show ok_v T (vI n) from ⟨h1, h2⟩) h) (fun p l e R s m args below meth c H locs cells slots Q lsC ad hx hb ht ho hL hl k => lv_iconst hx hb hd rfl k) (by simpa using k)
theorem j_bipush {n : Int} (h1 : -128 ≤ n) (h2 : n ≤ 127) (hd : decode Y.2.1 pc.toNat = .ok (.bipush n, 2)) (hp : 0 ≤ pc) (k : J_ Y T0 P bc bs (pc + 2) ls (vI n :: st) T) : J_ Y T0 P bc bs pc ls (st) T :=
  j_pure (n := 2) (st' := vI n :: st) hp (fun h => ok_push (show ok_v T (vI n) from ⟨by omega, by omega⟩) h) (fun p l e R s m args below meth c H locs cells slots Q lsC ad hx hb ht ho hL hl k => lv_bipush hx hb hd (by apply Int32.toInt_inj.mp; rw [Int8.toInt_toInt32, Int8.toInt_ofInt_of_le (by omega) (by omega), i3_t (by omega) (by omega)]) k) (by simpa using k)
theorem j_sipush {n : Int} (h1 : -32768 ≤ n) (h2 : n ≤ 32767) (hd : decode Y.2.1 pc.toNat = .ok (.sipush n, 3)) (hp : 0 ≤ pc) (k : J_ Y T0 P bc bs (pc + 3) ls (vI n :: st) T) : J_ Y T0 P bc bs pc ls (st) T :=
  j_pure (n := 3) (st' := vI n :: st) hp (fun h => ok_push (show ok_v T (vI n) from ⟨by omega, by omega⟩) h) (fun p l e R s m args below meth c H locs cells slots Q lsC ad hx hb ht ho hL hl k => lv_sipush hx hb hd (by apply Int32.toInt_inj.mp; rw [Int16.toInt_toInt32, Int16.toInt_ofInt_of_le (by omega) (by omega), i3_t (by omega) (by omega)]) k) (by simpa using k)
theorem j_ldc {n : Int} {idx : Nat} (h1 : -2147483648 ≤ n) (h2 : n ≤ 2147483647) (hc : Cond.constant Y.1 idx (Int32.ofInt n) ∈ lw_g) (hd : decode Y.2.1 pc.toNat = .ok (.ldc idx, 2)) (hp : 0 ≤ pc) (k : J_ Y T0 P bc bs (pc + 2) ls (vI n :: st) T) : J_ Y T0 P bc bs pc ls (st) T :=
  j_pure (n := 2) (st' := vI n :: st) hp (fun h => ok_push (show ok_v T (vI n) from ⟨h1, h2⟩) h) (fun p l e R s m args below meth c H locs cells slots Q lsC ad hx hb ht ho hL hl k => lv_ldc hx hb ho (ht _ hc) hd k) (by simpa using k)
theorem j_ldcw {n : Int} {idx : Nat} (h1 : -2147483648 ≤ n) (h2 : n ≤ 2147483647) (hc : Cond.constant Y.1 idx (Int32.ofInt n) ∈ lw_g) (hd : decode Y.2.1 pc.toNat = .ok (.ldc_w idx, 3)) (hp : 0 ≤ pc) (k : J_ Y T0 P bc bs (pc + 3) ls (vI n :: st) T) : J_ Y T0 P bc bs pc ls (st) T :=
  j_pure (n := 3) (st' := vI n :: st) hp (fun h => ok_push (show ok_v T (vI n) from ⟨h1, h2⟩) h) (fun p l e R s m args below meth c H locs cells slots Q lsC ad hx hb ht ho hL hl k => lv_ldcw hx hb ho (ht _ hc) hd k) (by simpa using k)
theorem j_ldc2 {n : Int} {idx : Nat} (h1 : -9223372036854775808 ≤ n) (h2 : n ≤ 9223372036854775807) (hc : Cond.constantLong Y.1 idx (Int64.ofInt n) ∈ lw_g) (hd : decode Y.2.1 pc.toNat = .ok (.ldc2_w idx, 3)) (hp : 0 ≤ pc) (k : J_ Y T0 P bc bs (pc + 3) ls (vL n :: st) T) : J_ Y T0 P bc bs pc ls (st) T :=
  j_pure (n := 3) (st' := vL n :: st) hp (fun h => ok_push (show ok_v T (vL n) from ⟨h1, h2⟩) h) (fun p l e R s m args below meth c H locs cells slots Q lsC ad hx hb ht ho hL hl k => lv_ldc2 hx hb ho (ht _ hc) hd k) (by simpa using k)
theorem j_lconst {n : Fin 2} (hd : decode Y.2.1 pc.toNat = .ok (.lconst n, 1)) (hp : 0 ≤ pc) (k : J_ Y T0 P bc bs (pc + 1) ls (vL ((n : Nat) : Int) :: st) T) : J_ Y T0 P bc bs pc ls (st) T :=
  j_pure (n := 1) (st' := vL ((n : Nat) : Int) :: st) hp (fun h => ok_push (show ok_v T (vL ((n : Nat) : Int)) from ⟨by have := n.isLt; omega, by have := n.isLt; omega⟩) h) (fun p l e R s m args below meth c H locs cells slots Q lsC ad hx hb ht ho hL hl k => lv_lconst (v := Int64.ofInt ((n : Nat) : Int)) hx hb hd (by rw [Int64.ofInt_eq_ofNat]) k) (by simpa using k)
theorem j_iload {i : Nat} {x : Int} (hi : ls[i]? = some (some (vI x))) (hd : decode Y.2.1 pc.toNat = .ok (.iload i, 2)) (hp : 0 ≤ pc) (k : J_ Y T0 P bc bs (pc + 2) ls (vI x :: st) T) : J_ Y T0 P bc bs pc ls (st) T :=
  j_pure (n := 2) (st' := vI x :: st) hp (fun h => ok_push (h.1 _ _ hi) h) (fun p l e R s m args below meth c H locs cells slots Q lsC ad hx hb ht ho hL hl k => lv_iload hx hb hd (lp_read hl hi) k) (by simpa using k)
theorem j_iload_n {i : Fin 4} {x : Int} (hi : ls[(i : Nat)]? = some (some (vI x))) (hd : decode Y.2.1 pc.toNat = .ok (.iload_n i, 1)) (hp : 0 ≤ pc) (k : J_ Y T0 P bc bs (pc + 1) ls (vI x :: st) T) : J_ Y T0 P bc bs pc ls (st) T :=
  j_pure (n := 1) (st' := vI x :: st) hp (fun h => ok_push (h.1 _ _ hi) h) (fun p l e R s m args below meth c H locs cells slots Q lsC ad hx hb ht ho hL hl k => lv_iload_n hx hb hd rfl (lp_read hl hi) k) (by simpa using k)
theorem j_lload {i : Nat} {x : Int} (hi : ls[i]? = some (some (vL x))) (hd : decode Y.2.1 pc.toNat = .ok (.lload i, 2)) (hp : 0 ≤ pc) (k : J_ Y T0 P bc bs (pc + 2) ls (vL x :: st) T) : J_ Y T0 P bc bs pc ls (st) T :=
  j_pure (n := 2) (st' := vL x :: st) hp (fun h => ok_push (h.1 _ _ hi) h) (fun p l e R s m args below meth c H locs cells slots Q lsC ad hx hb ht ho hL hl k => lv_lload hx hb hd (lp_read hl hi) k) (by simpa using k)
theorem j_lload_n {i : Fin 4} {x : Int} (hi : ls[(i : Nat)]? = some (some (vL x))) (hd : decode Y.2.1 pc.toNat = .ok (.lload_n i, 1)) (hp : 0 ≤ pc) (k : J_ Y T0 P bc bs (pc + 1) ls (vL x :: st) T) : J_ Y T0 P bc bs pc ls (st) T :=
  j_pure (n := 1) (st' := vL x :: st) hp (fun h => ok_push (h.1 _ _ hi) h) (fun p l e R s m args below meth c H locs cells slots Q lsC ad hx hb ht ho hL hl k => lv_lload_n hx hb hd rfl (lp_read hl hi) k) (by simpa using k)
theorem j_aload {i : Nat} {q : Option (Nat × Int)} (hi : ls[i]? = some (some (.inr (.inr q)))) (hd : decode Y.2.1 pc.toNat = .ok (.aload i, 2)) (hp : 0 ≤ pc) (k : J_ Y T0 P bc bs (pc + 2) ls (.inr (.inr q) :: st) T) : J_ Y T0 P bc bs pc ls (st) T :=
  j_pure (n := 2) (st' := .inr (.inr q) :: st) hp (fun h => ok_push (h.1 _ _ hi) h) (fun p l e R s m args below meth c H locs cells slots Q lsC ad hx hb ht ho hL hl k => by
    rcases q with _ | ⟨kk, ii⟩
    · exact lv_aloadN hx hb hd (lp_read hl hi) k
    · exact lv_aload hx hb hd (lp_read hl hi) k) (by simpa using k)
theorem j_aload_n {i : Fin 4} {q : Option (Nat × Int)} (hi : ls[(i : Nat)]? = some (some (.inr (.inr q)))) (hd : decode Y.2.1 pc.toNat = .ok (.aload_n i, 1)) (hp : 0 ≤ pc) (k : J_ Y T0 P bc bs (pc + 1) ls (.inr (.inr q) :: st) T) : J_ Y T0 P bc bs pc ls (st) T :=
  j_pure (n := 1) (st' := .inr (.inr q) :: st) hp (fun h => ok_push (h.1 _ _ hi) h) (fun p l e R s m args below meth c H locs cells slots Q lsC ad hx hb ht ho hL hl k => by
    rcases q with _ | ⟨kk, ii⟩
    · exact lv_aload_nN hx hb hd rfl (lp_read hl hi) k
    · exact lv_aload_n hx hb hd rfl (lp_read hl hi) k) (by simpa using k)
theorem j_iadd {x y : Int} (h1 : -2147483648 ≤ x + y) (h2 : x + y ≤ 2147483647) (hd : decode Y.2.1 pc.toNat = .ok (.iadd, 1)) (hp : 0 ≤ pc) (k : J_ Y T0 P bc bs (pc + 1) ls (vI (x + y) :: st) T) : J_ Y T0 P bc bs pc ls (vI y :: vI x :: st) T :=
  j_pure (n := 1) (st' := vI (x + y) :: st) hp (fun h => ok_push (show ok_v T (vI (x + y)) from ⟨h1, h2⟩) (ok_tail (ok_tail h))) (fun p l e R s m args below meth c H locs cells slots Q lsC ad hx hb ht ho hL hl k => lv_iadd hx hb hd (by simpa [en_v, Int32.ofInt_add] using k)) (by simpa using k)
theorem j_iaddw {x y : Int} (hd : decode Y.2.1 pc.toNat = .ok (.iadd, 1)) (hp : 0 ≤ pc) (k : J_ Y T0 P bc bs (pc + 1) ls (vI (wr_ (x + y)) :: st) T) : J_ Y T0 P bc bs pc ls (vI y :: vI x :: st) T :=
  j_pure (n := 1) (st' := vI (wr_ (x + y)) :: st) hp (fun h => ok_push (show ok_v T (vI (wr_ (x + y))) from wr_r _) (ok_tail (ok_tail h))) (fun p l e R s m args below meth c H locs cells slots Q lsC ad hx hb ht ho hL hl k => lv_iadd hx hb hd (by simpa [en_v, wr_ofInt, Int32.ofInt_add] using k)) (by simpa using k)
theorem j_isub {x y : Int} (h1 : -2147483648 ≤ x - y) (h2 : x - y ≤ 2147483647) (hd : decode Y.2.1 pc.toNat = .ok (.isub, 1)) (hp : 0 ≤ pc) (k : J_ Y T0 P bc bs (pc + 1) ls (vI (x - y) :: st) T) : J_ Y T0 P bc bs pc ls (vI y :: vI x :: st) T :=
  j_pure (n := 1) (st' := vI (x - y) :: st) hp (fun h => ok_push (show ok_v T (vI (x - y)) from ⟨h1, h2⟩) (ok_tail (ok_tail h))) (fun p l e R s m args below meth c H locs cells slots Q lsC ad hx hb ht ho hL hl k => lv_isub hx hb hd (by simpa [en_v, Int32.ofInt_sub] using k)) (by simpa using k)
theorem j_isubw {x y : Int} (hd : decode Y.2.1 pc.toNat = .ok (.isub, 1)) (hp : 0 ≤ pc) (k : J_ Y T0 P bc bs (pc + 1) ls (vI (wr_ (x - y)) :: st) T) : J_ Y T0 P bc bs pc ls (vI y :: vI x :: st) T :=
  j_pure (n := 1) (st' := vI (wr_ (x - y)) :: st) hp (fun h => ok_push (show ok_v T (vI (wr_ (x - y))) from wr_r _) (ok_tail (ok_tail h))) (fun p l e R s m args below meth c H locs cells slots Q lsC ad hx hb ht ho hL hl k => lv_isub hx hb hd (by simpa [en_v, wr_ofInt, Int32.ofInt_sub] using k)) (by simpa using k)
theorem j_imul {x y : Int} (h1 : -2147483648 ≤ x * y) (h2 : x * y ≤ 2147483647) (hd : decode Y.2.1 pc.toNat = .ok (.imul, 1)) (hp : 0 ≤ pc) (k : J_ Y T0 P bc bs (pc + 1) ls (vI (x * y) :: st) T) : J_ Y T0 P bc bs pc ls (vI y :: vI x :: st) T :=
  j_pure (n := 1) (st' := vI (x * y) :: st) hp (fun h => ok_push (show ok_v T (vI (x * y)) from ⟨h1, h2⟩) (ok_tail (ok_tail h))) (fun p l e R s m args below meth c H locs cells slots Q lsC ad hx hb ht ho hL hl k => lv_imul hx hb hd (by simpa [en_v, Int32.ofInt_mul] using k)) (by simpa using k)
theorem j_imulw {x y : Int} (hd : decode Y.2.1 pc.toNat = .ok (.imul, 1)) (hp : 0 ≤ pc) (k : J_ Y T0 P bc bs (pc + 1) ls (vI (wr_ (x * y)) :: st) T) : J_ Y T0 P bc bs pc ls (vI y :: vI x :: st) T :=
  j_pure (n := 1) (st' := vI (wr_ (x * y)) :: st) hp (fun h => ok_push (show ok_v T (vI (wr_ (x * y))) from wr_r _) (ok_tail (ok_tail h))) (fun p l e R s m args below meth c H locs cells slots Q lsC ad hx hb ht ho hL hl k => lv_imul hx hb hd (by simpa [en_v, wr_ofInt, Int32.ofInt_mul] using k)) (by simpa using k)
theorem j_ineg {x : Int} (h1 : -2147483648 ≤ -x) (h2 : -x ≤ 2147483647) (hd : decode Y.2.1 pc.toNat = .ok (.ineg, 1)) (hp : 0 ≤ pc) (k : J_ Y T0 P bc bs (pc + 1) ls (vI (-x) :: st) T) : J_ Y T0 P bc bs pc ls (vI x :: st) T :=
  j_pure (n := 1) (st' := vI (-x) :: st) hp (fun h => ok_push (show ok_v T (vI (-x)) from ⟨h1, h2⟩) (ok_tail h)) (fun p l e R s m args below meth c H locs cells slots Q lsC ad hx hb ht ho hL hl k => lv_ineg hx hb hd (by simpa [en_v, Int32.ofInt_neg] using k)) (by simpa using k)
theorem j_inegw {x : Int} (hd : decode Y.2.1 pc.toNat = .ok (.ineg, 1)) (hp : 0 ≤ pc) (k : J_ Y T0 P bc bs (pc + 1) ls (vI (wr_ (-x)) :: st) T) : J_ Y T0 P bc bs pc ls (vI x :: st) T :=
  j_pure (n := 1) (st' := vI (wr_ (-x)) :: st) hp (fun h => ok_push (show ok_v T (vI (wr_ (-x))) from wr_r _) (ok_tail h)) (fun p l e R s m args below meth c H locs cells slots Q lsC ad hx hb ht ho hL hl k => lv_ineg hx hb hd (by simpa [en_v, wr_ofInt, Int32.ofInt_neg] using k)) (by simpa using k)
theorem dv_r {x y : Int} (h1 : 0 ≤ x) (h2 : 0 < y) : 0 ≤ x / y ∧ x / y ≤ x := ⟨Int.ediv_nonneg h1 (Int.le_of_lt h2), Int.ediv_le_self _ h1⟩
theorem rm_r {x y : Int} (h1 : 0 ≤ x) (h2 : 0 < y) : 0 ≤ x % y ∧ x % y ≤ x ∧ x % y < y := ⟨Int.emod_nonneg _ (by omega), by have := Int.ediv_mul_add_emod x y; have h := Int.mul_nonneg (Int.ediv_nonneg h1 (Int.le_of_lt h2)) (Int.le_of_lt h2); omega, Int.emod_lt_of_pos _ h2⟩
theorem j_idiv {x y : Int} (h1 : 0 ≤ x) (h2 : 0 < y) (hd : decode Y.2.1 pc.toNat = .ok (.idiv, 1)) (hp : 0 ≤ pc) (k : J_ Y T0 P bc bs (pc + 1) ls (vI (x / y) :: st) T) : J_ Y T0 P bc bs pc ls (vI y :: vI x :: st) T :=
  j_pure (n := 1) (st' := vI (x / y) :: st) hp (fun h => ok_push (show ok_v T (vI (x / y)) from by have a : -2147483648 ≤ x ∧ x ≤ 2147483647 := ok_head (ok_tail h); have b := dv_r h1 h2; exact ⟨by omega, by omega⟩) (ok_tail (ok_tail h))) (fun p l e R s m args below meth c H locs cells slots Q lsC ad hx hb ht ho hL hl k => by
    have a : -2147483648 ≤ x ∧ x ≤ 2147483647 := ok_head (ok_tail hL)
    have b : -2147483648 ≤ y ∧ y ≤ 2147483647 := ok_head hL
    exact lv_idiv hx hb hd (i3_ne h2 b.2) (by simpa [en_v, i3_div h1 a.2 h2 b.2] using k)) (by simpa using k)
theorem j_iremq {x y : Int} (h2 : 0 < y) (hd : decode Y.2.1 pc.toNat = .ok (.irem, 1)) (hp : 0 ≤ pc) (k : J_ Y T0 P bc bs (pc + 1) ls (vI (dr_ x y) :: st) T) : J_ Y T0 P bc bs pc ls (vI y :: vI x :: st) T :=
  j_pure (n := 1) (st' := vI (dr_ x y) :: st) hp (fun h => ok_push (show ok_v T (vI (dr_ x y)) from i3_r _) (ok_tail (ok_tail h))) (fun p l e R s m args below meth c H locs cells slots Q lsC ad hx hb ht ho hL hl k => by
    have b : -2147483648 ≤ y ∧ y ≤ 2147483647 := ok_head hL
    exact lv_irem hx hb hd (i3_ne h2 b.2) (by simpa only [en_v, dr_, List.map_cons, Int32.ofInt_toInt] using k)) (by simpa using k)
theorem j_idivq {x y : Int} (h2 : 0 < y) (hd : decode Y.2.1 pc.toNat = .ok (.idiv, 1)) (hp : 0 ≤ pc) (k : J_ Y T0 P bc bs (pc + 1) ls (vI (dq_ x y) :: st) T) : J_ Y T0 P bc bs pc ls (vI y :: vI x :: st) T :=
  j_pure (n := 1) (st' := vI (dq_ x y) :: st) hp (fun h => ok_push (show ok_v T (vI (dq_ x y)) from i3_r _) (ok_tail (ok_tail h))) (fun p l e R s m args below meth c H locs cells slots Q lsC ad hx hb ht ho hL hl k => by
    have b : -2147483648 ≤ y ∧ y ≤ 2147483647 := ok_head hL
    exact lv_idiv hx hb hd (i3_ne h2 b.2) (by simpa only [en_v, dq_, List.map_cons, Int32.ofInt_toInt] using k)) (by simpa using k)
theorem j_irem {x y : Int} (h1 : 0 ≤ x) (h2 : 0 < y) (hd : decode Y.2.1 pc.toNat = .ok (.irem, 1)) (hp : 0 ≤ pc) (k : J_ Y T0 P bc bs (pc + 1) ls (vI (x % y) :: st) T) : J_ Y T0 P bc bs pc ls (vI y :: vI x :: st) T :=
  j_pure (n := 1) (st' := vI (x % y) :: st) hp (fun h => ok_push (show ok_v T (vI (x % y)) from by have a : -2147483648 ≤ x ∧ x ≤ 2147483647 := ok_head (ok_tail h); have b := rm_r h1 h2; exact ⟨by omega, by omega⟩) (ok_tail (ok_tail h))) (fun p l e R s m args below meth c H locs cells slots Q lsC ad hx hb ht ho hL hl k => by
    have a : -2147483648 ≤ x ∧ x ≤ 2147483647 := ok_head (ok_tail hL)
    have b : -2147483648 ≤ y ∧ y ≤ 2147483647 := ok_head hL
    exact lv_irem hx hb hd (i3_ne h2 b.2) (by simpa [en_v, i3_rem h1 a.2 h2 b.2] using k)) (by simpa using k)
theorem j_iand {x y : Int} (hd : decode Y.2.1 pc.toNat = .ok (.iand, 1)) (hp : 0 ≤ pc) (k : J_ Y T0 P bc bs (pc + 1) ls (vI (an_ x y) :: st) T) : J_ Y T0 P bc bs pc ls (vI y :: vI x :: st) T :=
  j_pure (n := 1) (st' := vI (an_ x y) :: st) hp (fun h => ok_push (show ok_v T (vI (an_ x y)) from i3_r _) (ok_tail (ok_tail h))) (fun p l e R s m args below meth c H locs cells slots Q lsC ad hx hb ht ho hL hl k => lv_iand hx hb hd (by simpa [en_v, an_] using k)) (by simpa using k)
theorem j_ior {x y : Int} (hd : decode Y.2.1 pc.toNat = .ok (.ior, 1)) (hp : 0 ≤ pc) (k : J_ Y T0 P bc bs (pc + 1) ls (vI (or_ x y) :: st) T) : J_ Y T0 P bc bs pc ls (vI y :: vI x :: st) T :=
  j_pure (n := 1) (st' := vI (or_ x y) :: st) hp (fun h => ok_push (show ok_v T (vI (or_ x y)) from i3_r _) (ok_tail (ok_tail h))) (fun p l e R s m args below meth c H locs cells slots Q lsC ad hx hb ht ho hL hl k => lv_ior hx hb hd (by simpa [en_v, or_] using k)) (by simpa using k)
theorem j_ixor {x y : Int} (hd : decode Y.2.1 pc.toNat = .ok (.ixor, 1)) (hp : 0 ≤ pc) (k : J_ Y T0 P bc bs (pc + 1) ls (vI (xo_ x y) :: st) T) : J_ Y T0 P bc bs pc ls (vI y :: vI x :: st) T :=
  j_pure (n := 1) (st' := vI (xo_ x y) :: st) hp (fun h => ok_push (show ok_v T (vI (xo_ x y)) from i3_r _) (ok_tail (ok_tail h))) (fun p l e R s m args below meth c H locs cells slots Q lsC ad hx hb ht ho hL hl k => lv_ixor hx hb hd (by simpa [en_v, xo_] using k)) (by simpa using k)
theorem j_ishl {x y : Int} (hd : decode Y.2.1 pc.toNat = .ok (.ishl, 1)) (hp : 0 ≤ pc) (k : J_ Y T0 P bc bs (pc + 1) ls (vI (sl_ x y) :: st) T) : J_ Y T0 P bc bs pc ls (vI y :: vI x :: st) T :=
  j_pure (n := 1) (st' := vI (sl_ x y) :: st) hp (fun h => ok_push (show ok_v T (vI (sl_ x y)) from i3_r _) (ok_tail (ok_tail h))) (fun p l e R s m args below meth c H locs cells slots Q lsC ad hx hb ht ho hL hl k => lv_ishl hx hb hd (by simpa [en_v, sl_] using k)) (by simpa using k)
theorem j_ishr {x y : Int} (hd : decode Y.2.1 pc.toNat = .ok (.ishr, 1)) (hp : 0 ≤ pc) (k : J_ Y T0 P bc bs (pc + 1) ls (vI (sr_ x y) :: st) T) : J_ Y T0 P bc bs pc ls (vI y :: vI x :: st) T :=
  j_pure (n := 1) (st' := vI (sr_ x y) :: st) hp (fun h => ok_push (show ok_v T (vI (sr_ x y)) from i3_r _) (ok_tail (ok_tail h))) (fun p l e R s m args below meth c H locs cells slots Q lsC ad hx hb ht ho hL hl k => lv_ishr hx hb hd (by simpa [en_v, sr_] using k)) (by simpa using k)
theorem j_iushr {x y : Int} (hd : decode Y.2.1 pc.toNat = .ok (.iushr, 1)) (hp : 0 ≤ pc) (k : J_ Y T0 P bc bs (pc + 1) ls (vI (us_ x y) :: st) T) : J_ Y T0 P bc bs pc ls (vI y :: vI x :: st) T :=
  j_pure (n := 1) (st' := vI (us_ x y) :: st) hp (fun h => ok_push (show ok_v T (vI (us_ x y)) from i3_r _) (ok_tail (ok_tail h))) (fun p l e R s m args below meth c H locs cells slots Q lsC ad hx hb ht ho hL hl k => lv_iushr hx hb hd rfl (by simpa only [en_v, us_, List.map_cons, Int32.ofInt_toInt] using k)) (by simpa using k)
theorem j_i2l {x : Int} (hd : decode Y.2.1 pc.toNat = .ok (.i2l, 1)) (hp : 0 ≤ pc) (k : J_ Y T0 P bc bs (pc + 1) ls (vL x :: st) T) : J_ Y T0 P bc bs pc ls (vI x :: st) T :=
  j_pure (n := 1) (st' := vL x :: st) hp (fun h => ok_push (show ok_v T (vL x) from by have a : -2147483648 ≤ x ∧ x ≤ 2147483647 := ok_head h; exact ⟨by omega, by omega⟩) (ok_tail h)) (fun p l e R s m args below meth c H locs cells slots Q lsC ad hx hb ht ho hL hl k => lv_i2l hx hb hd (i3_l (ok_head hL)) k) (by simpa using k)
theorem j_l2i {x : Int} (h1 : -2147483648 ≤ x) (h2 : x ≤ 2147483647) (hd : decode Y.2.1 pc.toNat = .ok (.l2i, 1)) (hp : 0 ≤ pc) (k : J_ Y T0 P bc bs (pc + 1) ls (vI x :: st) T) : J_ Y T0 P bc bs pc ls (vL x :: st) T :=
  j_pure (n := 1) (st' := vI x :: st) hp (fun h => ok_push (show ok_v T (vI x) from ⟨h1, h2⟩) (ok_tail h)) (fun p l e R s m args below meth c H locs cells slots Q lsC ad hx hb ht ho hL hl k => lv_l2i hx hb hd (i6_i ⟨h1, h2⟩) k) (by simpa using k)
theorem j_laddw {x y : Int} (hd : decode Y.2.1 pc.toNat = .ok (.ladd, 1)) (hp : 0 ≤ pc) (k : J_ Y T0 P bc bs (pc + 1) ls (vL (wq_ (x + y)) :: st) T) : J_ Y T0 P bc bs pc ls (vL y :: vL x :: st) T :=
  j_pure (n := 1) (st' := vL (wq_ (x + y)) :: st) hp (fun h => ok_push (show ok_v T (vL (wq_ (x + y))) from wq_r _) (ok_tail (ok_tail h))) (fun p l e R s m args below meth c H locs cells slots Q lsC ad hx hb ht ho hL hl k => lv_ladd hx hb hd (by simpa [en_v, wq_ofInt, Int64.ofInt_add] using k)) (by simpa using k)
theorem j_ladd {x y : Int} (h1 : -9223372036854775808 ≤ x + y) (h2 : x + y ≤ 9223372036854775807) (hd : decode Y.2.1 pc.toNat = .ok (.ladd, 1)) (hp : 0 ≤ pc) (k : J_ Y T0 P bc bs (pc + 1) ls (vL (x + y) :: st) T) : J_ Y T0 P bc bs pc ls (vL y :: vL x :: st) T :=
  j_pure (n := 1) (st' := vL (x + y) :: st) hp (fun h => ok_push (show ok_v T (vL (x + y)) from ⟨h1, h2⟩) (ok_tail (ok_tail h))) (fun p l e R s m args below meth c H locs cells slots Q lsC ad hx hb ht ho hL hl k => lv_ladd hx hb hd (by simpa [en_v, Int64.ofInt_add] using k)) (by simpa using k)
theorem j_lsubw {x y : Int} (hd : decode Y.2.1 pc.toNat = .ok (.lsub, 1)) (hp : 0 ≤ pc) (k : J_ Y T0 P bc bs (pc + 1) ls (vL (wq_ (x - y)) :: st) T) : J_ Y T0 P bc bs pc ls (vL y :: vL x :: st) T :=
  j_pure (n := 1) (st' := vL (wq_ (x - y)) :: st) hp (fun h => ok_push (show ok_v T (vL (wq_ (x - y))) from wq_r _) (ok_tail (ok_tail h))) (fun p l e R s m args below meth c H locs cells slots Q lsC ad hx hb ht ho hL hl k => lv_lsub hx hb hd (by simpa [en_v, wq_ofInt, Int64.ofInt_sub] using k)) (by simpa using k)
theorem j_lsub {x y : Int} (h1 : -9223372036854775808 ≤ x - y) (h2 : x - y ≤ 9223372036854775807) (hd : decode Y.2.1 pc.toNat = .ok (.lsub, 1)) (hp : 0 ≤ pc) (k : J_ Y T0 P bc bs (pc + 1) ls (vL (x - y) :: st) T) : J_ Y T0 P bc bs pc ls (vL y :: vL x :: st) T :=
  j_pure (n := 1) (st' := vL (x - y) :: st) hp (fun h => ok_push (show ok_v T (vL (x - y)) from ⟨h1, h2⟩) (ok_tail (ok_tail h))) (fun p l e R s m args below meth c H locs cells slots Q lsC ad hx hb ht ho hL hl k => lv_lsub hx hb hd (by simpa [en_v, Int64.ofInt_sub] using k)) (by simpa using k)
theorem j_lmulw {x y : Int} (hd : decode Y.2.1 pc.toNat = .ok (.lmul, 1)) (hp : 0 ≤ pc) (k : J_ Y T0 P bc bs (pc + 1) ls (vL (wq_ (x * y)) :: st) T) : J_ Y T0 P bc bs pc ls (vL y :: vL x :: st) T :=
  j_pure (n := 1) (st' := vL (wq_ (x * y)) :: st) hp (fun h => ok_push (show ok_v T (vL (wq_ (x * y))) from wq_r _) (ok_tail (ok_tail h))) (fun p l e R s m args below meth c H locs cells slots Q lsC ad hx hb ht ho hL hl k => lv_lmul hx hb hd (by simpa [en_v, wq_ofInt, Int64.ofInt_mul] using k)) (by simpa using k)
theorem j_lmul {x y : Int} (h1 : -9223372036854775808 ≤ x * y) (h2 : x * y ≤ 9223372036854775807) (hd : decode Y.2.1 pc.toNat = .ok (.lmul, 1)) (hp : 0 ≤ pc) (k : J_ Y T0 P bc bs (pc + 1) ls (vL (x * y) :: st) T) : J_ Y T0 P bc bs pc ls (vL y :: vL x :: st) T :=
  j_pure (n := 1) (st' := vL (x * y) :: st) hp (fun h => ok_push (show ok_v T (vL (x * y)) from ⟨h1, h2⟩) (ok_tail (ok_tail h))) (fun p l e R s m args below meth c H locs cells slots Q lsC ad hx hb ht ho hL hl k => lv_lmul hx hb hd (by simpa [en_v, Int64.ofInt_mul] using k)) (by simpa using k)
theorem j_lrem {x y : Int} (h1 : 0 ≤ x) (h2 : 0 < y) (hd : decode Y.2.1 pc.toNat = .ok (.lrem, 1)) (hp : 0 ≤ pc) (k : J_ Y T0 P bc bs (pc + 1) ls (vL (x % y) :: st) T) : J_ Y T0 P bc bs pc ls (vL y :: vL x :: st) T :=
  j_pure (n := 1) (st' := vL (x % y) :: st) hp (fun h => ok_push (show ok_v T (vL (x % y)) from by have a : -9223372036854775808 ≤ x ∧ x ≤ 9223372036854775807 := ok_head (ok_tail h); have b := rm_r h1 h2; exact ⟨by omega, by omega⟩) (ok_tail (ok_tail h))) (fun p l e R s m args below meth c H locs cells slots Q lsC ad hx hb ht ho hL hl k => by
    have a : -9223372036854775808 ≤ x ∧ x ≤ 9223372036854775807 := ok_head (ok_tail hL)
    have b : -9223372036854775808 ≤ y ∧ y ≤ 9223372036854775807 := ok_head hL
    exact lv_lrem hx hb hd (i6_ne h2 b.2) (by simpa [en_v, i6_rem h1 a.2 h2 b.2] using k)) (by simpa using k)
theorem j_lcmp {x y : Int} (hd : decode Y.2.1 pc.toNat = .ok (.lcmp, 1)) (hp : 0 ≤ pc) (k : J_ Y T0 P bc bs (pc + 1) ls (vI (if x < y then -1 else if x = y then 0 else 1) :: st) T) : J_ Y T0 P bc bs pc ls (vL y :: vL x :: st) T :=
  j_pure (n := 1) (st' := vI (if x < y then -1 else if x = y then 0 else 1) :: st) hp (fun h => ok_push (show ok_v T (vI _) from ⟨by split <;> (try split) <;> omega, by split <;> (try split) <;> omega⟩) (ok_tail (ok_tail h))) (fun p l e R s m args below meth c H locs cells slots Q lsC ad hx hb ht ho hL hl k => W.lcmp hx hb hd (by rw [i6_cmp (ok_head (ok_tail hL)) (ok_head hL)]; exact k)) (by simpa using k)
theorem j_dupi {x : Int} (hd : decode Y.2.1 pc.toNat = .ok (.dup, 1)) (hp : 0 ≤ pc) (k : J_ Y T0 P bc bs (pc + 1) ls (vI x :: vI x :: st) T) : J_ Y T0 P bc bs pc ls (vI x :: st) T :=
  j_pure (n := 1) (st' := vI x :: vI x :: st) hp (fun h => ok_push (ok_head h) h) (fun p l e R s m args below meth c H locs cells slots Q lsC ad hx hb ht ho hL hl k => lv_dup hx hb hd rfl k) (by simpa using k)
theorem j_dupr {q : Option (Nat × Int)} (hd : decode Y.2.1 pc.toNat = .ok (.dup, 1)) (hp : 0 ≤ pc) (k : J_ Y T0 P bc bs (pc + 1) ls (.inr (.inr q) :: .inr (.inr q) :: st) T) : J_ Y T0 P bc bs pc ls (.inr (.inr q) :: st) T :=
  j_pure (n := 1) (st' := .inr (.inr q) :: .inr (.inr q) :: st) hp (fun h => ok_push (ok_head h) h) (fun p l e R s m args below meth c H locs cells slots Q lsC ad hx hb ht ho hL hl k => lv_dup hx hb hd (by rcases q with _ | ⟨kk, ii⟩ <;> rfl) k) (by simpa using k)
theorem j_dup2 {y : Int} {q : Option (Nat × Int)} (hd : decode Y.2.1 pc.toNat = .ok (.dup2, 1)) (hp : 0 ≤ pc) (k : J_ Y T0 P bc bs (pc + 1) ls (vI y :: .inr (.inr q) :: vI y :: .inr (.inr q) :: st) T) : J_ Y T0 P bc bs pc ls (vI y :: .inr (.inr q) :: st) T :=
  j_pure (n := 1) (st' := vI y :: .inr (.inr q) :: vI y :: .inr (.inr q) :: st) hp (fun h => ok_push (ok_head h) (ok_push (ok_head (ok_tail h)) h)) (fun p l e R s m args below meth c H locs cells slots Q lsC ad hx hb ht ho hL hl k => lv_dup2_11 hx hb hd rfl (by rcases q with _ | ⟨kk, ii⟩ <;> rfl) k) (by simpa using k)
theorem j_popi {x : Int} (hd : decode Y.2.1 pc.toNat = .ok (.pop, 1)) (hp : 0 ≤ pc) (k : J_ Y T0 P bc bs (pc + 1) ls (st) T) : J_ Y T0 P bc bs pc ls (vI x :: st) T :=
  j_pure (n := 1) (st' := st) hp (fun h => ok_tail h) (fun p l e R s m args below meth c H locs cells slots Q lsC ad hx hb ht ho hL hl k => lv_pop hx hb hd rfl k) (by simpa using k)
theorem j_popr {q : Option (Nat × Int)} (hd : decode Y.2.1 pc.toNat = .ok (.pop, 1)) (hp : 0 ≤ pc) (k : J_ Y T0 P bc bs (pc + 1) ls (st) T) : J_ Y T0 P bc bs pc ls (.inr (.inr q) :: st) T :=
  j_pure (n := 1) (st' := st) hp (fun h => ok_tail h) (fun p l e R s m args below meth c H locs cells slots Q lsC ad hx hb ht ho hL hl k => lv_pop hx hb hd (by rcases q with _ | ⟨kk, ii⟩ <;> rfl) k) (by simpa using k)
end JR
section JR
variable {Y : Zm} {T0 T : Zt} {P : Zt → Option Zv → Prop} {bc bs : Nat} {pc : Int} {ls : Zl} {st : List Zv}
theorem j_istore {i : Nat} {x : Int} (hp : 0 ≤ pc) (hd : decode Y.2.1 pc.toNat = .ok (.istore i, 2)) (hi : i < ls.length) (hw : ∀ (k0 : Nat) (x : Int), i = k0 + 1 → ls[k0]? ≠ some (some (vL x))) (k : J_ Y T0 P bc bs (pc + 2) (ls.set i (some (vI x))) st T) : J_ Y T0 P bc bs pc ls (vI x :: st) T := by
  intro l p e s m args below meth c D cA ad0 A X ad H locs cells slots lsC hc hs hR hS hB hT hL hl hn
  have k2 := fun lsC hl => k l p e s m args below meth c D cA ad0 A X ad H locs cells slots lsC hc hs hR hS hB hT (ok_set (fun w h => by cases h; exact ok_head hL) (ok_tail hL)) hl (by rw [List.length_set]; exact hn)
  rw [show (pc + 2).toNat = pc.toNat + 2 by omega] at k2
  exact lv_istore X.1 X.2.1 hd hl (by rw [← hn]; exact hi) rfl (fun ls' h' => k2 ls' (lp_set1 rfl hw h'))
theorem j_istore_n {i : Fin 4} {x : Int} (hp : 0 ≤ pc) (hd : decode Y.2.1 pc.toNat = .ok (.istore_n i, 1)) (hi : (i : Nat) < ls.length) (hw : ∀ (k0 : Nat) (x : Int), (i : Nat) = k0 + 1 → ls[k0]? ≠ some (some (vL x))) (k : J_ Y T0 P bc bs (pc + 1) (ls.set (i : Nat) (some (vI x))) st T) : J_ Y T0 P bc bs pc ls (vI x :: st) T := by
  intro l p e s m args below meth c D cA ad0 A X ad H locs cells slots lsC hc hs hR hS hB hT hL hl hn
  have k2 := fun lsC hl => k l p e s m args below meth c D cA ad0 A X ad H locs cells slots lsC hc hs hR hS hB hT (ok_set (fun w h => by cases h; exact ok_head hL) (ok_tail hL)) hl (by rw [List.length_set]; exact hn)
  rw [show (pc + 1).toNat = pc.toNat + 1 by omega] at k2
  exact lv_istore_n X.1 X.2.1 hd rfl hl (by rw [← hn]; exact hi) rfl (fun ls' h' => k2 ls' (lp_set1 rfl hw h'))
theorem j_astore {i : Nat} {q : Option (Nat × Int)} (hp : 0 ≤ pc) (hd : decode Y.2.1 pc.toNat = .ok (.astore i, 2)) (hi : i < ls.length) (hw : ∀ (k0 : Nat) (x : Int), i = k0 + 1 → ls[k0]? ≠ some (some (vL x))) (k : J_ Y T0 P bc bs (pc + 2) (ls.set i (some (.inr (.inr q)))) st T) : J_ Y T0 P bc bs pc ls (.inr (.inr q) :: st) T := by
  intro l p e s m args below meth c D cA ad0 A X ad H locs cells slots lsC hc hs hR hS hB hT hL hl hn
  have k2 := fun lsC hl => k l p e s m args below meth c D cA ad0 A X ad H locs cells slots lsC hc hs hR hS hB hT (ok_set (fun w h => by cases h; exact ok_head hL) (ok_tail hL)) hl (by rw [List.length_set]; exact hn)
  rw [show (pc + 2).toNat = pc.toNat + 2 by omega] at k2
  rcases q with _ | ⟨kk, ii⟩
  · exact lv_astoreN X.1 X.2.1 hd hl (by rw [← hn]; exact hi) rfl (fun ls' h' => k2 ls' (lp_set1 rfl hw h'))
  · exact lv_astore X.1 X.2.1 hd hl (by rw [← hn]; exact hi) rfl (fun ls' h' => k2 ls' (lp_set1 rfl hw h'))
theorem j_astore_n {i : Fin 4} {q : Option (Nat × Int)} (hp : 0 ≤ pc) (hd : decode Y.2.1 pc.toNat = .ok (.astore_n i, 1)) (hi : (i : Nat) < ls.length) (hw : ∀ (k0 : Nat) (x : Int), (i : Nat) = k0 + 1 → ls[k0]? ≠ some (some (vL x))) (k : J_ Y T0 P bc bs (pc + 1) (ls.set (i : Nat) (some (.inr (.inr q)))) st T) : J_ Y T0 P bc bs pc ls (.inr (.inr q) :: st) T := by
  intro l p e s m args below meth c D cA ad0 A X ad H locs cells slots lsC hc hs hR hS hB hT hL hl hn
  have k2 := fun lsC hl => k l p e s m args below meth c D cA ad0 A X ad H locs cells slots lsC hc hs hR hS hB hT (ok_set (fun w h => by cases h; exact ok_head hL) (ok_tail hL)) hl (by rw [List.length_set]; exact hn)
  rw [show (pc + 1).toNat = pc.toNat + 1 by omega] at k2
  rcases q with _ | ⟨kk, ii⟩
  · exact lv_astore_nN X.1 X.2.1 hd rfl hl (by rw [← hn]; exact hi) rfl (fun ls' h' => k2 ls' (lp_set1 rfl hw h'))
  · exact lv_astore_n X.1 X.2.1 hd rfl hl (by rw [← hn]; exact hi) rfl (fun ls' h' => k2 ls' (lp_set1 rfl hw h'))
theorem lp_set2 {ad : Nat → Int → Nat} {lsC : Array Slot} {nL : Nat} {ls : Zl} {k : Nat} {x : Int} (hn : ∀ (k0 : Nat) (x : Int), k = k0 + 1 → ls[k0]? ≠ some (some (vL x))) (h : lv_has lsC nL ((k, Value.long (Int64.ofInt x)) :: (lp_ ad 0 ls).filter (fun q => !(q.1 == k) && (!(q.1 == k + 1) && !(q.1 + 1 == k && q.2.category == 2))))) : lv_has lsC nL (lp_ ad 0 (((ls.set k none).set (k + 1) none).set k (some (vL x)))) := by
  refine ⟨h.1, h.2.1, fun q hq => ?_⟩
  obtain ⟨j, u, rfl, hu⟩ := lp_mem hq
  by_cases hj : k = j
  · subst hj
    have hu' : u = vL x := by
      rw [List.getElem?_set, if_pos rfl] at hu
      split at hu <;> simp at hu
      exact hu.symm
    subst hu'
    have := h.2.2 (k, Value.long (Int64.ofInt x)) List.mem_cons_self
    rw [Nat.zero_add]
    exact this
  · rw [List.getElem?_set_ne hj] at hu
    have hj1 : ¬ k + 1 = j := by
      intro a
      subst a
      rw [List.getElem?_set, if_pos rfl] at hu
      split at hu <;> simp at hu
    rw [List.getElem?_set_ne hj1, List.getElem?_set_ne hj] at hu
    refine h.2.2 _ (List.mem_cons_of_mem _ (List.mem_filter.mpr ⟨lp_get hu, ?_⟩))
    have h1 : ¬ (0 + j + 1 = k ∧ (en_v ad u).category = 2) := by
      rintro ⟨a, b⟩
      obtain ⟨x, rfl⟩ := en_cat.mp b
      exact hn j x (by omega) hu
    simp only [Bool.and_eq_true, Bool.not_eq_true', beq_eq_false_iff_ne, ne_eq, Bool.and_eq_false_iff]
    refine ⟨by omega, by omega, ?_⟩
    by_cases z : 0 + j + 1 = k
    · exact Or.inr (fun b => h1 ⟨z, b⟩)
    · exact Or.inl z
theorem j_lstore {i : Nat} {x : Int} (hp : 0 ≤ pc) (hd : decode Y.2.1 pc.toNat = .ok (.lstore i, 2)) (hi : i + 1 < ls.length) (hw : ∀ (k0 : Nat) (x : Int), i = k0 + 1 → ls[k0]? ≠ some (some (vL x))) (k : J_ Y T0 P bc bs (pc + 2) (((ls.set i none).set (i + 1) none).set i (some (vL x))) st T) : J_ Y T0 P bc bs pc ls (vL x :: st) T := by
  intro l p e s m args below meth c D cA ad0 A X ad H locs cells slots lsC hc hs hR hS hB hT hL hl hn
  have k2 := fun lsC hl => k l p e s m args below meth c D cA ad0 A X ad H locs cells slots lsC hc hs hR hS hB hT (ok_set (fun w h => by cases h; exact ok_head hL) (ok_set (fun w h => by cases h) (ok_set (fun w h => by cases h) (ok_tail hL)))) hl (by rw [List.length_set, List.length_set, List.length_set]; exact hn)
  rw [show (pc + 2).toNat = pc.toNat + 2 by omega] at k2
  exact lv_lstore X.1 X.2.1 hd hl (by rw [← hn]; exact hi) rfl (fun ls' h' => k2 ls' (lp_set2 hw h'))
theorem j_lstore_n {i : Fin 4} {x : Int} (hp : 0 ≤ pc) (hd : decode Y.2.1 pc.toNat = .ok (.lstore_n i, 1)) (hi : (i : Nat) + 1 < ls.length) (hw : ∀ (k0 : Nat) (x : Int), (i : Nat) = k0 + 1 → ls[k0]? ≠ some (some (vL x))) (k : J_ Y T0 P bc bs (pc + 1) (((ls.set (i : Nat) none).set ((i : Nat) + 1) none).set (i : Nat) (some (vL x))) st T) : J_ Y T0 P bc bs pc ls (vL x :: st) T := by
  intro l p e s m args below meth c D cA ad0 A X ad H locs cells slots lsC hc hs hR hS hB hT hL hl hn
  have k2 := fun lsC hl => k l p e s m args below meth c D cA ad0 A X ad H locs cells slots lsC hc hs hR hS hB hT (ok_set (fun w h => by cases h; exact ok_head hL) (ok_set (fun w h => by cases h) (ok_set (fun w h => by cases h) (ok_tail hL)))) hl (by rw [List.length_set, List.length_set, List.length_set]; exact hn)
  rw [show (pc + 1).toNat = pc.toNat + 1 by omega] at k2
  exact lv_lstore_n X.1 X.2.1 hd rfl hl (by rw [← hn]; exact hi) rfl (fun ls' h' => k2 ls' (lp_set2 hw h'))
theorem j_iinc {i : Nat} {n x : Int} (hp : 0 ≤ pc) (hd : decode Y.2.1 pc.toNat = .ok (.iinc i n, 3)) (hx : ls[i]? = some (some (vI x))) (h1 : -2147483648 ≤ x + n) (h2 : x + n ≤ 2147483647) (hw : ∀ (k0 : Nat) (x : Int), i = k0 + 1 → ls[k0]? ≠ some (some (vL x))) (k : J_ Y T0 P bc bs (pc + 3) (ls.set i (some (vI (x + n)))) st T) : J_ Y T0 P bc bs pc ls st T := by
  intro l p e s m args below meth c D cA ad0 A X ad H locs cells slots lsC hc hs hR hS hB hT hL hl hn
  have k2 := fun lsC hl => k l p e s m args below meth c D cA ad0 A X ad H locs cells slots lsC hc hs hR hS hB hT (ok_set (fun w h => by cases h; exact ⟨h1, h2⟩) hL) hl (by rw [List.length_set]; exact hn)
  rw [show (pc + 3).toNat = pc.toNat + 3 by omega] at k2
  have hi : i < ls.length := (List.getElem?_eq_some_iff.mp hx).1
  obtain ⟨kk, hkk⟩ := List.getElem?_of_mem (lp_get (ad := ad) (n := 0) hx)
  exact lv_iinc (k := kk) (x := Int32.ofInt x) X.1 X.2.1 hd hl (by rw [hkk, Nat.zero_add]; rfl) (by rw [← Int32.ofInt_add]) (by rw [← hn]; exact hi) rfl (fun ls' h' => k2 ls' (lp_set1 rfl hw h'))
theorem j_icmp_eq {x y off tgt : Int} (hp : 0 ≤ pc) (ht : 0 ≤ tgt) (e : pc + off = tgt) (hd : decode Y.2.1 pc.toNat = .ok (.if_icmp .eq off, 3)) (kt : x = y → J_ Y T0 P bc bs tgt ls st T) (kf : ¬ x = y → J_ Y T0 P bc bs (pc + 3) ls st T) : J_ Y T0 P bc bs pc ls (vI y :: vI x :: st) T := by
  intro l p e' s m args below meth c D cA ad0 A X ad H locs cells slots lsC hc hs hR hS hB hT hL hl hn
  have hL' := ok_tail (ok_tail hL)
  have ax : -2147483648 ≤ x ∧ x ≤ 2147483647 := ok_head (ok_tail hL)
  have ay : -2147483648 ≤ (y : Int) ∧ y ≤ 2147483647 := ok_head hL
  refine lv_icmp_eq (tgt := tgt.toNat) X.1 X.2.1 hd (by omega) (fun h => kt ((i3_eq ax ay).mp h) l p e' s m args below meth c D cA ad0 A X ad H locs cells slots lsC hc hs hR hS hB hT hL' hl hn) (fun h => ?_)
  have k2 := kf (fun q => h ((i3_eq ax ay).mpr q)) l p e' s m args below meth c D cA ad0 A X ad H locs cells slots lsC hc hs hR hS hB hT hL' hl hn
  rw [show (pc + 3).toNat = pc.toNat + 3 by omega] at k2
  exact k2
theorem j_icmp_ne {x y off tgt : Int} (hp : 0 ≤ pc) (ht : 0 ≤ tgt) (e : pc + off = tgt) (hd : decode Y.2.1 pc.toNat = .ok (.if_icmp .ne off, 3)) (kt : ¬ x = y → J_ Y T0 P bc bs tgt ls st T) (kf : x = y → J_ Y T0 P bc bs (pc + 3) ls st T) : J_ Y T0 P bc bs pc ls (vI y :: vI x :: st) T := by
  intro l p e' s m args below meth c D cA ad0 A X ad H locs cells slots lsC hc hs hR hS hB hT hL hl hn
  have hL' := ok_tail (ok_tail hL)
  have ax : -2147483648 ≤ x ∧ x ≤ 2147483647 := ok_head (ok_tail hL)
  have ay : -2147483648 ≤ (y : Int) ∧ y ≤ 2147483647 := ok_head hL
  refine lv_icmp_ne (tgt := tgt.toNat) X.1 X.2.1 hd (by omega) (fun h => kt (fun q => h ((i3_eq ax ay).mpr q)) l p e' s m args below meth c D cA ad0 A X ad H locs cells slots lsC hc hs hR hS hB hT hL' hl hn) (fun h => ?_)
  have k2 := kf ((i3_eq ax ay).mp h) l p e' s m args below meth c D cA ad0 A X ad H locs cells slots lsC hc hs hR hS hB hT hL' hl hn
  rw [show (pc + 3).toNat = pc.toNat + 3 by omega] at k2
  exact k2
theorem j_icmp_lt {x y off tgt : Int} (hp : 0 ≤ pc) (ht : 0 ≤ tgt) (e : pc + off = tgt) (hd : decode Y.2.1 pc.toNat = .ok (.if_icmp .lt off, 3)) (kt : x < y → J_ Y T0 P bc bs tgt ls st T) (kf : y ≤ x → J_ Y T0 P bc bs (pc + 3) ls st T) : J_ Y T0 P bc bs pc ls (vI y :: vI x :: st) T := by
  intro l p e' s m args below meth c D cA ad0 A X ad H locs cells slots lsC hc hs hR hS hB hT hL hl hn
  have hL' := ok_tail (ok_tail hL)
  have ax : -2147483648 ≤ x ∧ x ≤ 2147483647 := ok_head (ok_tail hL)
  have ay : -2147483648 ≤ (y : Int) ∧ y ≤ 2147483647 := ok_head hL
  refine lv_icmp_lt (tgt := tgt.toNat) X.1 X.2.1 hd (by omega) (fun h => kt ((i3_lt ax ay).mp h) l p e' s m args below meth c D cA ad0 A X ad H locs cells slots lsC hc hs hR hS hB hT hL' hl hn) (fun h => ?_)
  have k2 := kf (by have := mt (i3_lt ax ay).mpr h; omega) l p e' s m args below meth c D cA ad0 A X ad H locs cells slots lsC hc hs hR hS hB hT hL' hl hn
  rw [show (pc + 3).toNat = pc.toNat + 3 by omega] at k2
  exact k2
theorem j_icmp_ge {x y off tgt : Int} (hp : 0 ≤ pc) (ht : 0 ≤ tgt) (e : pc + off = tgt) (hd : decode Y.2.1 pc.toNat = .ok (.if_icmp .ge off, 3)) (kt : y ≤ x → J_ Y T0 P bc bs tgt ls st T) (kf : x < y → J_ Y T0 P bc bs (pc + 3) ls st T) : J_ Y T0 P bc bs pc ls (vI y :: vI x :: st) T := by
  intro l p e' s m args below meth c D cA ad0 A X ad H locs cells slots lsC hc hs hR hS hB hT hL hl hn
  have hL' := ok_tail (ok_tail hL)
  have ax : -2147483648 ≤ x ∧ x ≤ 2147483647 := ok_head (ok_tail hL)
  have ay : -2147483648 ≤ (y : Int) ∧ y ≤ 2147483647 := ok_head hL
  refine lv_icmp_ge (tgt := tgt.toNat) X.1 X.2.1 hd (by omega) (fun h => kt ((i3_le ay ax).mp h) l p e' s m args below meth c D cA ad0 A X ad H locs cells slots lsC hc hs hR hS hB hT hL' hl hn) (fun h => ?_)
  have k2 := kf (by have := mt (i3_le ay ax).mpr h; omega) l p e' s m args below meth c D cA ad0 A X ad H locs cells slots lsC hc hs hR hS hB hT hL' hl hn
  rw [show (pc + 3).toNat = pc.toNat + 3 by omega] at k2
  exact k2
theorem j_icmp_gt {x y off tgt : Int} (hp : 0 ≤ pc) (ht : 0 ≤ tgt) (e : pc + off = tgt) (hd : decode Y.2.1 pc.toNat = .ok (.if_icmp .gt off, 3)) (kt : y < x → J_ Y T0 P bc bs tgt ls st T) (kf : x ≤ y → J_ Y T0 P bc bs (pc + 3) ls st T) : J_ Y T0 P bc bs pc ls (vI y :: vI x :: st) T := by
  intro l p e' s m args below meth c D cA ad0 A X ad H locs cells slots lsC hc hs hR hS hB hT hL hl hn
  have hL' := ok_tail (ok_tail hL)
  have ax : -2147483648 ≤ x ∧ x ≤ 2147483647 := ok_head (ok_tail hL)
  have ay : -2147483648 ≤ (y : Int) ∧ y ≤ 2147483647 := ok_head hL
  refine lv_icmp_gt (tgt := tgt.toNat) X.1 X.2.1 hd (by omega) (fun h => kt ((i3_lt ay ax).mp h) l p e' s m args below meth c D cA ad0 A X ad H locs cells slots lsC hc hs hR hS hB hT hL' hl hn) (fun h => ?_)
  have k2 := kf (by have := mt (i3_lt ay ax).mpr h; omega) l p e' s m args below meth c D cA ad0 A X ad H locs cells slots lsC hc hs hR hS hB hT hL' hl hn
  rw [show (pc + 3).toNat = pc.toNat + 3 by omega] at k2
  exact k2
theorem j_icmp_le {x y off tgt : Int} (hp : 0 ≤ pc) (ht : 0 ≤ tgt) (e : pc + off = tgt) (hd : decode Y.2.1 pc.toNat = .ok (.if_icmp .le off, 3)) (kt : x ≤ y → J_ Y T0 P bc bs tgt ls st T) (kf : y < x → J_ Y T0 P bc bs (pc + 3) ls st T) : J_ Y T0 P bc bs pc ls (vI y :: vI x :: st) T := by
  intro l p e' s m args below meth c D cA ad0 A X ad H locs cells slots lsC hc hs hR hS hB hT hL hl hn
  have hL' := ok_tail (ok_tail hL)
  have ax : -2147483648 ≤ x ∧ x ≤ 2147483647 := ok_head (ok_tail hL)
  have ay : -2147483648 ≤ (y : Int) ∧ y ≤ 2147483647 := ok_head hL
  refine lv_icmp_le (tgt := tgt.toNat) X.1 X.2.1 hd (by omega) (fun h => kt ((i3_le ax ay).mp h) l p e' s m args below meth c D cA ad0 A X ad H locs cells slots lsC hc hs hR hS hB hT hL' hl hn) (fun h => ?_)
  have k2 := kf (by have := mt (i3_le ax ay).mpr h; omega) l p e' s m args below meth c D cA ad0 A X ad H locs cells slots lsC hc hs hR hS hB hT hL' hl hn
  rw [show (pc + 3).toNat = pc.toNat + 3 by omega] at k2
  exact k2
theorem j_if_eq {x off tgt : Int} (hp : 0 ≤ pc) (ht : 0 ≤ tgt) (e : pc + off = tgt) (hd : decode Y.2.1 pc.toNat = .ok (.ifCond .eq off, 3)) (kt : x = 0 → J_ Y T0 P bc bs tgt ls st T) (kf : ¬ x = 0 → J_ Y T0 P bc bs (pc + 3) ls st T) : J_ Y T0 P bc bs pc ls (vI x :: st) T := by
  intro l p e' s m args below meth c D cA ad0 A X ad H locs cells slots lsC hc hs hR hS hB hT hL hl hn
  have hL' := ok_tail hL
  have ax : -2147483648 ≤ x ∧ x ≤ 2147483647 := ok_head hL
  have ay : -2147483648 ≤ 0 ∧ (0 : Int) ≤ 2147483647 := by omega
  refine lv_if_eq (tgt := tgt.toNat) X.1 X.2.1 hd (by omega) (fun h => kt ((i3_eq (y := 0) ax ay).mp h) l p e' s m args below meth c D cA ad0 A X ad H locs cells slots lsC hc hs hR hS hB hT hL' hl hn) (fun h => ?_)
  have k2 := kf (fun q => h ((i3_eq (y := 0) ax ay).mpr q)) l p e' s m args below meth c D cA ad0 A X ad H locs cells slots lsC hc hs hR hS hB hT hL' hl hn
  rw [show (pc + 3).toNat = pc.toNat + 3 by omega] at k2
  exact k2
theorem j_if_ne {x off tgt : Int} (hp : 0 ≤ pc) (ht : 0 ≤ tgt) (e : pc + off = tgt) (hd : decode Y.2.1 pc.toNat = .ok (.ifCond .ne off, 3)) (kt : ¬ x = 0 → J_ Y T0 P bc bs tgt ls st T) (kf : x = 0 → J_ Y T0 P bc bs (pc + 3) ls st T) : J_ Y T0 P bc bs pc ls (vI x :: st) T := by
  intro l p e' s m args below meth c D cA ad0 A X ad H locs cells slots lsC hc hs hR hS hB hT hL hl hn
  have hL' := ok_tail hL
  have ax : -2147483648 ≤ x ∧ x ≤ 2147483647 := ok_head hL
  have ay : -2147483648 ≤ 0 ∧ (0 : Int) ≤ 2147483647 := by omega
  refine lv_if_ne (tgt := tgt.toNat) X.1 X.2.1 hd (by omega) (fun h => kt (fun q => h ((i3_eq (y := 0) ax ay).mpr q)) l p e' s m args below meth c D cA ad0 A X ad H locs cells slots lsC hc hs hR hS hB hT hL' hl hn) (fun h => ?_)
  have k2 := kf ((i3_eq (y := 0) ax ay).mp h) l p e' s m args below meth c D cA ad0 A X ad H locs cells slots lsC hc hs hR hS hB hT hL' hl hn
  rw [show (pc + 3).toNat = pc.toNat + 3 by omega] at k2
  exact k2
theorem j_if_lt {x off tgt : Int} (hp : 0 ≤ pc) (ht : 0 ≤ tgt) (e : pc + off = tgt) (hd : decode Y.2.1 pc.toNat = .ok (.ifCond .lt off, 3)) (kt : x < 0 → J_ Y T0 P bc bs tgt ls st T) (kf : 0 ≤ x → J_ Y T0 P bc bs (pc + 3) ls st T) : J_ Y T0 P bc bs pc ls (vI x :: st) T := by
  intro l p e' s m args below meth c D cA ad0 A X ad H locs cells slots lsC hc hs hR hS hB hT hL hl hn
  have hL' := ok_tail hL
  have ax : -2147483648 ≤ x ∧ x ≤ 2147483647 := ok_head hL
  have ay : -2147483648 ≤ 0 ∧ (0 : Int) ≤ 2147483647 := by omega
  refine lv_if_lt (tgt := tgt.toNat) X.1 X.2.1 hd (by omega) (fun h => kt ((i3_lt (y := 0) ax ay).mp h) l p e' s m args below meth c D cA ad0 A X ad H locs cells slots lsC hc hs hR hS hB hT hL' hl hn) (fun h => ?_)
  have k2 := kf (by have := mt (i3_lt (y := 0) ax ay).mpr h; omega) l p e' s m args below meth c D cA ad0 A X ad H locs cells slots lsC hc hs hR hS hB hT hL' hl hn
  rw [show (pc + 3).toNat = pc.toNat + 3 by omega] at k2
  exact k2
theorem j_if_ge {x off tgt : Int} (hp : 0 ≤ pc) (ht : 0 ≤ tgt) (e : pc + off = tgt) (hd : decode Y.2.1 pc.toNat = .ok (.ifCond .ge off, 3)) (kt : 0 ≤ x → J_ Y T0 P bc bs tgt ls st T) (kf : x < 0 → J_ Y T0 P bc bs (pc + 3) ls st T) : J_ Y T0 P bc bs pc ls (vI x :: st) T := by
  intro l p e' s m args below meth c D cA ad0 A X ad H locs cells slots lsC hc hs hR hS hB hT hL hl hn
  have hL' := ok_tail hL
  have ax : -2147483648 ≤ x ∧ x ≤ 2147483647 := ok_head hL
  have ay : -2147483648 ≤ 0 ∧ (0 : Int) ≤ 2147483647 := by omega
  refine lv_if_ge (tgt := tgt.toNat) X.1 X.2.1 hd (by omega) (fun h => kt ((i3_le (x := 0) ay ax).mp h) l p e' s m args below meth c D cA ad0 A X ad H locs cells slots lsC hc hs hR hS hB hT hL' hl hn) (fun h => ?_)
  have k2 := kf (by have := mt (i3_le (x := 0) ay ax).mpr h; omega) l p e' s m args below meth c D cA ad0 A X ad H locs cells slots lsC hc hs hR hS hB hT hL' hl hn
  rw [show (pc + 3).toNat = pc.toNat + 3 by omega] at k2
  exact k2
theorem j_if_gt {x off tgt : Int} (hp : 0 ≤ pc) (ht : 0 ≤ tgt) (e : pc + off = tgt) (hd : decode Y.2.1 pc.toNat = .ok (.ifCond .gt off, 3)) (kt : 0 < x → J_ Y T0 P bc bs tgt ls st T) (kf : x ≤ 0 → J_ Y T0 P bc bs (pc + 3) ls st T) : J_ Y T0 P bc bs pc ls (vI x :: st) T := by
  intro l p e' s m args below meth c D cA ad0 A X ad H locs cells slots lsC hc hs hR hS hB hT hL hl hn
  have hL' := ok_tail hL
  have ax : -2147483648 ≤ x ∧ x ≤ 2147483647 := ok_head hL
  have ay : -2147483648 ≤ 0 ∧ (0 : Int) ≤ 2147483647 := by omega
  refine lv_if_gt (tgt := tgt.toNat) X.1 X.2.1 hd (by omega) (fun h => kt ((i3_lt (x := 0) ay ax).mp h) l p e' s m args below meth c D cA ad0 A X ad H locs cells slots lsC hc hs hR hS hB hT hL' hl hn) (fun h => ?_)
  have k2 := kf (by have := mt (i3_lt (x := 0) ay ax).mpr h; omega) l p e' s m args below meth c D cA ad0 A X ad H locs cells slots lsC hc hs hR hS hB hT hL' hl hn
  rw [show (pc + 3).toNat = pc.toNat + 3 by omega] at k2
  exact k2
theorem j_if_le {x off tgt : Int} (hp : 0 ≤ pc) (ht : 0 ≤ tgt) (e : pc + off = tgt) (hd : decode Y.2.1 pc.toNat = .ok (.ifCond .le off, 3)) (kt : x ≤ 0 → J_ Y T0 P bc bs tgt ls st T) (kf : 0 < x → J_ Y T0 P bc bs (pc + 3) ls st T) : J_ Y T0 P bc bs pc ls (vI x :: st) T := by
  intro l p e' s m args below meth c D cA ad0 A X ad H locs cells slots lsC hc hs hR hS hB hT hL hl hn
  have hL' := ok_tail hL
  have ax : -2147483648 ≤ x ∧ x ≤ 2147483647 := ok_head hL
  have ay : -2147483648 ≤ 0 ∧ (0 : Int) ≤ 2147483647 := by omega
  refine lv_if_le (tgt := tgt.toNat) X.1 X.2.1 hd (by omega) (fun h => kt ((i3_le (y := 0) ax ay).mp h) l p e' s m args below meth c D cA ad0 A X ad H locs cells slots lsC hc hs hR hS hB hT hL' hl hn) (fun h => ?_)
  have k2 := kf (by have := mt (i3_le (y := 0) ax ay).mpr h; omega) l p e' s m args below meth c D cA ad0 A X ad H locs cells slots lsC hc hs hR hS hB hT hL' hl hn
  rw [show (pc + 3).toNat = pc.toNat + 3 by omega] at k2
  exact k2
theorem j_ifnull_N {off tgt : Int} (hp : 0 ≤ pc) (ht : 0 ≤ tgt) (e : pc + off = tgt) (hd : decode Y.2.1 pc.toNat = .ok (.ifnull off, 3)) (k : J_ Y T0 P bc bs tgt ls st T) : J_ Y T0 P bc bs pc ls (vN :: st) T := by
  intro l p e' s m args below meth c D cA ad0 A X ad H locs cells slots lsC hc hs hR hS hB hT hL hl hn
  exact lv_ifnullN (tgt := tgt.toNat) X.1 X.2.1 hd (by omega) (k l p e' s m args below meth c D cA ad0 A X ad H locs cells slots lsC hc hs hR hS hB hT (ok_tail hL) hl hn)
theorem j_ifnull_R {off : Int} {q : Nat × Int} (hp : 0 ≤ pc) (hd : decode Y.2.1 pc.toNat = .ok (.ifnull off, 3)) (k : J_ Y T0 P bc bs (pc + 3) ls st T) : J_ Y T0 P bc bs pc ls (.inr (.inr (some q)) :: st) T := by
  intro l p e' s m args below meth c D cA ad0 A X ad H locs cells slots lsC hc hs hR hS hB hT hL hl hn
  have k2 := k l p e' s m args below meth c D cA ad0 A X ad H locs cells slots lsC hc hs hR hS hB hT (ok_tail hL) hl hn
  rw [show (pc + 3).toNat = pc.toNat + 3 by omega] at k2
  obtain ⟨kk, ii⟩ := q
  exact lv_ifnull X.1 X.2.1 hd k2
theorem j_ifnonnull_N {off : Int} (hp : 0 ≤ pc) (hd : decode Y.2.1 pc.toNat = .ok (.ifnonnull off, 3)) (k : J_ Y T0 P bc bs (pc + 3) ls st T) : J_ Y T0 P bc bs pc ls (vN :: st) T := by
  intro l p e' s m args below meth c D cA ad0 A X ad H locs cells slots lsC hc hs hR hS hB hT hL hl hn
  have k2 := k l p e' s m args below meth c D cA ad0 A X ad H locs cells slots lsC hc hs hR hS hB hT (ok_tail hL) hl hn
  rw [show (pc + 3).toNat = pc.toNat + 3 by omega] at k2
  exact lv_ifnonnullN X.1 X.2.1 hd k2
theorem j_ifnonnull_R {off tgt : Int} {q : Nat × Int} (hp : 0 ≤ pc) (ht : 0 ≤ tgt) (e : pc + off = tgt) (hd : decode Y.2.1 pc.toNat = .ok (.ifnonnull off, 3)) (k : J_ Y T0 P bc bs tgt ls st T) : J_ Y T0 P bc bs pc ls (.inr (.inr (some q)) :: st) T := by
  intro l p e' s m args below meth c D cA ad0 A X ad H locs cells slots lsC hc hs hR hS hB hT hL hl hn
  obtain ⟨kk, ii⟩ := q
  exact lv_ifnonnull (tgt := tgt.toNat) X.1 X.2.1 hd (by omega) (k l p e' s m args below meth c D cA ad0 A X ad H locs cells slots lsC hc hs hR hS hB hT (ok_tail hL) hl hn)
/-- the ends -/
theorem j_ireturn {x : Int} (hr : Y.2.2.2.1 = some .int ∨ Y.2.2.2.1 = some .boolean ∧ 0 ≤ x ∧ x ≤ 1) (hd : decode Y.2.1 pc.toNat = .ok (.ireturn, 1)) (k : P T (some (vI x))) : J_ Y T0 P bc bs pc ls [vI x] T := by
  intro l p e' s m args below meth c D cA ad0 A X ad H locs cells slots lsC hc hs hR hS hB hT hL hl hn
  refine W.widen (k := Y.2.2.2.2.cells) (n := Y.2.2.2.2.slots) (by omega) (by omega) ?_
  have hq : ∀ t : State, t.heap = H → s.WarmedH t.vm → Qc_ D cA ad0 T0 A P args s (.returned (some (.int (Int32.ofInt x)))) t := fun t ht _ => ⟨⟨T, ad, some (vI x), rfl, k, hT, fun v hv => by cases hv; exact ok_head hL, by rw [ht]; exact hR, hB⟩, hS.F ht⟩
  rcases hr with hr | ⟨hr, h0, h1⟩
  · exact W.iret X.1 X.2.1 (X.2.2.2.1.trans hr) hq hS.2.2 hd X.2.2.2.2.1
  · refine W.zret (ty := .boolean) X.1 X.2.1 (X.2.2.2.1.trans hr) ?_ hq hS.2.2 hd X.2.2.2.2.1
    have : x = 0 ∨ x = 1 := by omega
    rcases this with rfl | rfl <;> decide
theorem j_lreturn {x : Int} (hr : Y.2.2.2.1 = some .long) (hd : decode Y.2.1 pc.toNat = .ok (.lreturn, 1)) (k : P T (some (vL x))) : J_ Y T0 P bc bs pc ls [vL x] T := by
  intro l p e' s m args below meth c D cA ad0 A X ad H locs cells slots lsC hc hs hR hS hB hT hL hl hn
  refine W.widen (k := Y.2.2.2.2.cells) (n := Y.2.2.2.2.slots) (by omega) (by omega) ?_
  exact W.lret X.1 X.2.1 (X.2.2.2.1.trans hr) (fun t ht _ => ⟨⟨T, ad, some (vL x), rfl, k, hT, fun v hv => by cases hv; exact ok_head hL, by rw [ht]; exact hR, hB⟩, hS.F ht⟩) hS.2.2 hd X.2.2.2.2.1
theorem j_return (hr : Y.2.2.2.1 = none) (hd : decode Y.2.1 pc.toNat = .ok (.return_, 1)) (k : P T none) : J_ Y T0 P bc bs pc ls [] T := by
  intro l p e' s m args below meth c D cA ad0 A X ad H locs cells slots lsC hc hs hR hS hB hT hL hl hn
  refine W.widen (k := Y.2.2.2.2.cells) (n := Y.2.2.2.2.slots) (by omega) (by omega) ?_
  exact W.vret X.1 X.2.1 (X.2.2.2.1.trans hr) (fun t ht _ => ⟨⟨T, ad, none, rfl, k, hT, (fun v hv => by cases hv), by rw [ht]; exact hR, hB⟩, hS.F ht⟩) hS.2.2 hd X.2.2.2.2.1
end JR
-- the tables' own rows
theorem tk_no : ∀ k, k < 154 → ta_ k = none := by decide +kernel
theorem tf_no {k : Nat} (h : 154 ≤ k) : tf_ k = [] := by
  unfold tf_
  rw [if_neg (by omega), if_neg (by omega), if_neg (by omega)]
theorem ta_no {k : Nat} (h : 640 ≤ k) : ta_ k = none := by
  unfold ta_
  have e : ta_l.getD (k / 32) [] = [] := by
    rw [List.getD_eq_getElem?_getD, List.getElem?_eq_none (by have : ta_l.length = 19 := rfl; omega)]
    rfl
  rw [e]; rfl
def tc_ (q : Option (Nat × Option Int × Int × Int)) : Bool := match q with
  | none => true
  | some (t, n, lo, hi) => (decide (1 ≤ t) && decide (t ≤ 5)) && (if t = 3 then decide (-9223372036854775808 ≤ lo) && decide (hi ≤ 9223372036854775807) else decide (-2147483648 ≤ lo) && decide (hi ≤ 2147483647)) && (match n with
    | none => decide (t = 1)
    | some m => decide (0 ≤ m) && decide (m ≤ 2147483647)) && (if t = 2 then decide (lo = 0) && decide (hi = 1) else true)
theorem tc_all : ∀ k, k < 640 → tc_ (ta_ k) = true ∧ (∀ t lo hi, ta_ k = some (t, none, lo, hi) → k = 190) := by
  have h : ∀ k, k < 640 → tc_ (ta_ k) = true ∧ ((match ta_ k with | some (_, none, _, _) => decide (k = 190) | _ => true) = true) := by decide +kernel
  intro k hk
  refine ⟨(h k hk).1, fun t lo hi e => ?_⟩
  have := (h k hk).2
  rw [e] at this
  simpa using this
theorem tc_of {k t : Nat} {n : Option Int} {lo hi : Int} (h : ta_ k = some (t, n, lo, hi)) : tc_ (some (t, n, lo, hi)) = true := by
  by_cases hk : k < 640
  · rw [← h]; exact (tc_all k hk).1
  · rw [ta_no (by omega)] at h; cases h
theorem ta_tf {k : Nat} {q : Nat × Option Int × Int × Int} (h : ta_ k = some q) : tf_ k = [] := by
  by_cases hk : k < 154
  · rw [tk_no k hk] at h; cases h
  · exact tf_no (by omega)
theorem tf_lt {k j : Nat} {q : Nat × Nat × Int × Int} (h : (tf_ k)[j]? = some q) : k < 154 := by
  by_cases hk : k < 154
  · exact hk
  · rw [tf_no (by omega)] at h; simp at h
theorem tf_ta {k j : Nat} {q : Nat × Nat × Int × Int} (h : (tf_ k)[j]? = some q) : ta_ k = none := tk_no k (tf_lt h)
theorem tf_rng : ∀ k, k < 154 → ∀ q ∈ tf_ k, -2147483648 ≤ q.2.2.1 ∧ q.2.2.2 ≤ 2147483647 := by decide +kernel
theorem tf_r {k j c k' : Nat} {lo hi : Int} (h : (tf_ k)[j]? = some (c, k', lo, hi)) : -2147483648 ≤ lo ∧ hi ≤ 2147483647 := tf_rng k (tf_lt h) _ (List.mem_of_getElem? h)
theorem ta_521 : ta_ 521 = some (4, some 4, 0, 1) := by decide +kernel
theorem ta_523 : ta_ 523 = some (5, some 400, 0, 1) := by decide +kernel
theorem ta_190 : ta_ 190 = some (1, none, -2147483648, 2147483647) := by decide +kernel
theorem okv_mono {T T' : Zt} (h : ∀ k i, al_ T k i → al_ T' k i) {v : Zv} (hv : ok_v T v) : ok_v T' v := by
  rcases v with x | x | _ | ⟨k, i⟩
  · exact hv
  · exact hv
  · exact trivial
  · exact hv.imp id (h k i)
theorem al_up {T : Zt} {k : Nat} {i j x : Int} (hj : j ≠ -1) (k' : Nat) (i' : Int) : al_ (up_ T k i j x) k' i' ↔ al_ T k' i' := by
  unfold al_
  rw [up_n (fun h => hj h.2.2.symm)]
/-- a number is stored in a row -/
theorem ok_upA {T : Zt} (hT : ok_T T) {k t : Nat} {n : Option Int} {lo hi : Int} (ha : ta_ k = some (t, n, lo, hi)) (ht : t ≤ 3) {i j x : Int} (hj : 0 ≤ j) (h1 : lo ≤ x) (h2 : x ≤ hi) : ok_T (up_ T k i j x) := by
  obtain ⟨a1, a2, a3, a4, a5, a6, a7, a8, a9⟩ := hT
  have hal := al_up (T := T) (k := k) (i := i) (j := j) (x := x) (by omega)
  refine ⟨fun k' t' n' lo' hi' h i' x' hx => ?_, fun k' j' c k'' lo' hi' h i' => ?_, fun i' => ?_, fun k' i' hl j' c k'' lo' hi' h => ?_, fun i' x' hx' h => ?_, fun i' x' hx' h => ?_, fun k' i' h q => ?_, fun k' i' o h q => (a8 k' i' o h ((hal _ _).mp q)).imp (hal _ _).mpr (hal _ _).mpr, fun i' h q => a9 i' (by rw [up_n (fun e => by rw [← e.1] at ha; exact absurd (show ta_ 191 = none by decide +kernel) (by rw [ha]; simp))] at h; exact h) ((hal _ _).mp q)⟩
  · by_cases e : k' = k ∧ i' = i ∧ x' = j
    · obtain ⟨rfl, rfl, rfl⟩ := e
      rw [ha] at h
      cases h
      rw [up_s]
      exact ⟨h1, h2⟩
    · rw [up_n e]
      exact a1 k' t' n' lo' hi' h i' x' hx
  · rw [up_n (fun e => by rw [e.1, ta_tf ha] at h; simp at h)]
    exact a2 k' j' c k'' lo' hi' h i'
  · rw [up_n (fun e => by omega)]
    exact a3 i'
  · rw [up_n (fun e => by rw [e.1, ta_tf ha] at h; simp at h)]
    exact okv_mono (fun k i => (hal k i).mpr) (a4 k' i' ((hal k' i').mp hl) j' c k'' lo' hi' h)
  · rw [up_n (fun e => by rw [← e.1, ta_521] at ha; cases ha; omega)] at h
    exact (hal _ _).mpr (a5 i' x' hx' h)
  · rw [up_n (fun e => by rw [← e.1, ta_523] at ha; cases ha; omega)] at h
    exact (hal _ _).mpr (a6 i' x' hx' h)
  · exact a7 k' i' h ((hal _ _).mp q)
/-- a number is stored in a field -/
theorem ok_upF {T : Zt} (hT : ok_T T) {k j k1 : Nat} {lo hi : Int} (hf : (tf_ k)[j]? = some (0, k1, lo, hi)) {i x : Int} (h1 : lo ≤ x) (h2 : x ≤ hi) : ok_T (up_ T k i (j : Int) x) := by
  obtain ⟨a1, a2, a3, a4, a5, a6, a7, a8, a9⟩ := hT
  have hal := al_up (T := T) (k := k) (i := i) (j := (j : Int)) (x := x) (by omega)
  have hk := tf_lt hf
  refine ⟨fun k' t' n' lo' hi' h i' x' hx => ?_, fun k' j' c k'' lo' hi' h i' => ?_, fun i' => ?_, fun k' i' hl j' c k'' lo' hi' h => ?_, fun i' x' hx' h => ?_, fun i' x' hx' h => ?_, fun k' i' h q => ?_, fun k' i' o h q => (a8 k' i' o h ((hal _ _).mp q)).imp (hal _ _).mpr (hal _ _).mpr, fun i' h q => a9 i' (by rw [up_n (fun e => by omega)] at h; exact h) ((hal _ _).mp q)⟩
  · rw [up_n (fun e => by rw [e.1, tf_ta hf] at h; cases h)]
    exact a1 k' t' n' lo' hi' h i' x' hx
  · by_cases e : k' = k ∧ i' = i ∧ (j' : Int) = (j : Int)
    · obtain ⟨rfl, rfl, e3⟩ := e
      have e3 : j' = j := by omega
      subst e3
      rw [hf] at h
      cases h
      rw [up_s]
      exact ⟨h1, h2⟩
    · rw [up_n e]
      exact a2 k' j' c k'' lo' hi' h i'
  · rw [up_n (fun e => by omega)]
    exact a3 i'
  · by_cases e : k' = k ∧ i' = i ∧ (j' : Int) = (j : Int)
    · obtain ⟨rfl, rfl, e3⟩ := e
      have e3 : j' = j := by omega
      subst e3
      have hr := tf_r hf
      rw [hf] at h
      cases h
      rw [up_s]
      exact ⟨by omega, by omega⟩
    · rw [up_n e]
      exact okv_mono (fun k i => (hal k i).mpr) (a4 k' i' ((hal k' i').mp hl) j' c k'' lo' hi' h)
  · rw [up_n (fun e => by omega)] at h
    exact (hal _ _).mpr (a5 i' x' hx' h)
  · rw [up_n (fun e => by omega)] at h
    exact (hal _ _).mpr (a6 i' x' hx' h)
  · exact a7 k' i' h ((hal _ _).mp q)
-- cells
theorem ce_congr {cA : Nat → ClassId} {ad : Nat → Int → Nat} {T T' : Zt} {k : Nat} {i : Int} (h : T' k i = T k i) : ce_ cA ad T' k i = ce_ cA ad T k i := by
  unfold ce_ ln_
  rw [h]
theorem wd_get {cA : Nat → ClassId} {ad : Nat → Int → Nat} {T : Zt} {ids : List (Nat × Int)} {q0 k : Nat} {i : Int} (h : ids[q0]? = some (k, i)) : (wd_ cA ad T ids)[q0]? = some (ad k i, ce_ cA ad T k i) := by
  unfold wd_
  rw [List.getElem?_map, h]
  rfl
theorem wd_set {cA : Nat → ClassId} {ad : Nat → Int → Nat} {T T' : Zt} {ids : List (Nat × Int)} {q0 k : Nat} {i : Int} {A : Nat → Prop} (hD : va_D A (wd_ cA ad T ids)) (h : ids[q0]? = some (k, i)) (ho : ∀ k' i', (k', i') ≠ (k, i) → T' k' i' = T k' i') : (wd_ cA ad T ids).set q0 (ad k i, ce_ cA ad T' k i) = wd_ cA ad T' ids := by
  apply List.ext_getElem?
  intro n
  rw [List.getElem?_set]
  by_cases e : q0 = n
  · subst e
    rw [if_pos rfl, wd_get h]
    have hl : q0 < (wd_ cA ad T ids).length := (List.getElem?_eq_some_iff.mp (wd_get (cA := cA) (ad := ad) (T := T) h)).1
    rw [if_pos hl]
  · rw [if_neg e]
    cases hn : ids[n]? with
    | none => unfold wd_; rw [List.getElem?_map, List.getElem?_map, hn]; rfl
    | some q =>
      obtain ⟨k', i'⟩ := q
      have hne : (k', i') ≠ (k, i) := by
        rintro q
        cases q
        exact e (hD.1 q0 n _ _ (wd_get h) (wd_get hn) rfl)
      rw [wd_get hn, wd_get hn, ce_congr (ho _ _ hne)]
section JC
variable {Y : Zm} {T0 T : Zt} {P : Zt → Option Zv → Prop} {bc bs : Nat} {pc : Int} {ls : Zl} {st : List Zv}
theorem rp_at {D : va_G} {cA : Nat → ClassId} {ad : Nat → Int → Nat} {A : Nat → Prop} {H : Heap} (h : Rp_ D cA ad T A H) {k : Nat} {i : Int} (ha : al_ T k i) : ∃ (ids : List (Nat × Int)) (q0 : Nat), ids[q0]? = some (k, i) ∧ (∀ k i, al_ T k i ↔ (k, i) ∈ ids) ∧ va_P D vwCl (wd_ cA ad T ids) H ∧ va_D A (wd_ cA ad T ids) := by
  obtain ⟨ids, h1, h2, h3⟩ := h
  obtain ⟨q0, hq⟩ := List.getElem?_of_mem ((h1 k i).mp ha)
  exact ⟨ids, q0, hq, h1, h2, h3⟩
theorem ok_al {k : Nat} {i : Int} {v : Option (Nat × Int)} (hk : 100 ≤ k) (h : ok_v T (vR k i)) : al_ T k i := by
  rcases h with h | h
  · omega
  · exact h
/-- the facts of a field: its class's row, its link -/
def fl_ (own : String) (idx ci j : Nat) : Prop := ∃ (C : String) (Tb : u_T) (N : Nat), vwCl[ci]? = some (C, Tb, N) ∧ j < N ∧ N = (tf_ (100 + ci)).length ∧ Cond.fieldLink own idx (Tb j).1 (Tb j).2.1 (Tb j).2.2.1 ∈ lw_g
def fp_ (own : String) (idx ci j : Nat) : Prop := ∃ (C : String) (Tb : u_T) (N : Nat), vwCl[ci]? = some (C, Tb, N) ∧ j < N ∧ N = (tf_ (100 + ci)).length ∧ Cond.fieldLink own idx (Tb j).1 (Tb j).2.1 (Tb j).2.2.1 ∈ lw_g ∧ (Tb j).2.2.2 = false ∧ ((Tb j).2.2.1 = "I" ∨ (Tb j).2.2.1 = "Z" ∧ ∃ k', (tf_ (100 + ci))[j]? = some (0, k', 0, 1))
theorem cl_in {ci N : Nat} {C : String} {Tb : u_T} (h : vwCl[ci]? = some (C, Tb, N)) : (∀ w ∈ u_ws C Tb N, w ∈ lw_g) ∧ (∃ ty0 : Nat → FieldType, ∀ k, k < N → parseFieldDescriptor (Tb k).2.2.1 = some (ty0 k)) ∧ ∀ a, a < N → ∀ b, b < N → a ≠ b → (Tb a).2.1 ≠ (Tb b).2.1 := by
  match ci, h with
  | 0, h => cases h; exact ⟨inX0, ⟨tyX0, tyX0_ok⟩, nmX0⟩
  | 1, h => cases h; exact ⟨inX1, ⟨tyX1, tyX1_ok⟩, nmX1⟩
  | 2, h => cases h; exact ⟨inX2, ⟨tyX2, tyX2_ok⟩, nmX2⟩
  | 3, h => cases h; exact ⟨inX3, ⟨tyX3, tyX3_ok⟩, nmX3⟩
  | 4, h => cases h; exact ⟨inX4, ⟨tyX4, tyX4_ok⟩, nmX4⟩
  | 5, h => cases h; exact ⟨inX5, ⟨tyX5, tyX5_ok⟩, nmX5⟩
  | 6, h => cases h; exact ⟨inX6, ⟨tyX6, tyX6_ok⟩, nmX6⟩
  | 7, h => cases h; exact ⟨inX7, ⟨tyX7, tyX7_ok⟩, nmX7⟩
  | 8, h => cases h; exact ⟨inX8, ⟨tyX8, tyX8_ok⟩, nmX8⟩
  | 9, h => cases h; exact ⟨inX9, ⟨tyX9, tyX9_ok⟩, nmX9⟩
  | 10, h => cases h; exact ⟨inX10, ⟨tyX10, tyX10_ok⟩, nmX10⟩
  | 11, h => cases h; exact ⟨inX11, ⟨tyX11, tyX11_ok⟩, nmX11⟩
  | n + 12, h => simp at h
theorem cl_lt {ci N : Nat} {C : String} {Tb : u_T} (h : vwCl[ci]? = some (C, Tb, N)) : ci < 12 := (List.getElem?_eq_some_iff.mp h).1
theorem ce_ob {cA : Nat → ClassId} {ad : Nat → Int → Nat} {ci : Nat} {i : Int} (h : ci < 12) : ce_ cA ad T (100 + ci) i = .inr (ci, (tf_ (100 + ci)).zipIdx.map fun q => en_v ad (fv_ q.1.1 q.1.2.1 (T (100 + ci) i (q.2 : Int)) i)) := by
  unfold ce_
  rw [tk_no _ (by omega)]
  simp only [kc_]
  rw [if_pos (by omega), Nat.add_sub_cancel_left]
theorem fs_at {ad : Nat → Int → Nat} {k j c k' : Nat} {lo hi i : Int} (h : (tf_ k)[j]? = some (c, k', lo, hi)) : ((tf_ k).zipIdx.map fun q => en_v ad (fv_ q.1.1 q.1.2.1 (T k i (q.2 : Int)) i))[j]? = some (en_v ad (fv_ c k' (T k i (j : Int)) i)) := by
  rw [List.getElem?_map, List.getElem?_zipIdx, h]
  simp
/-- a field is read -/
theorem j_getf {ci j c k' idx : Nat} {lo hi i : Int} (hp : 0 ≤ pc) (hf : fl_ Y.1 idx ci j) (ht : (tf_ (100 + ci))[j]? = some (c, k', lo, hi)) (hd : decode Y.2.1 pc.toNat = .ok (.getfield idx, 3)) (k : lo ≤ T (100 + ci) i (j : Int) → T (100 + ci) i (j : Int) ≤ hi → J_ Y T0 P bc bs (pc + 3) ls (fv_ c k' (T (100 + ci) i (j : Int)) i :: st) T) : J_ Y T0 P bc bs pc ls (vR (100 + ci) i :: st) T := by
  intro l p e s m args below meth c0 D cA ad0 A X ad H locs cells slots lsC hc hs hR hS hB hT hL hl hn
  have hal : al_ T (100 + ci) i := ok_al (v := none) (by omega) (ok_head hL)
  obtain ⟨ids, q0, hq, h1, hP, hD⟩ := rp_at hR hal
  obtain ⟨C, Tb, N, hC, hjN, hN, hlk⟩ := hf
  obtain ⟨hin, -, -⟩ := cl_in hC
  have hbd := hT.2.1 _ _ _ _ _ _ ht i
  have k2 := k hbd.1 hbd.2 l p e s m args below meth c0 D cA ad0 A X ad H locs cells slots lsC hc hs hR hS hB hT (ok_push (hT.2.2.2.1 _ _ hal _ _ _ _ _ ht) (ok_tail hL)) hl hn
  rw [show (pc + 3).toNat = pc.toNat + 3 by omega] at k2
  have hw := wd_get (cA := cA) (ad := ad) (T := T) hq
  rw [ce_ob (cl_lt hC)] at hw
  exact va_get (D := D) (ci := ci) (C := C) (T := Tb) (N := N) (own := Y.1) (ref := (Tb j).1) (index := idx) X.1 X.2.1 X.2.2.2.2.2.1 hin X.2.2.2.2.2.2.1 X.2.2.2.2.2.2.2.1 hP q0 hw hC j hjN (X.2.2.2.2.2.1 _ hlk) (fun _ h => h) (fs_at ht) hd k2
theorem nr_z {x : Int} (h1 : 0 ≤ x) (h2 : x ≤ 1) : narrow .boolean (.int (Int32.ofInt x)) = .int (Int32.ofInt x) := by
  have : x = 0 ∨ x = 1 := by omega
  rcases this with rfl | rfl <;> decide
/-- a number is put into a field -/
theorem j_putf {ci j k' idx : Nat} {lo hi i x : Int} (hp : 0 ≤ pc) (hf : fp_ Y.1 idx ci j) (ht : (tf_ (100 + ci))[j]? = some (0, k', lo, hi)) (hd : decode Y.2.1 pc.toNat = .ok (.putfield idx, 3)) (h1 : lo ≤ x) (h2 : x ≤ hi) (k : J_ Y T0 P bc bs (pc + 3) ls st (up_ T (100 + ci) i (j : Int) x)) : J_ Y T0 P bc bs pc ls (vI x :: vR (100 + ci) i :: st) T := by
  intro l p e s m args below meth c0 D cA ad0 A X ad H locs cells slots lsC hc hs hR hS hB hT hL hl hn
  have hal : al_ T (100 + ci) i := ok_al (v := none) (by omega) (ok_head (ok_tail hL))
  have hup := al_up (T := T) (k := 100 + ci) (i := i) (j := (j : Int)) (x := x) (by omega)
  obtain ⟨ids, q0, hq, hids, hP, hD⟩ := rp_at hR hal
  obtain ⟨C, Tb, N, hC, hjN, hN, hlk, hfin, hds⟩ := hf
  obtain ⟨hin, ⟨ty0, hty⟩, hnm⟩ := cl_in hC
  have hw := wd_get (cA := cA) (ad := ad) (T := T) hq
  rw [ce_ob (cl_lt hC)] at hw
  obtain ⟨ty, hty1, hnar, hfit⟩ : ∃ ty, parseFieldDescriptor (Tb j).2.2.1 = some ty ∧ narrow ty (.int (Int32.ofInt x)) = .int (Int32.ofInt x) ∧ fits ty (.int (Int32.ofInt x)) = true := by
    rcases hds with h | ⟨h, k9, h9⟩
    · exact ⟨.int, by rw [h]; decide +kernel, rfl, rfl⟩
    · rw [ht] at h9
      cases h9
      refine ⟨.boolean, by rw [h]; decide +kernel, nr_z h1 h2, ?_⟩
      have : x = 0 ∨ x = 1 := by omega
      rcases this with rfl | rfl <;> decide
  refine va_put (D := D) (ci := ci) (C := C) (T := Tb) (N := N) (own := Y.1) (ref := (Tb j).1) (index := idx) (ty := ty) (v := .int (Int32.ofInt x)) X.1 X.2.1 X.2.2.2.2.2.1 hin ty0 hty hnm X.2.2.2.2.2.2.1 X.2.2.2.2.2.2.2.1 hP hD hS q0 hw hC j hjN (X.2.2.2.2.2.1 _ hlk) (fun _ h => h) hfin hty1 hnar hfit (by rw [List.length_map, List.length_zipIdx, ← hN]; exact hjN) hd (fun H1 locs1 hP1 hD1 hS1 => ?_)
  have e1 : ((tf_ (100 + ci)).zipIdx.map fun q => en_v ad (fv_ q.1.1 q.1.2.1 (T (100 + ci) i (q.2 : Int)) i)).set j (.int (Int32.ofInt x)) = (tf_ (100 + ci)).zipIdx.map fun q => en_v ad (fv_ q.1.1 q.1.2.1 (up_ T (100 + ci) i (j : Int) x (100 + ci) i (q.2 : Int)) i) := by
    apply List.ext_getElem?
    intro n
    rw [List.getElem?_set]
    by_cases en : j = n
    · subst en
      rw [if_pos rfl, if_pos (by rw [List.length_map, List.length_zipIdx, ← hN]; exact hjN), fs_at (T := up_ T (100 + ci) i (j : Int) x) ht, up_s]
      rfl
    · rw [if_neg en, List.getElem?_map, List.getElem?_map, List.getElem?_zipIdx]
      cases hn9 : (tf_ (100 + ci))[n]? with
      | none => rfl
      | some q =>
        simp only [Option.map_some]
        rw [up_n (fun q => by omega)]
  have e2 : (wd_ cA ad T ids).set q0 (ad (100 + ci) i, .inr (ci, ((tf_ (100 + ci)).zipIdx.map fun q => en_v ad (fv_ q.1.1 q.1.2.1 (T (100 + ci) i (q.2 : Int)) i)).set j (.int (Int32.ofInt x)))) = wd_ cA ad (up_ T (100 + ci) i (j : Int) x) ids := by
    rw [e1, ← ce_ob (cl_lt hC) (T := up_ T (100 + ci) i (j : Int) x) (cA := cA)]
    exact wd_set hD hq (fun k' i' h => up_o h)
  rw [e2] at hP1 hD1
  have k2 := k l p e s m args below meth c0 D cA ad0 A X ad H1 locs1 cells slots lsC hc hs ⟨ids, fun k i => (hup k i).trans (hids k i), hP1, hD1⟩ hS1 ⟨fun k i h => (hup k i).mpr (hB.1 k i h), hB.2⟩ (ok_upF hT ht h1 h2) ⟨fun k9 v h => okv_mono (fun k i => (hup k i).mpr) (hL.1 k9 v h), fun v h => okv_mono (fun k i => (hup k i).mpr) ((ok_tail (ok_tail hL)).2 v h)⟩ hl hn
  rw [show (pc + 3).toNat = pc.toNat + 3 by omega] at k2
  exact k2
end JC
section JA
variable {Y : Zm} {T0 T : Zt} {P : Zt → Option Zv → Prop} {bc bs : Nat} {pc : Int} {ls : Zl} {st : List Zv}
theorem ta_ge {k : Nat} {q : Nat × Option Int × Int × Int} (h : ta_ k = some q) : 154 ≤ k := by
  by_cases hk : k < 154
  · rw [tk_no k hk] at h; cases h
  · omega
theorem ln_r {k t : Nat} {n : Option Int} {lo hi : Int} (hT : ok_T T) (h : ta_ k = some (t, n, lo, hi)) (i : Int) : 0 ≤ ln_ T k i ∧ ln_ T k i ≤ 2147483647 := by
  have h1 := tc_of h
  unfold ln_
  rw [h]
  cases n with
  | none =>
    have hk : k = 190 := by
      by_cases hk : k < 640
      · exact (tc_all k hk).2 _ _ _ h
      · rw [ta_no (by omega)] at h; cases h
    subst hk
    exact hT.2.2.1 i
  | some m =>
    simp [tc_] at h1
    simp only
    omega
theorem ln_up {k : Nat} {i j x : Int} (hj : 0 ≤ j) : ln_ (up_ T k i j x) k i = ln_ T k i := by
  unfold ln_
  rw [up_n (fun e => by omega)]
theorem j_iald {k : Nat} {n : Option Int} {lo hi i x : Int} (hp : 0 ≤ pc) (ha : ta_ k = some (1, n, lo, hi)) (hd : decode Y.2.1 pc.toNat = .ok (.iaload, 1)) (h1 : 0 ≤ x) (h2 : x < ln_ T k i) (kk : lo ≤ T k i x → T k i x ≤ hi → J_ Y T0 P bc bs (pc + 1) ls (vI (T k i x) :: st) T) : J_ Y T0 P bc bs pc ls (vI x :: vR k i :: st) T := by
  intro l p e s m args below meth c0 D cA ad0 A X ad H locs cells slots lsC hc hs hR hS hB hT hL hl hn
  have hk := ta_ge ha
  have hal : al_ T k i := ok_al (v := none) (by omega) (ok_head (ok_tail hL))
  have hx : -2147483648 ≤ x ∧ x ≤ 2147483647 := ok_head hL
  obtain ⟨ids, q0, hq, hids, hP, hD⟩ := rp_at hR hal
  have hbd := hT.1 _ _ _ _ _ ha i x h1
  have hcb := tc_of ha
  simp [tc_] at hcb
  have k2 := kk hbd.1 hbd.2 l p e s m args below meth c0 D cA ad0 A X ad H locs cells slots lsC hc hs hR hS hB hT (ok_push (show ok_v T (vI (T k i x)) from ⟨by omega, by omega⟩) (ok_tail (ok_tail hL))) hl hn
  rw [show (pc + 1).toNat = pc.toNat + 1 by omega] at k2
  have hw := wd_get (cA := cA) (ad := ad) (T := T) hq
  unfold ce_ at hw
  rw [ha] at hw
  have hin := i3_in h1 h2 hx.2
  refine va_iald X.1 X.2.1 X.2.2.2.2.2.2.2.1 hP q0 0 hw rfl hin hd ?_
  rw [i3_cl h1 hx.2]
  exact k2
theorem j_zald {k : Nat} {n : Option Int} {lo hi i x : Int} (hp : 0 ≤ pc) (ha : ta_ k = some (2, n, lo, hi)) (hd : decode Y.2.1 pc.toNat = .ok (.baload, 1)) (h1 : 0 ≤ x) (h2 : x < ln_ T k i) (kk : lo ≤ T k i x → T k i x ≤ hi → J_ Y T0 P bc bs (pc + 1) ls (vI (T k i x) :: st) T) : J_ Y T0 P bc bs pc ls (vI x :: vR k i :: st) T := by
  intro l p e s m args below meth c0 D cA ad0 A X ad H locs cells slots lsC hc hs hR hS hB hT hL hl hn
  have hk := ta_ge ha
  have hal : al_ T k i := ok_al (v := none) (by omega) (ok_head (ok_tail hL))
  have hx : -2147483648 ≤ x ∧ x ≤ 2147483647 := ok_head hL
  obtain ⟨ids, q0, hq, hids, hP, hD⟩ := rp_at hR hal
  have hbd := hT.1 _ _ _ _ _ ha i x h1
  have hcb := tc_of ha
  simp [tc_] at hcb
  have k2 := kk hbd.1 hbd.2 l p e s m args below meth c0 D cA ad0 A X ad H locs cells slots lsC hc hs hR hS hB hT (ok_push (show ok_v T (vI (T k i x)) from ⟨by omega, by omega⟩) (ok_tail (ok_tail hL))) hl hn
  rw [show (pc + 1).toNat = pc.toNat + 1 by omega] at k2
  have hw := wd_get (cA := cA) (ad := ad) (T := T) hq
  unfold ce_ at hw
  rw [ha] at hw
  have hin := i3_in h1 h2 hx.2
  refine va_zald X.1 X.2.1 X.2.2.2.2.2.2.2.1 hP q0 1 hw rfl hin hd ?_
  rw [i3_cl h1 hx.2]
  exact k2
theorem j_lald {k : Nat} {n : Option Int} {lo hi i x : Int} (hp : 0 ≤ pc) (ha : ta_ k = some (3, n, lo, hi)) (hd : decode Y.2.1 pc.toNat = .ok (.laload, 1)) (h1 : 0 ≤ x) (h2 : x < ln_ T k i) (kk : lo ≤ T k i x → T k i x ≤ hi → J_ Y T0 P bc bs (pc + 1) ls (vL (T k i x) :: st) T) : J_ Y T0 P bc bs pc ls (vI x :: vR k i :: st) T := by
  intro l p e s m args below meth c0 D cA ad0 A X ad H locs cells slots lsC hc hs hR hS hB hT hL hl hn
  have hk := ta_ge ha
  have hal : al_ T k i := ok_al (v := none) (by omega) (ok_head (ok_tail hL))
  have hx : -2147483648 ≤ x ∧ x ≤ 2147483647 := ok_head hL
  obtain ⟨ids, q0, hq, hids, hP, hD⟩ := rp_at hR hal
  have hbd := hT.1 _ _ _ _ _ ha i x h1
  have hcb := tc_of ha
  simp [tc_] at hcb
  have k2 := kk hbd.1 hbd.2 l p e s m args below meth c0 D cA ad0 A X ad H locs cells slots lsC hc hs hR hS hB hT (ok_push (show ok_v T (vL (T k i x)) from ⟨by omega, by omega⟩) (ok_tail (ok_tail hL))) hl hn
  rw [show (pc + 1).toNat = pc.toNat + 1 by omega] at k2
  have hw := wd_get (cA := cA) (ad := ad) (T := T) hq
  unfold ce_ at hw
  rw [ha] at hw
  have hin := i3_in h1 h2 hx.2
  refine va_lald X.1 X.2.1 X.2.2.2.2.2.2.2.1 hP q0 2 hw rfl hin hd ?_
  rw [i3_cl h1 hx.2]
  exact k2
theorem j_iast {k : Nat} {n : Option Int} {lo hi i x v : Int} (hp : 0 ≤ pc) (ha : ta_ k = some (1, n, lo, hi)) (hd : decode Y.2.1 pc.toNat = .ok (.iastore, 1)) (h1 : 0 ≤ x) (h2 : x < ln_ T k i) (h3 : lo ≤ v) (h4 : v ≤ hi) (kk : J_ Y T0 P bc bs (pc + 1) ls st (up_ T k i x v)) : J_ Y T0 P bc bs pc ls (vI v :: vI x :: vR k i :: st) T := by
  intro l p e s m args below meth c0 D cA ad0 A X ad H locs cells slots lsC hc hs hR hS hB hT hL hl hn
  have hk := ta_ge ha
  have hal : al_ T k i := ok_al (v := none) (by omega) (ok_head (ok_tail (ok_tail hL)))
  have hup := al_up (T := T) (k := k) (i := i) (j := x) (x := v) (by omega)
  have hx : -2147483648 ≤ x ∧ x ≤ 2147483647 := ok_head (ok_tail hL)
  obtain ⟨ids, q0, hq, hids, hP, hD⟩ := rp_at hR hal
  have hcb := tc_of ha
  simp [tc_] at hcb
  have hw := wd_get (cA := cA) (ad := ad) (T := T) hq
  unfold ce_ at hw
  rw [ha] at hw
  refine va_iast X.1 X.2.1 X.2.2.2.2.2.2.2.1 hP hD hS q0 0 hw rfl (i3_in h1 h2 hx.2) hd (fun H1 locs1 hP1 hD1 hS1 => ?_)
  have e1 : upd (fun y : Nat => Int32.ofInt (T k i (y : Int))) (Int32.ofInt x).toNatClampNeg (Int32.ofInt v) = fun y : Nat => Int32.ofInt (up_ T k i x v k i (y : Int)) := by
    funext y
    by_cases ey : y = (Int32.ofInt x).toNatClampNeg
    · subst ey
      rw [i3_cl h1 hx.2, up_s]
      simp [upd]
    · rw [up_n (fun q => ey (by have := i3_cl h1 hx.2; omega))]
      simp [upd, ey]
  have e2 : ∀ z, z = ce_ cA ad (up_ T k i x v) k i → (wd_ cA ad T ids).set q0 (ad k i, z) = wd_ cA ad (up_ T k i x v) ids := by
    rintro z rfl
    exact wd_set hD hq (fun k' i' h => up_o h)
  have e3 : (.inl (cA 0, (ln_ T k i).toNat, .inl (upd (fun y : Nat => Int32.ofInt (T k i (y : Int))) (Int32.ofInt x).toNatClampNeg (Int32.ofInt v))) : va_E) = ce_ cA ad (up_ T k i x v) k i := by
    unfold ce_
    rw [ha, ln_up h1]
    simp only
    rw [e1]
  rw [e2 _ e3] at hP1 hD1
  have k2 := kk l p e s m args below meth c0 D cA ad0 A X ad H1 locs1 cells slots lsC hc hs ⟨ids, fun k i => (hup k i).trans (hids k i), hP1, hD1⟩ hS1 ⟨fun k i h => (hup k i).mpr (hB.1 k i h), hB.2⟩ (ok_upA hT ha (by decide) h1 h3 h4) ⟨fun k9 v h => okv_mono (fun k i => (hup k i).mpr) (hL.1 k9 v h), fun v h => okv_mono (fun k i => (hup k i).mpr) ((ok_tail (ok_tail (ok_tail hL))).2 v h)⟩ hl hn
  rw [show (pc + 1).toNat = pc.toNat + 1 by omega] at k2
  exact k2
theorem j_zast {k : Nat} {n : Option Int} {lo hi i x v : Int} (hp : 0 ≤ pc) (ha : ta_ k = some (2, n, lo, hi)) (hd : decode Y.2.1 pc.toNat = .ok (.bastore, 1)) (h1 : 0 ≤ x) (h2 : x < ln_ T k i) (h3 : lo ≤ v) (h4 : v ≤ hi) (kk : J_ Y T0 P bc bs (pc + 1) ls st (up_ T k i x v)) : J_ Y T0 P bc bs pc ls (vI v :: vI x :: vR k i :: st) T := by
  intro l p e s m args below meth c0 D cA ad0 A X ad H locs cells slots lsC hc hs hR hS hB hT hL hl hn
  have hk := ta_ge ha
  have hal : al_ T k i := ok_al (v := none) (by omega) (ok_head (ok_tail (ok_tail hL)))
  have hup := al_up (T := T) (k := k) (i := i) (j := x) (x := v) (by omega)
  have hx : -2147483648 ≤ x ∧ x ≤ 2147483647 := ok_head (ok_tail hL)
  obtain ⟨ids, q0, hq, hids, hP, hD⟩ := rp_at hR hal
  have hcb := tc_of ha
  simp [tc_] at hcb
  have hw := wd_get (cA := cA) (ad := ad) (T := T) hq
  unfold ce_ at hw
  rw [ha] at hw
  refine va_zast X.1 X.2.1 X.2.2.2.2.2.2.2.1 hP hD hS q0 1 hw rfl (i3_in h1 h2 hx.2) hd (fun H1 locs1 hP1 hD1 hS1 => ?_)
  have e1 : upd (fun y : Nat => Int32.ofInt (T k i (y : Int))) (Int32.ofInt x).toNatClampNeg (vp_nar .boolean (Int32.ofInt v)) = fun y : Nat => Int32.ofInt (up_ T k i x v k i (y : Int)) := by
    funext y
    by_cases ey : y = (Int32.ofInt x).toNatClampNeg
    · subst ey
      rw [i3_cl h1 hx.2, up_s]
      simp only [upd, if_pos]
      unfold vp_nar
      rw [nr_z (by omega) (by omega)]
    · rw [up_n (fun q => ey (by have := i3_cl h1 hx.2; omega))]
      simp [upd, ey]
  have e2 : ∀ z, z = ce_ cA ad (up_ T k i x v) k i → (wd_ cA ad T ids).set q0 (ad k i, z) = wd_ cA ad (up_ T k i x v) ids := by
    rintro z rfl
    exact wd_set hD hq (fun k' i' h => up_o h)
  have e3 : (.inl (cA 1, (ln_ T k i).toNat, .inl (upd (fun y : Nat => Int32.ofInt (T k i (y : Int))) (Int32.ofInt x).toNatClampNeg (vp_nar .boolean (Int32.ofInt v)))) : va_E) = ce_ cA ad (up_ T k i x v) k i := by
    unfold ce_
    rw [ha, ln_up h1]
    simp only
    rw [e1]
  rw [e2 _ e3] at hP1 hD1
  have k2 := kk l p e s m args below meth c0 D cA ad0 A X ad H1 locs1 cells slots lsC hc hs ⟨ids, fun k i => (hup k i).trans (hids k i), hP1, hD1⟩ hS1 ⟨fun k i h => (hup k i).mpr (hB.1 k i h), hB.2⟩ (ok_upA hT ha (by decide) h1 h3 h4) ⟨fun k9 v h => okv_mono (fun k i => (hup k i).mpr) (hL.1 k9 v h), fun v h => okv_mono (fun k i => (hup k i).mpr) ((ok_tail (ok_tail (ok_tail hL))).2 v h)⟩ hl hn
  rw [show (pc + 1).toNat = pc.toNat + 1 by omega] at k2
  exact k2
theorem j_last {k : Nat} {n : Option Int} {lo hi i x v : Int} (hp : 0 ≤ pc) (ha : ta_ k = some (3, n, lo, hi)) (hd : decode Y.2.1 pc.toNat = .ok (.lastore, 1)) (h1 : 0 ≤ x) (h2 : x < ln_ T k i) (h3 : lo ≤ v) (h4 : v ≤ hi) (kk : J_ Y T0 P bc bs (pc + 1) ls st (up_ T k i x v)) : J_ Y T0 P bc bs pc ls (vL v :: vI x :: vR k i :: st) T := by
  intro l p e s m args below meth c0 D cA ad0 A X ad H locs cells slots lsC hc hs hR hS hB hT hL hl hn
  have hk := ta_ge ha
  have hal : al_ T k i := ok_al (v := none) (by omega) (ok_head (ok_tail (ok_tail hL)))
  have hup := al_up (T := T) (k := k) (i := i) (j := x) (x := v) (by omega)
  have hx : -2147483648 ≤ x ∧ x ≤ 2147483647 := ok_head (ok_tail hL)
  obtain ⟨ids, q0, hq, hids, hP, hD⟩ := rp_at hR hal
  have hcb := tc_of ha
  simp [tc_] at hcb
  have hw := wd_get (cA := cA) (ad := ad) (T := T) hq
  unfold ce_ at hw
  rw [ha] at hw
  refine va_last X.1 X.2.1 X.2.2.2.2.2.2.2.1 hP hD hS q0 2 hw rfl (i3_in h1 h2 hx.2) hd (fun H1 locs1 hP1 hD1 hS1 => ?_)
  have e1 : vp_updL (fun y : Nat => Int64.ofInt (T k i (y : Int))) (Int32.ofInt x).toNatClampNeg (Int64.ofInt v) = fun y : Nat => Int64.ofInt (up_ T k i x v k i (y : Int)) := by
    funext y
    by_cases ey : y = (Int32.ofInt x).toNatClampNeg
    · subst ey
      rw [i3_cl h1 hx.2, up_s]
      simp [vp_updL]
    · rw [up_n (fun q => ey (by have := i3_cl h1 hx.2; omega))]
      simp [vp_updL, ey]
  have e2 : ∀ z, z = ce_ cA ad (up_ T k i x v) k i → (wd_ cA ad T ids).set q0 (ad k i, z) = wd_ cA ad (up_ T k i x v) ids := by
    rintro z rfl
    exact wd_set hD hq (fun k' i' h => up_o h)
  have e3 : (.inl (cA 2, (ln_ T k i).toNat, .inr (.inl (vp_updL (fun y : Nat => Int64.ofInt (T k i (y : Int))) (Int32.ofInt x).toNatClampNeg (Int64.ofInt v)))) : va_E) = ce_ cA ad (up_ T k i x v) k i := by
    unfold ce_
    rw [ha, ln_up h1]
    simp only
    rw [e1]
  rw [e2 _ e3] at hP1 hD1
  have k2 := kk l p e s m args below meth c0 D cA ad0 A X ad H1 locs1 cells slots lsC hc hs ⟨ids, fun k i => (hup k i).trans (hids k i), hP1, hD1⟩ hS1 ⟨fun k i h => (hup k i).mpr (hB.1 k i h), hB.2⟩ (ok_upA hT ha (by decide) h1 h3 h4) ⟨fun k9 v h => okv_mono (fun k i => (hup k i).mpr) (hL.1 k9 v h), fun v h => okv_mono (fun k i => (hup k i).mpr) ((ok_tail (ok_tail (ok_tail hL))).2 v h)⟩ hl hn
  rw [show (pc + 1).toNat = pc.toNat + 1 by omega] at k2
  exact k2
theorem j_alen {k t : Nat} {n : Option Int} {lo hi i : Int} (hp : 0 ≤ pc) (ha : ta_ k = some (t, n, lo, hi)) (hd : decode Y.2.1 pc.toNat = .ok (.arraylength, 1)) (kk : 0 ≤ ln_ T k i → ln_ T k i ≤ 2147483647 → J_ Y T0 P bc bs (pc + 1) ls (vI (ln_ T k i) :: st) T) : J_ Y T0 P bc bs pc ls (vR k i :: st) T := by
  intro l p e s m args below meth c0 D cA ad0 A X ad H locs cells slots lsC hc hs hR hS hB hT hL hl hn
  have hk := ta_ge ha
  have hal : al_ T k i := ok_al (v := none) (by omega) (ok_head hL)
  obtain ⟨ids, q0, hq, hids, hP, hD⟩ := rp_at hR hal
  have hr := ln_r hT ha i
  have k2 := kk hr.1 hr.2 l p e s m args below meth c0 D cA ad0 A X ad H locs cells slots lsC hc hs hR hS hB hT (ok_push (show ok_v T (vI _) from ⟨by omega, by omega⟩) (ok_tail hL)) hl hn
  rw [show (pc + 1).toNat = pc.toNat + 1 by omega] at k2
  have hw := wd_get (cA := cA) (ad := ad) (T := T) hq
  have hcb := tc_of ha
  simp [tc_] at hcb
  have e9 : Int32.ofNat (ln_ T k i).toNat = Int32.ofInt (ln_ T k i) := by
    rw [← Int32.ofInt_eq_ofNat]
    congr 1
    omega
  unfold ce_ at hw
  rw [ha] at hw
  have ht : t = 1 ∨ t = 2 ∨ t = 3 ∨ t = 4 ∨ t = 5 := by omega
  rcases ht with rfl | rfl | rfl | rfl | rfl
  · exact va_alen X.1 X.2.1 X.2.2.2.2.2.2.2.1 hP q0 0 hw (ty := .int) rfl e9 hd k2
  · exact va_alen X.1 X.2.1 X.2.2.2.2.2.2.2.1 hP q0 1 hw (ty := .boolean) rfl e9 hd k2
  · exact va_alen X.1 X.2.1 X.2.2.2.2.2.2.2.1 hP q0 2 hw (ty := .long) rfl e9 hd k2
  · exact va_alen X.1 X.2.1 X.2.2.2.2.2.2.2.1 hP q0 3 hw (ty := .object RX0) rfl e9 hd k2
  · exact va_alen X.1 X.2.1 X.2.2.2.2.2.2.2.1 hP q0 4 hw (ty := .object RX2) rfl e9 hd k2
theorem ta_4_k : ∀ k, k < 640 → ∀ n lo hi, ta_ k = some (4, n, lo, hi) → k = 521 := by
  have h : ∀ k, k < 640 → ((match ta_ k with | some (4, _) => decide (k = 521) | _ => true) = true) := by decide +kernel
  intro k hk n lo hi e
  have := h k hk
  rw [e] at this
  simpa using this
theorem j_aald4 {k : Nat} {n : Option Int} {lo hi i x : Int} (hp : 0 ≤ pc) (ha : ta_ k = some (4, n, lo, hi)) (hd : decode Y.2.1 pc.toNat = .ok (.aaload, 1)) (h1 : 0 ≤ x) (h2 : x < ln_ T k i) (k0 : T k i x = 0 → J_ Y T0 P bc bs (pc + 1) ls (vN :: st) T) (k1 : ¬ T k i x = 0 → J_ Y T0 P bc bs (pc + 1) ls (vR 100 x :: st) T) : J_ Y T0 P bc bs pc ls (vI x :: vR k i :: st) T := by
  intro l p e s m args below meth c0 D cA ad0 A X ad H locs cells slots lsC hc hs hR hS hB hT hL hl hn
  have hk := ta_ge ha
  have hal : al_ T k i := ok_al (v := none) (by omega) (ok_head (ok_tail hL))
  have hx : -2147483648 ≤ x ∧ x ≤ 2147483647 := ok_head hL
  obtain ⟨ids, q0, hq, hids, hP, hD⟩ := rp_at hR hal
  have hw := wd_get (cA := cA) (ad := ad) (T := T) hq
  unfold ce_ at hw
  rw [ha] at hw
  have hke : k = 521 := by
    by_cases hk6 : k < 640
    · exact ta_4_k k hk6 _ _ _ ha
    · rw [ta_no (by omega)] at ha; cases ha
  refine va_aldq X.1 X.2.1 X.2.2.2.2.2.2.2.1 hP q0 3 hw rfl (i3_in h1 h2 hx.2) hd ?_
  rw [i3_cl h1 hx.2]
  by_cases hz : T k i x = 0
  · rw [if_pos hz]
    have k2 := k0 hz l p e s m args below meth c0 D cA ad0 A X ad H locs cells slots lsC hc hs hR hS hB hT (ok_push (show ok_v T vN from trivial) (ok_tail (ok_tail hL))) hl hn
    rw [show (pc + 1).toNat = pc.toNat + 1 by omega] at k2
    exact k2
  · rw [if_neg hz]
    have hal2 : al_ T 100 x := hT.2.2.2.2.1 i x h1 (by rw [hke] at hz; exact hz)
    have k2 := k1 hz l p e s m args below meth c0 D cA ad0 A X ad H locs cells slots lsC hc hs hR hS hB hT (ok_push (show ok_v T (vR 100 x) from Or.inr hal2) (ok_tail (ok_tail hL))) hl hn
    rw [show (pc + 1).toNat = pc.toNat + 1 by omega] at k2
    exact k2
theorem ta_5_k : ∀ k, k < 640 → ∀ n lo hi, ta_ k = some (5, n, lo, hi) → k = 523 := by
  have h : ∀ k, k < 640 → ((match ta_ k with | some (5, _) => decide (k = 523) | _ => true) = true) := by decide +kernel
  intro k hk n lo hi e
  have := h k hk
  rw [e] at this
  simpa using this
theorem j_aald5 {k : Nat} {n : Option Int} {lo hi i x : Int} (hp : 0 ≤ pc) (ha : ta_ k = some (5, n, lo, hi)) (hd : decode Y.2.1 pc.toNat = .ok (.aaload, 1)) (h1 : 0 ≤ x) (h2 : x < ln_ T k i) (k0 : T k i x = 0 → J_ Y T0 P bc bs (pc + 1) ls (vN :: st) T) (k1 : ¬ T k i x = 0 → J_ Y T0 P bc bs (pc + 1) ls (vR 102 x :: st) T) : J_ Y T0 P bc bs pc ls (vI x :: vR k i :: st) T := by
  intro l p e s m args below meth c0 D cA ad0 A X ad H locs cells slots lsC hc hs hR hS hB hT hL hl hn
  have hk := ta_ge ha
  have hal : al_ T k i := ok_al (v := none) (by omega) (ok_head (ok_tail hL))
  have hx : -2147483648 ≤ x ∧ x ≤ 2147483647 := ok_head hL
  obtain ⟨ids, q0, hq, hids, hP, hD⟩ := rp_at hR hal
  have hw := wd_get (cA := cA) (ad := ad) (T := T) hq
  unfold ce_ at hw
  rw [ha] at hw
  have hke : k = 523 := by
    by_cases hk6 : k < 640
    · exact ta_5_k k hk6 _ _ _ ha
    · rw [ta_no (by omega)] at ha; cases ha
  refine va_aldq X.1 X.2.1 X.2.2.2.2.2.2.2.1 hP q0 4 hw rfl (i3_in h1 h2 hx.2) hd ?_
  rw [i3_cl h1 hx.2]
  by_cases hz : T k i x = 0
  · rw [if_pos hz]
    have k2 := k0 hz l p e s m args below meth c0 D cA ad0 A X ad H locs cells slots lsC hc hs hR hS hB hT (ok_push (show ok_v T vN from trivial) (ok_tail (ok_tail hL))) hl hn
    rw [show (pc + 1).toNat = pc.toNat + 1 by omega] at k2
    exact k2
  · rw [if_neg hz]
    have hal2 : al_ T 102 x := hT.2.2.2.2.2.1 i x h1 (by rw [hke] at hz; exact hz)
    have k2 := k1 hz l p e s m args below meth c0 D cA ad0 A X ad H locs cells slots lsC hc hs hR hS hB hT (ok_push (show ok_v T (vR 102 x) from Or.inr hal2) (ok_tail (ok_tail hL))) hl hn
    rw [show (pc + 1).toNat = pc.toNat + 1 by omega] at k2
    exact k2
end JA
