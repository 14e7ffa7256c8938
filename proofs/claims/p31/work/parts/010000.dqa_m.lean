-- names of classes and descriptors, told once
theorem nmh_0 : "SportsHouse" ≠ "java/lang/invoke/MethodHandle" ∧ "SportsHouse" ≠ "java/lang/invoke/VarHandle" := ⟨by decide +kernel, by decide +kernel⟩
theorem nmh_1 : "SportsHouseModel" ≠ "java/lang/invoke/MethodHandle" ∧ "SportsHouseModel" ≠ "java/lang/invoke/VarHandle" := ⟨by decide +kernel, by decide +kernel⟩
theorem nmh_2 : "SportsHouse$Lots" ≠ "java/lang/invoke/MethodHandle" ∧ "SportsHouse$Lots" ≠ "java/lang/invoke/VarHandle" := ⟨by decide +kernel, by decide +kernel⟩
theorem nmh_3 : "SportsHouse$Play" ≠ "java/lang/invoke/MethodHandle" ∧ "SportsHouse$Play" ≠ "java/lang/invoke/VarHandle" := ⟨by decide +kernel, by decide +kernel⟩
theorem nmh_4 : "SportsHouse$Referees" ≠ "java/lang/invoke/MethodHandle" ∧ "SportsHouse$Referees" ≠ "java/lang/invoke/VarHandle" := ⟨by decide +kernel, by decide +kernel⟩
theorem nmh_5 : "SportsHouse$RuleText" ≠ "java/lang/invoke/MethodHandle" ∧ "SportsHouse$RuleText" ≠ "java/lang/invoke/VarHandle" := ⟨by decide +kernel, by decide +kernel⟩
theorem nmh_6 : "SportsHouse$Season" ≠ "java/lang/invoke/MethodHandle" ∧ "SportsHouse$Season" ≠ "java/lang/invoke/VarHandle" := ⟨by decide +kernel, by decide +kernel⟩
theorem nmh_7 : "SportsHouse$Standings" ≠ "java/lang/invoke/MethodHandle" ∧ "SportsHouse$Standings" ≠ "java/lang/invoke/VarHandle" := ⟨by decide +kernel, by decide +kernel⟩
theorem nmh_8 : "SportsHouse$Title" ≠ "java/lang/invoke/MethodHandle" ∧ "SportsHouse$Title" ≠ "java/lang/invoke/VarHandle" := ⟨by decide +kernel, by decide +kernel⟩
theorem nmh_9 : "SportsHouse$Things" ≠ "java/lang/invoke/MethodHandle" ∧ "SportsHouse$Things" ≠ "java/lang/invoke/VarHandle" := ⟨by decide +kernel, by decide +kernel⟩
theorem nmh_10 : "SportsHouse$Match" ≠ "java/lang/invoke/MethodHandle" ∧ "SportsHouse$Match" ≠ "java/lang/invoke/VarHandle" := ⟨by decide +kernel, by decide +kernel⟩
theorem nmh_11 : "SportsHouse$Competition" ≠ "java/lang/invoke/MethodHandle" ∧ "SportsHouse$Competition" ≠ "java/lang/invoke/VarHandle" := ⟨by decide +kernel, by decide +kernel⟩
theorem pdq_0 : (parseMethodDescriptor "(II)V").map (fun d => d.parameters.length) = some 2 := by decide +kernel
theorem pdq_1 : (parseMethodDescriptor "()V").map (fun d => d.parameters.length) = some 0 := by decide +kernel
theorem pdq_2 : (parseMethodDescriptor "([I)I").map (fun d => d.parameters.length) = some 1 := by decide +kernel
theorem pdq_3 : (parseMethodDescriptor "(III)V").map (fun d => d.parameters.length) = some 3 := by decide +kernel
theorem pdq_4 : (parseMethodDescriptor "(II)I").map (fun d => d.parameters.length) = some 2 := by decide +kernel
theorem pdq_5 : (parseMethodDescriptor "(II)Z").map (fun d => d.parameters.length) = some 2 := by decide +kernel
theorem pdq_6 : (parseMethodDescriptor "(IIIII)V").map (fun d => d.parameters.length) = some 5 := by decide +kernel
theorem pdq_7 : (parseMethodDescriptor "(I)Z").map (fun d => d.parameters.length) = some 1 := by decide +kernel
theorem pdq_8 : (parseMethodDescriptor "(III)I").map (fun d => d.parameters.length) = some 3 := by decide +kernel
theorem pdq_9 : (parseMethodDescriptor "(I)V").map (fun d => d.parameters.length) = some 1 := by decide +kernel
theorem pdq_10 : (parseMethodDescriptor "(IIII)Z").map (fun d => d.parameters.length) = some 4 := by decide +kernel
theorem pdq_11 : (parseMethodDescriptor "(III)Z").map (fun d => d.parameters.length) = some 3 := by decide +kernel
theorem pdq_12 : (parseMethodDescriptor "(IIII)V").map (fun d => d.parameters.length) = some 4 := by decide +kernel
theorem pdq_13 : (parseMethodDescriptor "(IIIII)I").map (fun d => d.parameters.length) = some 5 := by decide +kernel
theorem pdq_14 : (parseMethodDescriptor "(IIZ)V").map (fun d => d.parameters.length) = some 3 := by decide +kernel
theorem pdq_15 : (parseMethodDescriptor "(I)I").map (fun d => d.parameters.length) = some 1 := by decide +kernel
theorem pdq_16 : (parseMethodDescriptor "(IIIZ)I").map (fun d => d.parameters.length) = some 4 := by decide +kernel
theorem pdq_17 : (parseMethodDescriptor "()I").map (fun d => d.parameters.length) = some 0 := by decide +kernel
theorem pdq_18 : (parseMethodDescriptor "()Z").map (fun d => d.parameters.length) = some 0 := by decide +kernel
theorem pdq_19 : (parseMethodDescriptor "(II)J").map (fun d => d.parameters.length) = some 2 := by decide +kernel
theorem pdq_20 : (parseMethodDescriptor "(III)J").map (fun d => d.parameters.length) = some 3 := by decide +kernel
theorem pdq_21 : (parseMethodDescriptor "(ILSportsHouse$Match;)I").map (fun d => d.parameters.length) = some 2 := by decide +kernel
theorem pdq_22 : (parseMethodDescriptor "(ILSportsHouse$Match;)Z").map (fun d => d.parameters.length) = some 2 := by decide +kernel
theorem pdq_23 : (parseMethodDescriptor "(ILSportsHouse$Match;I)I").map (fun d => d.parameters.length) = some 3 := by decide +kernel
theorem pdq_24 : (parseMethodDescriptor "(LSportsHouse$Competition;I)I").map (fun d => d.parameters.length) = some 2 := by decide +kernel
theorem pdq_25 : (parseMethodDescriptor "(LSportsHouse$Match;LSportsHouse$Match;)Z").map (fun d => d.parameters.length) = some 2 := by decide +kernel
theorem pdq_26 : (parseMethodDescriptor "(LSportsHouse$Match;)V").map (fun d => d.parameters.length) = some 1 := by decide +kernel
theorem pdq_27 : (parseMethodDescriptor "(LSportsHouse$Match;II)Z").map (fun d => d.parameters.length) = some 3 := by decide +kernel
theorem pdq_28 : (parseMethodDescriptor "(LSportsHouse$Match;)I").map (fun d => d.parameters.length) = some 1 := by decide +kernel
theorem pdq_29 : (parseMethodDescriptor "(LSportsHouse$Match;I)I").map (fun d => d.parameters.length) = some 2 := by decide +kernel
theorem pdq_30 : (parseMethodDescriptor "(LSportsHouse$Match;II)V").map (fun d => d.parameters.length) = some 3 := by decide +kernel
theorem pdq_31 : (parseMethodDescriptor "(LSportsHouse$Competition;I)V").map (fun d => d.parameters.length) = some 2 := by decide +kernel
theorem pdq_32 : (parseMethodDescriptor "(IIII)I").map (fun d => d.parameters.length) = some 4 := by decide +kernel
theorem pdq_33 : (parseMethodDescriptor "(IIIII)Z").map (fun d => d.parameters.length) = some 5 := by decide +kernel
theorem pdq_34 : (parseMethodDescriptor "(LSportsHouse$Competition;IIII)V").map (fun d => d.parameters.length) = some 5 := by decide +kernel
theorem pdq_35 : (parseMethodDescriptor "(LSportsHouse$Competition;IIZI)V").map (fun d => d.parameters.length) = some 5 := by decide +kernel
theorem pdq_36 : (parseMethodDescriptor "(LSportsHouse$Match;II)I").map (fun d => d.parameters.length) = some 3 := by decide +kernel
theorem pdq_37 : (parseMethodDescriptor "(LSportsHouse$Match;III)I").map (fun d => d.parameters.length) = some 4 := by decide +kernel
theorem pdq_38 : (parseMethodDescriptor "(Ljava/lang/String;)I").map (fun d => d.parameters.length) = some 1 := by decide +kernel
theorem pdq_39 : (parseMethodDescriptor "(IIIIII)I").map (fun d => d.parameters.length) = some 6 := by decide +kernel
theorem pdq_40 : (parseMethodDescriptor "(IZ)I").map (fun d => d.parameters.length) = some 2 := by decide +kernel
-- eight at a time
def dqa_ : List Cond → List Cond
  | _ :: _ :: _ :: _ :: _ :: _ :: _ :: _ :: t => t
  | _ => []
theorem dqa_m {w : Cond} : ∀ {l : List Cond}, w ∈ dqa_ l → w ∈ l
  | _ :: _ :: _ :: _ :: _ :: _ :: _ :: _ :: t, h => List.mem_cons_of_mem _ (List.mem_cons_of_mem _ (List.mem_cons_of_mem _ (List.mem_cons_of_mem _ (List.mem_cons_of_mem _ (List.mem_cons_of_mem _ (List.mem_cons_of_mem _ (List.mem_cons_of_mem _ h)))))))
  | [], h => absurd (show w ∈ ([] : List Cond) from h) List.not_mem_nil
  | [_], h => absurd (show w ∈ ([] : List Cond) from h) List.not_mem_nil
  | [_, _], h => absurd (show w ∈ ([] : List Cond) from h) List.not_mem_nil
  | [_, _, _], h => absurd (show w ∈ ([] : List Cond) from h) List.not_mem_nil
  | [_, _, _, _], h => absurd (show w ∈ ([] : List Cond) from h) List.not_mem_nil
  | [_, _, _, _, _], h => absurd (show w ∈ ([] : List Cond) from h) List.not_mem_nil
  | [_, _, _, _, _, _], h => absurd (show w ∈ ([] : List Cond) from h) List.not_mem_nil
  | [_, _, _, _, _, _, _], h => absurd (show w ∈ ([] : List Cond) from h) List.not_mem_nil
