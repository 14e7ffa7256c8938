section
/-- a private method of a class that the tables say can be made, by its rows of tables_1 -/
def lw_okq (q : MethodName × Nat) : Prop := (q.1.cls ≠ "java/lang/invoke/MethodHandle" ∧ q.1.cls ≠ "java/lang/invoke/VarHandle") ∧ Cond.instantiable q.1.cls q.2 ∈ tables_1 ∧ Cond.privateMethod q.1 ∈ tables_1 ∧ Cond.instanceMethod q.1 ∈ tables_1
theorem lw_p0 : lw_okq (⟨"SportsHouse", "isCompetition", "(I)Z"⟩, 7) := ⟨⟨by decide +kernel, by decide +kernel⟩, List.mem_of_getElem? (i := 22) (by decide +kernel), List.mem_of_getElem? (i := 623) (by decide +kernel), List.mem_of_getElem? (i := 624) (by decide +kernel)⟩
theorem lw_p1 : lw_okq (⟨"SportsHouse", "isClub", "(I)Z"⟩, 7) := ⟨⟨by decide +kernel, by decide +kernel⟩, List.mem_of_getElem? (i := 22) (by decide +kernel), List.mem_of_getElem? (i := 646) (by decide +kernel), List.mem_of_getElem? (i := 647) (by decide +kernel)⟩
theorem lw_p2 : lw_okq (⟨"SportsHouse", "isPerson", "(I)Z"⟩, 7) := ⟨⟨by decide +kernel, by decide +kernel⟩, List.mem_of_getElem? (i := 22) (by decide +kernel), List.mem_of_getElem? (i := 642) (by decide +kernel), List.mem_of_getElem? (i := 643) (by decide +kernel)⟩
theorem lw_p3 : lw_okq (⟨"SportsHouse", "isMatch", "(I)Z"⟩, 7) := ⟨⟨by decide +kernel, by decide +kernel⟩, List.mem_of_getElem? (i := 22) (by decide +kernel), List.mem_of_getElem? (i := 774) (by decide +kernel), List.mem_of_getElem? (i := 775) (by decide +kernel)⟩
theorem lw_p4 : lw_okq (⟨"SportsHouse$RuleText", "nextToken", "()V"⟩, 10) := ⟨⟨by decide +kernel, by decide +kernel⟩, List.mem_of_getElem? (i := 30) (by decide +kernel), List.mem_of_getElem? (i := 447) (by decide +kernel), List.mem_of_getElem? (i := 448) (by decide +kernel)⟩
theorem lw_p5 : lw_okq (⟨"SportsHouse$Referees", "listMatches", "(I)V"⟩, 5) := ⟨⟨by decide +kernel, by decide +kernel⟩, List.mem_of_getElem? (i := 384) (by decide +kernel), List.mem_of_getElem? (i := 1391) (by decide +kernel), List.mem_of_getElem? (i := 1392) (by decide +kernel)⟩
theorem lw_p6 : lw_okq (⟨"SportsHouse$Referees", "weighAll", "(I)V"⟩, 5) := ⟨⟨by decide +kernel, by decide +kernel⟩, List.mem_of_getElem? (i := 384) (by decide +kernel), List.mem_of_getElem? (i := 1396) (by decide +kernel), List.mem_of_getElem? (i := 1397) (by decide +kernel)⟩
theorem lw_p7 : lw_okq (⟨"SportsHouseModel", "layDefaults", "()V"⟩, 114) := ⟨⟨by decide +kernel, by decide +kernel⟩, List.mem_of_getElem? (i := 1422) (by decide +kernel), List.mem_of_getElem? (i := 1787) (by decide +kernel), List.mem_of_getElem? (i := 1788) (by decide +kernel)⟩
theorem lw_p8 : lw_okq (⟨"SportsHouseModel", "take", "()V"⟩, 114) := ⟨⟨by decide +kernel, by decide +kernel⟩, List.mem_of_getElem? (i := 1422) (by decide +kernel), List.mem_of_getElem? (i := 1791) (by decide +kernel), List.mem_of_getElem? (i := 1792) (by decide +kernel)⟩
theorem lw_p9 : lw_okq (⟨"SportsHouseModel", "matchRest", "(II)V"⟩, 114) := ⟨⟨by decide +kernel, by decide +kernel⟩, List.mem_of_getElem? (i := 1422) (by decide +kernel), List.mem_of_getElem? (i := 2251) (by decide +kernel), List.mem_of_getElem? (i := 2252) (by decide +kernel)⟩
theorem lw_p10 : lw_okq (⟨"SportsHouseModel", "findPaths", "(II)V"⟩, 114) := ⟨⟨by decide +kernel, by decide +kernel⟩, List.mem_of_getElem? (i := 1422) (by decide +kernel), List.mem_of_getElem? (i := 2255) (by decide +kernel), List.mem_of_getElem? (i := 2256) (by decide +kernel)⟩
def lw_privs : List (MethodName × Nat) := [(⟨"SportsHouse", "isCompetition", "(I)Z"⟩, 7), (⟨"SportsHouse", "isClub", "(I)Z"⟩, 7), (⟨"SportsHouse", "isPerson", "(I)Z"⟩, 7), (⟨"SportsHouse", "isMatch", "(I)Z"⟩, 7), (⟨"SportsHouse$RuleText", "nextToken", "()V"⟩, 10), (⟨"SportsHouse$Referees", "listMatches", "(I)V"⟩, 5), (⟨"SportsHouse$Referees", "weighAll", "(I)V"⟩, 5), (⟨"SportsHouseModel", "layDefaults", "()V"⟩, 114), (⟨"SportsHouseModel", "take", "()V"⟩, 114), (⟨"SportsHouseModel", "matchRest", "(II)V"⟩, 114), (⟨"SportsHouseModel", "findPaths", "(II)V"⟩, 114)]
def lw_tbl : List Cond := k2_sels lw_privs ++ tables_1
theorem lw_privs_ok : ∀ q ∈ lw_privs, lw_okq q := List.forall_mem_cons.mpr ⟨lw_p0, List.forall_mem_cons.mpr ⟨lw_p1, List.forall_mem_cons.mpr ⟨lw_p2, List.forall_mem_cons.mpr ⟨lw_p3, List.forall_mem_cons.mpr ⟨lw_p4, List.forall_mem_cons.mpr ⟨lw_p5, List.forall_mem_cons.mpr ⟨lw_p6, List.forall_mem_cons.mpr ⟨lw_p7, List.forall_mem_cons.mpr ⟨lw_p8, List.forall_mem_cons.mpr ⟨lw_p9, List.forall_mem_cons.mpr ⟨lw_p10, fun _ h => absurd h List.not_mem_nil⟩⟩⟩⟩⟩⟩⟩⟩⟩⟩⟩
def RX0 : String := "SportsHouse$Competition"
def TX0 : u_T := fun k => match k with
  | 0 => ("SportsHouse$Competition", "number", "I", true)
  | 1 => ("SportsHouse$Competition", "rules", "[I", true)
  | 2 => ("SportsHouse$Competition", "keys", "[I", true)
  | 3 => ("SportsHouse$Competition", "clubs", "[I", true)
  | 4 => ("SportsHouse$Competition", "seat", "[I", true)
  | 5 => ("SportsHouse$Competition", "entered", "I", false)
  | 6 => ("SportsHouse$Competition", "planned", "Z", false)
  | 7 => ("SportsHouse$Competition", "firstMatch", "I", false)
  | _ => ("SportsHouse$Competition", "matchCount", "I", false)
def tyX0 : Nat → FieldType := fun k => match k with
  | 0 => .int
  | 1 => .array .int
  | 2 => .array .int
  | 3 => .array .int
  | 4 => .array .int
  | 5 => .int
  | 6 => .boolean
  | 7 => .int
  | _ => .int
abbrev wsX00 : List Cond := u_ws RX0 TX0 9
theorem nmX0 : ∀ a, a < 9 → ∀ b, b < 9 → a ≠ b → (TX0 a).2.1 ≠ (TX0 b).2.1 := by decide +kernel
theorem tyX0_ok : ∀ k, k < 9 → parseFieldDescriptor (TX0 k).2.2.1 = some (tyX0 k) := by decide +kernel
def RX1 : String := "SportsHouse$Lots"
def TX1 : u_T := fun k => match k with
  | 0 => ("SportsHouse$Lots", "things", "LSportsHouse$Things;", true)
  | 1 => ("SportsHouse$Lots", "groups", "I", false)
  | 2 => ("SportsHouse$Lots", "limit", "I", false)
  | 3 => ("SportsHouse$Lots", "clubCount", "I", false)
  | 4 => ("SportsHouse$Lots", "drawnCount", "I", false)
  | 5 => ("SportsHouse$Lots", "random", "I", false)
  | 6 => ("SportsHouse$Lots", "total", "I", false)
  | 7 => ("SportsHouse$Lots", "fresh", "Z", false)
  | 8 => ("SportsHouse$Lots", "potOf", "[I", true)
  | 9 => ("SportsHouse$Lots", "groupOf", "[I", true)
  | 10 => ("SportsHouse$Lots", "potSize", "[I", true)
  | 11 => ("SportsHouse$Lots", "with", "[I", true)
  | 12 => ("SportsHouse$Lots", "waiting", "[I", true)
  | 13 => ("SportsHouse$Lots", "waitingCount", "I", false)
  | 14 => ("SportsHouse$Lots", "taken", "[I", true)
  | _ => ("SportsHouse$Lots", "countrymen", "[I", true)
def tyX1 : Nat → FieldType := fun k => match k with
  | 0 => .object "SportsHouse$Things"
  | 1 => .int
  | 2 => .int
  | 3 => .int
  | 4 => .int
  | 5 => .int
  | 6 => .int
  | 7 => .boolean
  | 8 => .array .int
  | 9 => .array .int
  | 10 => .array .int
  | 11 => .array .int
  | 12 => .array .int
  | 13 => .int
  | 14 => .array .int
  | _ => .array .int
abbrev wsX10 : List Cond := u_ws RX1 TX1 16
theorem nmX1 : ∀ a, a < 16 → ∀ b, b < 16 → a ≠ b → (TX1 a).2.1 ≠ (TX1 b).2.1 := by decide +kernel
theorem tyX1_ok : ∀ k, k < 16 → parseFieldDescriptor (TX1 k).2.2.1 = some (tyX1 k) := by decide +kernel
def RX2 : String := "SportsHouse$Match"
def TX2 : u_T := fun k => match k with
  | 0 => ("SportsHouse$Match", "contest", "LSportsHouse$Competition;", true)
  | 1 => ("SportsHouse$Match", "number", "I", true)
  | 2 => ("SportsHouse$Match", "round", "I", true)
  | 3 => ("SportsHouse$Match", "home", "I", true)
  | 4 => ("SportsHouse$Match", "away", "I", true)
  | 5 => ("SportsHouse$Match", "date", "I", false)
  | 6 => ("SportsHouse$Match", "absent", "I", false)
  | 7 => ("SportsHouse$Match", "referee", "I", false)
  | 8 => ("SportsHouse$Match", "sheet", "[I", true)
  | 9 => ("SportsHouse$Match", "listed", "[I", true)
  | _ => ("SportsHouse$Match", "play", "LSportsHouse$Play;", false)
def tyX2 : Nat → FieldType := fun k => match k with
  | 0 => .object "SportsHouse$Competition"
  | 1 => .int
  | 2 => .int
  | 3 => .int
  | 4 => .int
  | 5 => .int
  | 6 => .int
  | 7 => .int
  | 8 => .array .int
  | 9 => .array .int
  | _ => .object "SportsHouse$Play"
abbrev wsX20 : List Cond := u_ws RX2 TX2 11
theorem nmX2 : ∀ a, a < 11 → ∀ b, b < 11 → a ≠ b → (TX2 a).2.1 ≠ (TX2 b).2.1 := by decide +kernel
theorem tyX2_ok : ∀ k, k < 11 → parseFieldDescriptor (TX2 k).2.2.1 = some (tyX2 k) := by decide +kernel
def RX3 : String := "SportsHouse$Play"
def TX3 : u_T := fun k => match k with
  | 0 => ("SportsHouse$Play", "rules", "[I", true)
  | 1 => ("SportsHouse$Play", "sheet", "[I", true)
  | 2 => ("SportsHouse$Play", "listed", "[I", true)
  | 3 => ("SportsHouse$Play", "ended", "Z", false)
  | 4 => ("SportsHouse$Play", "phase", "I", false)
  | 5 => ("SportsHouse$Play", "server", "I", false)
  | 6 => ("SportsHouse$Play", "points", "[I", true)
  | 7 => ("SportsHouse$Play", "games", "[I", true)
  | 8 => ("SportsHouse$Play", "score", "[I", true)
  | 9 => ("SportsHouse$Play", "changes", "[I", true)
  | 10 => ("SportsHouse$Play", "fielded", "[I", true)
  | 11 => ("SportsHouse$Play", "field", "[I", true)
  | 12 => ("SportsHouse$Play", "role", "[I", true)
  | 13 => ("SportsHouse$Play", "yellows", "[I", true)
  | 14 => ("SportsHouse$Play", "log", "[I", false)
  | 15 => ("SportsHouse$Play", "logged", "I", false)
  | 16 => ("SportsHouse$Play", "aside", "[I", false)
  | _ => ("SportsHouse$Play", "asides", "I", false)
def tyX3 : Nat → FieldType := fun k => match k with
  | 0 => .array .int
  | 1 => .array .int
  | 2 => .array .int
  | 3 => .boolean
  | 4 => .int
  | 5 => .int
  | 6 => .array .int
  | 7 => .array .int
  | 8 => .array .int
  | 9 => .array .int
  | 10 => .array .int
  | 11 => .array .int
  | 12 => .array .int
  | 13 => .array .int
  | 14 => .array .int
  | 15 => .int
  | 16 => .array .int
  | _ => .int
abbrev wsX30 : List Cond := u_ws RX3 TX3 18
theorem nmX3 : ∀ a, a < 18 → ∀ b, b < 18 → a ≠ b → (TX3 a).2.1 ≠ (TX3 b).2.1 := by decide +kernel
theorem tyX3_ok : ∀ k, k < 18 → parseFieldDescriptor (TX3 k).2.2.1 = some (tyX3 k) := by decide +kernel
def RX4 : String := "SportsHouse$Referees"
def TX4 : u_T := fun k => match k with
  | 0 => ("SportsHouse$Referees", "season", "LSportsHouse$Season;", true)
  | 1 => ("SportsHouse$Referees", "things", "LSportsHouse$Things;", true)
  | 2 => ("SportsHouse$Referees", "toServe", "[I", true)
  | 3 => ("SportsHouse$Referees", "serveCount", "I", false)
  | _ => ("SportsHouse$Referees", "best", "[I", false)
def tyX4 : Nat → FieldType := fun k => match k with
  | 0 => .object "SportsHouse$Season"
  | 1 => .object "SportsHouse$Things"
  | 2 => .array .int
  | 3 => .int
  | _ => .array .int
abbrev wsX40 : List Cond := u_ws RX4 TX4 5
theorem nmX4 : ∀ a, a < 5 → ∀ b, b < 5 → a ≠ b → (TX4 a).2.1 ≠ (TX4 b).2.1 := by decide +kernel
theorem tyX4_ok : ∀ k, k < 5 → parseFieldDescriptor (TX4 k).2.2.1 = some (tyX4 k) := by decide +kernel
def RX5 : String := "SportsHouse$RuleText"
def TX5 : u_T := fun k => match k with
  | 0 => ("SportsHouse$RuleText", "bytes", "[I", true)
  | 1 => ("SportsHouse$RuleText", "length", "I", false)
  | 2 => ("SportsHouse$RuleText", "faultKind", "I", false)
  | 3 => ("SportsHouse$RuleText", "faultAt", "I", false)
  | 4 => ("SportsHouse$RuleText", "values", "[I", true)
  | 5 => ("SportsHouse$RuleText", "keys", "[I", true)
  | 6 => ("SportsHouse$RuleText", "toldBits", "I", false)
  | 7 => ("SportsHouse$RuleText", "tokenKind", "I", false)
  | 8 => ("SportsHouse$RuleText", "tokenStart", "I", false)
  | _ => ("SportsHouse$RuleText", "tokenEnd", "I", false)
def tyX5 : Nat → FieldType := fun k => match k with
  | 0 => .array .int
  | 1 => .int
  | 2 => .int
  | 3 => .int
  | 4 => .array .int
  | 5 => .array .int
  | 6 => .int
  | 7 => .int
  | 8 => .int
  | _ => .int
abbrev wsX50 : List Cond := u_ws RX5 TX5 10
theorem nmX5 : ∀ a, a < 10 → ∀ b, b < 10 → a ≠ b → (TX5 a).2.1 ≠ (TX5 b).2.1 := by decide +kernel
theorem tyX5_ok : ∀ k, k < 10 → parseFieldDescriptor (TX5 k).2.2.1 = some (tyX5 k) := by decide +kernel
def RX6 : String := "SportsHouse$Season"
def TX6 : u_T := fun k => match k with
  | 0 => ("SportsHouse$Season", "things", "LSportsHouse$Things;", true)
  | 1 => ("SportsHouse$Season", "competitions", "[LSportsHouse$Competition;", true)
  | 2 => ("SportsHouse$Season", "competitionCount", "I", false)
  | 3 => ("SportsHouse$Season", "matches", "[LSportsHouse$Match;", true)
  | 4 => ("SportsHouse$Season", "matchCount", "I", false)
  | 5 => ("SportsHouse$Season", "rowCount", "I", false)
  | 6 => ("SportsHouse$Season", "deductions", "I", false)
  | 7 => ("SportsHouse$Season", "deductedIn", "[I", true)
  | 8 => ("SportsHouse$Season", "deductedFrom", "[I", true)
  | 9 => ("SportsHouse$Season", "deductedPoints", "[I", true)
  | 10 => ("SportsHouse$Season", "deductedOn", "[I", true)
  | 11 => ("SportsHouse$Season", "movedMatches", "[I", true)
  | 12 => ("SportsHouse$Season", "movedCount", "I", false)
  | 13 => ("SportsHouse$Season", "listed", "[I", true)
  | 14 => ("SportsHouse$Season", "datesBefore", "[I", true)
  | _ => ("SportsHouse$Season", "blocked", "[I", true)
def tyX6 : Nat → FieldType := fun k => match k with
  | 0 => .object "SportsHouse$Things"
  | 1 => .array (.object "SportsHouse$Competition")
  | 2 => .int
  | 3 => .array (.object "SportsHouse$Match")
  | 4 => .int
  | 5 => .int
  | 6 => .int
  | 7 => .array .int
  | 8 => .array .int
  | 9 => .array .int
  | 10 => .array .int
  | 11 => .array .int
  | 12 => .int
  | 13 => .array .int
  | 14 => .array .int
  | _ => .array .int
abbrev wsX60 : List Cond := u_ws RX6 TX6 16
theorem nmX6 : ∀ a, a < 16 → ∀ b, b < 16 → a ≠ b → (TX6 a).2.1 ≠ (TX6 b).2.1 := by decide +kernel
theorem tyX6_ok : ∀ k, k < 16 → parseFieldDescriptor (TX6 k).2.2.1 = some (tyX6 k) := by decide +kernel
def RX7 : String := "SportsHouse$Standings"
def TX7 : u_T := fun k => match k with
  | 0 => ("SportsHouse$Standings", "season", "LSportsHouse$Season;", true)
  | 1 => ("SportsHouse$Standings", "contest", "LSportsHouse$Competition;", false)
  | 2 => ("SportsHouse$Standings", "lines", "[I", true)
  | 3 => ("SportsHouse$Standings", "away", "[I", true)
  | 4 => ("SportsHouse$Standings", "fair", "[I", true)
  | 5 => ("SportsHouse$Standings", "headPoints", "[I", true)
  | 6 => ("SportsHouse$Standings", "headScored", "[I", true)
  | 7 => ("SportsHouse$Standings", "order", "[I", true)
  | 8 => ("SportsHouse$Standings", "partedBy", "[I", true)
  | 9 => ("SportsHouse$Standings", "worth", "[J", true)
  | 10 => ("SportsHouse$Standings", "waitingFrom", "[I", true)
  | 11 => ("SportsHouse$Standings", "waitingTo", "[I", true)
  | 12 => ("SportsHouse$Standings", "waitingKey", "[I", true)
  | _ => ("SportsHouse$Standings", "waiting", "I", false)
def tyX7 : Nat → FieldType := fun k => match k with
  | 0 => .object "SportsHouse$Season"
  | 1 => .object "SportsHouse$Competition"
  | 2 => .array .int
  | 3 => .array .int
  | 4 => .array .int
  | 5 => .array .int
  | 6 => .array .int
  | 7 => .array .int
  | 8 => .array .int
  | 9 => .array .long
  | 10 => .array .int
  | 11 => .array .int
  | 12 => .array .int
  | _ => .int
abbrev wsX70 : List Cond := u_ws RX7 TX7 14
theorem nmX7 : ∀ a, a < 14 → ∀ b, b < 14 → a ≠ b → (TX7 a).2.1 ≠ (TX7 b).2.1 := by decide +kernel
theorem tyX7_ok : ∀ k, k < 14 → parseFieldDescriptor (TX7 k).2.2.1 = some (tyX7 k) := by decide +kernel
def RX8 : String := "SportsHouse$Things"
def TX8 : u_T := fun k => match k with
  | 0 => ("SportsHouse$Things", "stadium", "[I", true)
  | 1 => ("SportsHouse$Things", "country", "[I", true)
  | 2 => ("SportsHouse$Things", "clubs", "I", false)
  | 3 => ("SportsHouse$Things", "persons", "I", false)
  | 4 => ("SportsHouse$Things", "firstSpan", "[I", true)
  | 5 => ("SportsHouse$Things", "spans", "I", false)
  | 6 => ("SportsHouse$Things", "spanClub", "[I", true)
  | 7 => ("SportsHouse$Things", "spanFrom", "[I", true)
  | 8 => ("SportsHouse$Things", "spanTo", "[I", true)
  | 9 => ("SportsHouse$Things", "nextSpan", "[I", true)
  | 10 => ("SportsHouse$Things", "officialHome", "[I", true)
  | 11 => ("SportsHouse$Things", "officialCountry", "[I", true)
  | 12 => ("SportsHouse$Things", "officials", "I", false)
  | _ => ("SportsHouse$Things", "today", "I", false)
def tyX8 : Nat → FieldType := fun k => match k with
  | 0 => .array .int
  | 1 => .array .int
  | 2 => .int
  | 3 => .int
  | 4 => .array .int
  | 5 => .int
  | 6 => .array .int
  | 7 => .array .int
  | 8 => .array .int
  | 9 => .array .int
  | 10 => .array .int
  | 11 => .array .int
  | 12 => .int
  | _ => .int
abbrev wsX80 : List Cond := u_ws RX8 TX8 14
theorem nmX8 : ∀ a, a < 14 → ∀ b, b < 14 → a ≠ b → (TX8 a).2.1 ≠ (TX8 b).2.1 := by decide +kernel
theorem tyX8_ok : ∀ k, k < 14 → parseFieldDescriptor (TX8 k).2.2.1 = some (tyX8 k) := by decide +kernel
def RX9 : String := "SportsHouse$Title"
def TX9 : u_T := fun k => match k with
  | 0 => ("SportsHouse$Title", "season", "LSportsHouse$Season;", true)
  | 1 => ("SportsHouse$Title", "standings", "LSportsHouse$Standings;", true)
  | 2 => ("SportsHouse$Title", "answer", "I", false)
  | 3 => ("SportsHouse$Title", "cutBits", "I", false)
  | 4 => ("SportsHouse$Title", "results", "[I", true)
  | 5 => ("SportsHouse$Title", "contest", "LSportsHouse$Competition;", false)
  | 6 => ("SportsHouse$Title", "best", "I", false)
  | 7 => ("SportsHouse$Title", "points", "[I", true)
  | 8 => ("SportsHouse$Title", "open", "[I", true)
  | 9 => ("SportsHouse$Title", "openCount", "I", false)
  | 10 => ("SportsHouse$Title", "homeParts", "[I", true)
  | 11 => ("SportsHouse$Title", "cap", "[I", true)
  | 12 => ("SportsHouse$Title", "load", "[I", true)
  | 13 => ("SportsHouse$Title", "via", "[I", true)
  | 14 => ("SportsHouse$Title", "queue", "[I", true)
  | _ => ("SportsHouse$Title", "slack", "[I", false)
def tyX9 : Nat → FieldType := fun k => match k with
  | 0 => .object "SportsHouse$Season"
  | 1 => .object "SportsHouse$Standings"
  | 2 => .int
  | 3 => .int
  | 4 => .array .int
  | 5 => .object "SportsHouse$Competition"
  | 6 => .int
  | 7 => .array .int
  | 8 => .array .int
  | 9 => .int
  | 10 => .array .int
  | 11 => .array .int
  | 12 => .array .int
  | 13 => .array .int
  | 14 => .array .int
  | _ => .array .int
abbrev wsX90 : List Cond := u_ws RX9 TX9 16
theorem nmX9 : ∀ a, a < 16 → ∀ b, b < 16 → a ≠ b → (TX9 a).2.1 ≠ (TX9 b).2.1 := by decide +kernel
theorem tyX9_ok : ∀ k, k < 16 → parseFieldDescriptor (TX9 k).2.2.1 = some (tyX9 k) := by decide +kernel
def RX10 : String := "SportsHouse"
def TX10 : u_T := fun k => match k with
  | 0 => ("SportsHouse", "text", "LSportsHouse$RuleText;", true)
  | 1 => ("SportsHouse", "things", "LSportsHouse$Things;", true)
  | 2 => ("SportsHouse", "season", "LSportsHouse$Season;", true)
  | 3 => ("SportsHouse", "standings", "LSportsHouse$Standings;", true)
  | 4 => ("SportsHouse", "title", "LSportsHouse$Title;", true)
  | 5 => ("SportsHouse", "lots", "LSportsHouse$Lots;", true)
  | _ => ("SportsHouse", "referees", "LSportsHouse$Referees;", true)
def tyX10 : Nat → FieldType := fun k => match k with
  | 0 => .object "SportsHouse$RuleText"
  | 1 => .object "SportsHouse$Things"
  | 2 => .object "SportsHouse$Season"
  | 3 => .object "SportsHouse$Standings"
  | 4 => .object "SportsHouse$Title"
  | 5 => .object "SportsHouse$Lots"
  | _ => .object "SportsHouse$Referees"
abbrev wsX100 : List Cond := u_ws RX10 TX10 7
theorem nmX10 : ∀ a, a < 7 → ∀ b, b < 7 → a ≠ b → (TX10 a).2.1 ≠ (TX10 b).2.1 := by decide +kernel
theorem tyX10_ok : ∀ k, k < 7 → parseFieldDescriptor (TX10 k).2.2.1 = some (tyX10 k) := by decide +kernel
def RX11 : String := "SportsHouseModel"
def TX11 : u_T := fun k => match k with
  | 0 => ("SportsHouseModel", "text", "[I", true)
  | 1 => ("SportsHouseModel", "length", "I", false)
  | 2 => ("SportsHouseModel", "faultAt", "I", false)
  | 3 => ("SportsHouseModel", "today", "I", false)
  | 4 => ("SportsHouseModel", "fresh", "[I", true)
  | 5 => ("SportsHouseModel", "rules", "[I", true)
  | 6 => ("SportsHouseModel", "competitions", "I", false)
  | 7 => ("SportsHouseModel", "entrants", "[I", true)
  | 8 => ("SportsHouseModel", "entered", "[I", true)
  | 9 => ("SportsHouseModel", "planned", "[Z", true)
  | 10 => ("SportsHouseModel", "firstOf", "[I", true)
  | 11 => ("SportsHouseModel", "manyOf", "[I", true)
  | 12 => ("SportsHouseModel", "clubs", "I", false)
  | 13 => ("SportsHouseModel", "stadiums", "[I", true)
  | 14 => ("SportsHouseModel", "countries", "[I", true)
  | 15 => ("SportsHouseModel", "persons", "I", false)
  | 16 => ("SportsHouseModel", "spans", "I", false)
  | 17 => ("SportsHouseModel", "spanPerson", "[I", true)
  | 18 => ("SportsHouseModel", "spanClub", "[I", true)
  | 19 => ("SportsHouseModel", "spanFrom", "[I", true)
  | 20 => ("SportsHouseModel", "spanTo", "[I", true)
  | 21 => ("SportsHouseModel", "officials", "I", false)
  | 22 => ("SportsHouseModel", "homes", "[I", true)
  | 23 => ("SportsHouseModel", "officialCountries", "[I", true)
  | 24 => ("SportsHouseModel", "deducted", "I", false)
  | 25 => ("SportsHouseModel", "deductComp", "[I", true)
  | 26 => ("SportsHouseModel", "deductClub", "[I", true)
  | 27 => ("SportsHouseModel", "deductPoints", "[I", true)
  | 28 => ("SportsHouseModel", "deductDay", "[I", true)
  | 29 => ("SportsHouseModel", "matches", "I", false)
  | 30 => ("SportsHouseModel", "mComp", "[I", true)
  | 31 => ("SportsHouseModel", "mRound", "[I", true)
  | 32 => ("SportsHouseModel", "mHome", "[I", true)
  | 33 => ("SportsHouseModel", "mAway", "[I", true)
  | 34 => ("SportsHouseModel", "mDay", "[I", true)
  | 35 => ("SportsHouseModel", "mWhat", "[I", true)
  | 36 => ("SportsHouseModel", "mScore0", "[I", true)
  | 37 => ("SportsHouseModel", "mScore1", "[I", true)
  | 38 => ("SportsHouseModel", "mOfficial", "[I", true)
  | 39 => ("SportsHouseModel", "sheetMany", "[I", true)
  | 40 => ("SportsHouseModel", "sheetPerson", "[I", true)
  | 41 => ("SportsHouseModel", "sheetStands", "[I", true)
  | 42 => ("SportsHouseModel", "sheetYellows", "[I", true)
  | 43 => ("SportsHouseModel", "sheetSent", "[Z", true)
  | 44 => ("SportsHouseModel", "fieldMany", "[I", true)
  | 45 => ("SportsHouseModel", "fieldSlot", "[I", true)
  | 46 => ("SportsHouseModel", "live", "[I", true)
  | 47 => ("SportsHouseModel", "rowsMade", "I", false)
  | 48 => ("SportsHouseModel", "rKind", "[I", true)
  | 49 => ("SportsHouseModel", "rSide", "[I", true)
  | 50 => ("SportsHouseModel", "rPerson", "[I", true)
  | 51 => ("SportsHouseModel", "rOther", "[I", true)
  | 52 => ("SportsHouseModel", "rNext", "[I", true)
  | 53 => ("SportsHouseModel", "rowFirst", "[I", true)
  | 54 => ("SportsHouseModel", "rowMany", "[I", true)
  | 55 => ("SportsHouseModel", "asideFirst", "[I", true)
  | 56 => ("SportsHouseModel", "asideMany", "[I", true)
  | 57 => ("SportsHouseModel", "at", "I", false)
  | 58 => ("SportsHouseModel", "tKind", "I", false)
  | 59 => ("SportsHouseModel", "tFrom", "I", false)
  | 60 => ("SportsHouseModel", "tTo", "I", false)
  | 61 => ("SportsHouseModel", "tValue", "I", false)
  | 62 => ("SportsHouseModel", "badNumber", "I", false)
  | 63 => ("SportsHouseModel", "badAt", "I", false)
  | 64 => ("SportsHouseModel", "statementWords", "[I", true)
  | 65 => ("SportsHouseModel", "sportWords", "[I", true)
  | 66 => ("SportsHouseModel", "keyWords", "[I", true)
  | 67 => ("SportsHouseModel", "least", "[I", true)
  | 68 => ("SportsHouseModel", "greatest", "[I", true)
  | 69 => ("SportsHouseModel", "toldAlready", "[Z", true)
  | 70 => ("SportsHouseModel", "keyTold", "[Z", true)
  | 71 => ("SportsHouseModel", "gone", "[I", true)
  | 72 => ("SportsHouseModel", "wasDay", "[I", true)
  | 73 => ("SportsHouseModel", "goneMany", "I", false)
  | 74 => ("SportsHouseModel", "movedRow", "[I", true)
  | 75 => ("SportsHouseModel", "movedMany", "I", false)
  | 76 => ("SportsHouseModel", "told", "[I", true)
  | 77 => ("SportsHouseModel", "standingClub", "[I", true)
  | 78 => ("SportsHouseModel", "partedBy", "[I", true)
  | 79 => ("SportsHouseModel", "standingMany", "I", false)
  | 80 => ("SportsHouseModel", "supposes", "Z", false)
  | 81 => ("SportsHouseModel", "supposed", "[I", true)
  | 82 => ("SportsHouseModel", "result0", "I", false)
  | 83 => ("SportsHouseModel", "result1", "I", false)
  | 84 => ("SportsHouseModel", "says", "[I", true)
  | 85 => ("SportsHouseModel", "groupBits", "I", false)
  | 86 => ("SportsHouseModel", "pile", "[I", true)
  | 87 => ("SportsHouseModel", "piled", "I", false)
  | 88 => ("SportsHouseModel", "witnessOf", "I", false)
  | 89 => ("SportsHouseModel", "witnessed", "[I", true)
  | 90 => ("SportsHouseModel", "cutBits", "I", false)
  | 91 => ("SportsHouseModel", "points", "[I", true)
  | 92 => ("SportsHouseModel", "leftOf", "[I", true)
  | 93 => ("SportsHouseModel", "spare", "[I", true)
  | 94 => ("SportsHouseModel", "between", "[I", true)
  | 95 => ("SportsHouseModel", "best", "I", false)
  | 96 => ("SportsHouseModel", "slack", "[I", true)
  | 97 => ("SportsHouseModel", "open", "[I", true)
  | 98 => ("SportsHouseModel", "isDraw", "Z", false)
  | 99 => ("SportsHouseModel", "groups", "I", false)
  | 100 => ("SportsHouseModel", "limit", "I", false)
  | 101 => ("SportsHouseModel", "potOf", "[I", true)
  | 102 => ("SportsHouseModel", "groupOf", "[I", true)
  | 103 => ("SportsHouseModel", "seed", "I", false)
  | 104 => ("SportsHouseModel", "trying", "[I", true)
  | 105 => ("SportsHouseModel", "tried", "[I", true)
  | 106 => ("SportsHouseModel", "dayMatch", "[I", true)
  | 107 => ("SportsHouseModel", "dayMany", "I", false)
  | 108 => ("SportsHouseModel", "holds", "[I", true)
  | 109 => ("SportsHouseModel", "far", "[I", true)
  | 110 => ("SportsHouseModel", "comesBy", "[I", true)
  | 111 => ("SportsHouseModel", "hasOne", "[I", true)
  | 112 => ("SportsHouseModel", "foundMany", "I", false)
  | _ => ("SportsHouseModel", "foundSum", "I", false)
def tyX11 : Nat → FieldType := fun k => match k with
  | 0 => .array .int
  | 1 => .int
  | 2 => .int
  | 3 => .int
  | 4 => .array .int
  | 5 => .array .int
  | 6 => .int
  | 7 => .array .int
  | 8 => .array .int
  | 9 => .array .boolean
  | 10 => .array .int
  | 11 => .array .int
  | 12 => .int
  | 13 => .array .int
  | 14 => .array .int
  | 15 => .int
  | 16 => .int
  | 17 => .array .int
  | 18 => .array .int
  | 19 => .array .int
  | 20 => .array .int
  | 21 => .int
  | 22 => .array .int
  | 23 => .array .int
  | 24 => .int
  | 25 => .array .int
  | 26 => .array .int
  | 27 => .array .int
  | 28 => .array .int
  | 29 => .int
  | 30 => .array .int
  | 31 => .array .int
  | 32 => .array .int
  | 33 => .array .int
  | 34 => .array .int
  | 35 => .array .int
  | 36 => .array .int
  | 37 => .array .int
  | 38 => .array .int
  | 39 => .array .int
  | 40 => .array .int
  | 41 => .array .int
  | 42 => .array .int
  | 43 => .array .boolean
  | 44 => .array .int
  | 45 => .array .int
  | 46 => .array .int
  | 47 => .int
  | 48 => .array .int
  | 49 => .array .int
  | 50 => .array .int
  | 51 => .array .int
  | 52 => .array .int
  | 53 => .array .int
  | 54 => .array .int
  | 55 => .array .int
  | 56 => .array .int
  | 57 => .int
  | 58 => .int
  | 59 => .int
  | 60 => .int
  | 61 => .int
  | 62 => .int
  | 63 => .int
  | 64 => .array .int
  | 65 => .array .int
  | 66 => .array .int
  | 67 => .array .int
  | 68 => .array .int
  | 69 => .array .boolean
  | 70 => .array .boolean
  | 71 => .array .int
  | 72 => .array .int
  | 73 => .int
  | 74 => .array .int
  | 75 => .int
  | 76 => .array .int
  | 77 => .array .int
  | 78 => .array .int
  | 79 => .int
  | 80 => .boolean
  | 81 => .array .int
  | 82 => .int
  | 83 => .int
  | 84 => .array .int
  | 85 => .int
  | 86 => .array .int
  | 87 => .int
  | 88 => .int
  | 89 => .array .int
  | 90 => .int
  | 91 => .array .int
  | 92 => .array .int
  | 93 => .array .int
  | 94 => .array .int
  | 95 => .int
  | 96 => .array .int
  | 97 => .array .int
  | 98 => .boolean
  | 99 => .int
  | 100 => .int
  | 101 => .array .int
  | 102 => .array .int
  | 103 => .int
  | 104 => .array .int
  | 105 => .array .int
  | 106 => .array .int
  | 107 => .int
  | 108 => .array .int
  | 109 => .array .int
  | 110 => .array .int
  | 111 => .array .int
  | 112 => .int
  | _ => .int
abbrev wsX110 : List Cond := u_ws RX11 TX11 114
theorem nmX11 : ∀ a, a < 114 → ∀ b, b < 114 → a ≠ b → (TX11 a).2.1 ≠ (TX11 b).2.1 := by decide +kernel
theorem tyX11_ok : ∀ k, k < 114 → parseFieldDescriptor (TX11 k).2.2.1 = some (tyX11 k) := by decide +kernel
def RL : String := "SportsHouseLaw"
def RJ7 : String := "java/util/Arrays"
abbrev vwCl : List vw_C := [(RX0, TX0, 9), (RX1, TX1, 16), (RX2, TX2, 11), (RX3, TX3, 18), (RX4, TX4, 5), (RX5, TX5, 10), (RX6, TX6, 16), (RX7, TX7, 14), (RX8, TX8, 14), (RX9, TX9, 16), (RX10, TX10, 7), (RX11, TX11, 114)]
/-- the words that go on holding -/
def lw_g : List Cond := lw_tbl.filter goodWord
theorem lw_at {w : Cond} (i : Nat) (h : tables_1[i]? = some w) (hg : goodWord w = true) : w ∈ lw_g := List.mem_filter.mpr ⟨List.mem_append_right _ (List.mem_of_getElem? h), hg⟩
theorem lw_any {w : Cond} (i : Nat) (h : tables_1[i]? = some w) : w ∈ lw_tbl := List.mem_append_right _ (List.mem_of_getElem? h)
theorem lw_sub (ws : List Cond) (ps : List Nat) (hp : ws = ps.filterMap (fun i => tables_1[i]?)) (hg : ws.all goodWord = true) : ∀ w ∈ ws, w ∈ lw_g := by
  intro w hw
  have h1 := List.all_eq_true.mp hg w hw
  rw [hp] at hw
  obtain ⟨i, -, hi⟩ := List.mem_filterMap.mp hw
  exact lw_at i hi h1
theorem lw_sel (i : Nat) {q : MethodName × Nat} (h : lw_privs[i]? = some q) : Cond.selects q.1.cls q.1 q.1 ∈ lw_g := List.mem_filter.mpr ⟨List.mem_append_left _ (List.mem_map.mpr ⟨q, List.mem_of_getElem? h, rfl⟩), rfl⟩
theorem lw_good : ∀ w ∈ lw_g, (w.onTables && w.keeps) = true ∨ ∃ ty, w = .arrayClass ty := fun w h => good_of_word (List.mem_filter.mp h).2
/-- words of another kind that the methods need -/
def ex_E (U : State) : Prop := va_AO "SportsHouse$Competition" U ∧ va_AO "SportsHouse$Match" U ∧ va_Nw (.castable "[I" "java/lang/Cloneable") U ∧ va_Nw (.methodLinkNest "SportsHouse" 11 ⟨"SportsHouse$RuleText", "<init>", "()V"⟩ "SportsHouse") U ∧ va_Nw (.methodLinkNest "SportsHouse" 18 ⟨"SportsHouse$Things", "<init>", "()V"⟩ "SportsHouse") U
theorem ex_warm {s U : State} (hW : s.WarmedH U.vm) (h : ex_E s) : ex_E U := ⟨h.1.moved hW.alike, h.2.1.moved hW.alike, h.2.2.1.warmC hW, h.2.2.2.1.warmM hW, h.2.2.2.2.warmM hW⟩
theorem ex_same {s U : State} (hW : s.vm = U.vm) (h : ex_E s) : ex_E U := ⟨h.1.moved (by rw [hW]; exact Vm.Alike.refl _), h.2.1.moved (by rw [hW]; exact Vm.Alike.refl _), h.2.2.1.same rfl hW, h.2.2.2.1.same rfl hW, h.2.2.2.2.same rfl hW⟩
theorem inX0 : ∀ w ∈ wsX00, w ∈ lw_g := lw_sub _ [594, 596, 598, 600, 602, 604, 606, 608, 610] (by decide +kernel) (by decide +kernel)
theorem inX1 : ∀ w ∈ wsX10, w ∈ lw_g := lw_sub _ [350, 352, 354, 356, 358, 360, 362, 364, 366, 368, 370, 372, 374, 376, 378, 380] (by decide +kernel) (by decide +kernel)
theorem inX2 : ∀ w ∈ wsX20, w ∈ lw_g := lw_sub _ [746, 748, 750, 752, 754, 756, 758, 760, 762, 764, 766] (by decide +kernel) (by decide +kernel)
theorem inX3 : ∀ w ∈ wsX30, w ∈ lw_g := lw_sub _ [937, 939, 941, 943, 945, 947, 949, 951, 953, 955, 957, 959, 961, 963, 965, 967, 969, 971] (by decide +kernel) (by decide +kernel)
theorem inX4 : ∀ w ∈ wsX40, w ∈ lw_g := lw_sub _ [394, 396, 398, 400, 402] (by decide +kernel) (by decide +kernel)
theorem inX5 : ∀ w ∈ wsX50, w ∈ lw_g := lw_sub _ [51, 53, 55, 57, 59, 61, 63, 65, 67, 69] (by decide +kernel) (by decide +kernel)
theorem inX6 : ∀ w ∈ wsX60, w ∈ lw_g := lw_sub _ [172, 174, 176, 178, 180, 182, 184, 186, 188, 190, 192, 194, 196, 198, 200, 202] (by decide +kernel) (by decide +kernel)
theorem inX7 : ∀ w ∈ wsX70, w ∈ lw_g := lw_sub _ [229, 231, 233, 235, 237, 239, 241, 243, 245, 247, 249, 251, 253, 255] (by decide +kernel) (by decide +kernel)
theorem inX8 : ∀ w ∈ wsX80, w ∈ lw_g := lw_sub _ [107, 109, 111, 113, 115, 117, 119, 121, 123, 125, 127, 129, 131, 133] (by decide +kernel) (by decide +kernel)
theorem inX9 : ∀ w ∈ wsX90, w ∈ lw_g := lw_sub _ [287, 289, 291, 293, 295, 297, 299, 301, 303, 305, 307, 309, 311, 313, 315, 317] (by decide +kernel) (by decide +kernel)
theorem inX10 : ∀ w ∈ wsX100, w ∈ lw_g := lw_sub _ [412, 414, 416, 418, 420, 422, 424] (by decide +kernel) (by decide +kernel)
theorem inX11 : ∀ w ∈ wsX110, w ∈ lw_g := lw_sub _ [1541, 1543, 1545, 1547, 1549, 1551, 1553, 1555, 1557, 1559, 1561, 1563, 1565, 1567, 1569, 1571, 1573, 1575, 1577, 1579, 1581, 1583, 1585, 1587, 1589, 1591, 1593, 1595, 1597, 1599, 1601, 1603, 1605, 1607, 1609, 1611, 1613, 1615, 1617, 1619, 1621, 1623, 1625, 1627, 1629, 1631, 1633, 1635, 1637, 1639, 1641, 1643, 1645, 1647, 1649, 1651, 1653, 1655, 1657, 1659, 1661, 1663, 1665, 1667, 1669, 1671, 1673, 1675, 1677, 1679, 1681, 1683, 1685, 1687, 1689, 1691, 1693, 1695, 1697, 1699, 1701, 1703, 1705, 1707, 1709, 1711, 1713, 1715, 1717, 1719, 1721, 1723, 1725, 1727, 1729, 1731, 1733, 1735, 1737, 1739, 1741, 1743, 1745, 1747, 1749, 1751, 1753, 1755, 1757, 1759, 1761, 1763, 1765, 1767] (by decide +kernel) (by decide +kernel)
theorem vi_0 : vwCl[0]? = some (RX0, TX0, 9) := rfl
theorem vi_1 : vwCl[1]? = some (RX1, TX1, 16) := rfl
theorem vi_2 : vwCl[2]? = some (RX2, TX2, 11) := rfl
theorem vi_3 : vwCl[3]? = some (RX3, TX3, 18) := rfl
theorem vi_4 : vwCl[4]? = some (RX4, TX4, 5) := rfl
theorem vi_5 : vwCl[5]? = some (RX5, TX5, 10) := rfl
theorem vi_6 : vwCl[6]? = some (RX6, TX6, 16) := rfl
theorem vi_7 : vwCl[7]? = some (RX7, TX7, 14) := rfl
theorem vi_8 : vwCl[8]? = some (RX8, TX8, 14) := rfl
theorem vi_9 : vwCl[9]? = some (RX9, TX9, 16) := rfl
theorem vi_10 : vwCl[10]? = some (RX10, TX10, 7) := rfl
theorem vi_11 : vwCl[11]? = some (RX11, TX11, 114) := rfl
theorem gi_c {c0 : Cond} (h : c0 ∈ lw_g) : GoodIn lw_g (c0 :: lw_g) := fun w hw => (List.mem_cons.mp hw).elim (fun e => e ▸ ⟨h, lw_good _ h⟩) (fun h => ⟨h, lw_good _ h⟩)
theorem gi_V {own : String} {i : Nat} {C : String} {y : MethodName} {c0 : Cond} (h1 : Cond.methodLink own i y ∈ lw_g) (h2 : Cond.instanceMethod y ∈ lw_g) (h3 : Cond.selects C y y ∈ lw_g) (h4 : Cond.initialized C ∈ lw_g) (hc : c0 ∈ lw_g) : GoodIn lw_g (wsV own i C y (c0 :: lw_g)) := by
  intro w hw
  unfold wsV at hw
  rcases List.mem_append.mp hw with h | h
  · have h9 : w ∈ lw_g := by
      simp only [List.mem_cons, List.not_mem_nil, or_false] at h
      rcases h with rfl | rfl | rfl | rfl <;> assumption
    exact ⟨h9, lw_good _ h9⟩
  · exact gi_c hc w h
theorem gi_S {own : String} {i : Nat} {y : MethodName} {c0 : Cond} (h1 : Cond.methodLink own i y ∈ lw_g) (h2 : Cond.static y ∈ lw_g) (h4 : Cond.initialized y.cls ∈ lw_g) (hc : c0 ∈ lw_g) : GoodIn lw_g (va_wsS own i y (c0 :: lw_g)) := by
  intro w hw
  unfold va_wsS at hw
  rcases List.mem_append.mp hw with h | h
  · have h9 : w ∈ lw_g := by
      simp only [List.mem_cons, List.not_mem_nil, or_false] at h
      rcases h with rfl | rfl | rfl <;> assumption
    exact ⟨h9, lw_good _ h9⟩
  · exact gi_c hc w h
-- fields of an object, a put behind a put
theorem gs_eq {fs : List Value} {k : Nat} {v : Value} (h : k < fs.length) : (fs.set k v)[k]? = some v := by simp [h]
theorem gs_ne {fs : List Value} {k j : Nat} {v w : Value} (h : k ≠ j) (hj : fs[j]? = some w) : (fs.set k v)[j]? = some w := by rw [List.getElem?_set_ne h]; exact hj
theorem gs_len {fs : List Value} {k n : Nat} {v : Value} (h : fs.length = n) : (fs.set k v).length = n := by rw [List.length_set]; exact h
theorem gs_lt {fs : List Value} {k n : Nat} (h : fs.length = n) (hk : k < n) : k < fs.length := by rw [h]; exact hk
-- a method's start: its world's cells are apart
abbrev ro_P (dC : Nat → ClassId) (dI : Nat → Nat → Nat) (ws : va_W) (tys : List (ClassId × FieldType)) (sz : Nat) (av : List Value) : Array Value → State → Prop := va_Pc av (fun U => U.heap.size = sz ∧ va_P (dC, dI) vwCl ws U.heap ∧ va_K (dC, dI) vwCl tys U ∧ va_D (fun _ => True) ws ∧ ex_E U)
-- an int that is told, nothing else said of the cells
abbrev ri_Q (v : Int32) (A : Nat → Prop) : Array Value → State → Outcome → State → Prop := va_Qi (fun (r : Int32) (_ : Unit) => r = v) (fun _ _ => True) A
theorem ro_blind {dC : Nat → ClassId} {dI : Nat → Nat → Nat} {ws : va_W} {tys : List (ClassId × FieldType)} {sz : Nat} {av : List Value} : FrameBlind (ro_P dC dI ws tys sz av) := fun a U g mk q => by
  obtain ⟨q0, q1, qP, qK, qD, qE⟩ := q
  exact ⟨q0, q1, qP, va_K.moved (u := U) (U := U.calling g mk a) (Vm.Alike.refl U.vm) qK, qD, ex_same (s := U) (U := U.calling g mk a) rfl qE⟩
theorem ro_entry {l : Launch} {y : MethodName} {cc : ByteArray} {maxL : Nat} {ret : Option FieldType} {rm : Room} {dC : Nat → ClassId} {dI : Nat → Nat → Nat} {ws : va_W} {tys : List (ClassId × FieldType)} {sz : Nat} {av : List Value} {Qc : Array Value → State → Outcome → State → Prop} {mc ms : Nat} {A : Nat → Prop} (hy : plainName y.cls = true) (hav : (lg_sl av).length ≤ maxL)
    (body : ∀ (p : Program) (e : Env) (s : State) (m : MethodId) (below : List Frame) (meth : Method) (c : Code) (ls : Array Slot), p.tables.exec = Jvm.exec → c.code = cc → meth.sig.returnType = ret → meth.locks = false → (∀ w ∈ lw_g, w.before av.toArray s = true) → s.vm.findClass y.cls = some m.cls → meth.name = y.name → c.maxLocals = maxL → s.heap.size = sz → va_P (dC, dI) vwCl ws s.heap → va_K (dC, dI) vwCl tys s → va_D (fun _ => True) ws → ex_E s → lv_has ls maxL (lv_args 0 av) →
      W p l e rm s m av.toArray below meth c s.heap [] 0 0 (MQ below Qc av.toArray s mc ms A) (F0 m 0 ls [])) : Met l y (.code y cc maxL ret :: lw_g) rm (ro_P dC dI ws tys sz av) Qc mc ms A := by
  refine Met.ofW (cc := cc) (maxL := maxL) (ret := ret) hy rfl ?_
  intro p e s m args below meth c s₁ B hml hv
  obtain ⟨rfl, hsz, hP, hK, hD0, hE⟩ := hv
  have hts := atoms_spec (ws := .code y cc maxL ret :: lw_g) B.pre
  have hl := lv_entry av (n := maxL) hav
  rw [lg_entry_eq]
  exact body p e s m below meth c _ B.exec B.bytes B.returns B.notSynchronized (fun w h => hts w (List.mem_cons_of_mem _ h)) (findClass_of_methodNamed B.named) (name_of_methodNamed B.named B.method).1 hml hsz hP hK hD0 hE hl
section ROC
variable {p : Program} {l : Launch} {e : Env} {R : Room} {s : State} {m : MethodId} {args : Array Value} {below : List Frame} {meth : Method} {c : Code} {H : Heap} {locs : List Loc} {cells slots : Nat} {Q : State → Prop} {cc bytes : ByteArray} {pc nL maxL index n : Nat} {ls : Array Slot} {rest As : List Value} {A0 : Nat → Prop} {H0 : Heap} {dC : Nat → ClassId} {dI : Nat → Nat → Nat} {ws wc : va_W} {tys tysc : List (ClassId × FieldType)} {own C : String} {y : MethodName} {ret : Option FieldType} {rm : Room} {b : Nat} {v : Int32}
theorem ro_notin {q : Nat} (h : q < H.size) : ¬ va_A [] H.size q := by
  rintro (⟨k, e9, h9⟩ | h9)
  · simp at h9
  · exact absurd h (Nat.not_lt.mpr h9)
theorem ro_in {q : Nat} (hS : va_S A0 H0 H locs) (hA : ∀ q, H0.size ≤ q → A0 q) (h : va_A [] H.size q) : A0 q := by
  rcases h with ⟨k, e9, h9⟩ | h9
  · simp at h9
  · exact hA q (Nat.le_trans hS.1 h9)
/-- a call of a method that changes no cell: by invokevirtual -/
theorem ro_callV (hx : p.tables.exec = Jvm.exec) (hb : c.code = cc) (hml : c.maxLocals = nL) (hown : s.vm.findClass own = some m.cls) (ht : ∀ w ∈ lw_g, w.before args s = true) (hK : va_K (dC, dI) vwCl tys s) (hP : va_P (dC, dI) vwCl ws H) (hD : va_D (fun _ => True) ws) (hS : va_S A0 H0 H locs) (hA : ∀ q, H0.size ≤ q → A0 q) (hE : ex_E s)
    (hM : Met l y (.code y bytes maxL ret :: lw_g) rm (ro_P dC dI wc tysc H.size (.ref b :: As)) (ri_Q v (va_A [] H.size)) 0 0 (va_A [] H.size)) (isC isT : List Nat) (hC : isC.map (fun i => ws[i]?) = wc.map some) (hn : va_nd isC = true) (hT : isT.filterMap (fun i => tys[i]?) = tysc) (q0 : Nat) {ci : Nat} {fs : List Value} {q : vw_C} (hc : vwCl[ci]? = some q) (hq : q.1 = C) (he : ws[q0]? = some (b, .inr (ci, fs)))
    (hG : GoodIn lw_g (wsV own index C y (.code y bytes maxL ret :: lw_g))) (hrc : rm.cells = 0) (hrs : rm.slots = 0) (hd : y.cls = C ∧ y.cls ≠ "java/lang/invoke/MethodHandle" ∧ y.cls ≠ "java/lang/invoke/VarHandle" ∧ (parseMethodDescriptor y.desc).map (fun d => d.parameters.length) = some n) (hR : rm.frames + 1 ≤ R.frames ∧ 8 + (maxL + 11) + rm.locals ≤ R.locals)
    (hAn : As.length = n) (hsize : ls.size = nL) (hroom : (rest.map fun v => v.category).sum ≤ 8) (hf : cells ≤ R.cells ∧ slots ≤ R.slots) {st0 : List Value} (hst : st0 = As.reverse ++ .ref b :: rest) (hdg : decode cc pc = .ok (.invokevirtual index, 3))
    (kk : ∀ (H1 : Heap) (locs1 : List Loc), va_P (dC, dI) vwCl ws H1 → va_S A0 H0 H1 locs1 → W p l e R s m args below meth c H1 locs1 cells slots Q (F0 m (pc + 3) ls (.int v :: rest))) : W p l e R s m args below meth c H locs cells slots Q (F0 m pc ls st0) := by
  subst hst
  have hPc : va_P (dC, dI) vwCl wc H := fun k x hk => by
    have h1 : (isC.map (fun i => ws[i]?))[k]? = some (some x) := by rw [hC, List.getElem?_map, hk]; rfl
    rw [List.getElem?_map] at h1
    cases hi : isC[k]? with
    | none => rw [hi] at h1; cases h1
    | some i => rw [hi] at h1; exact hP i x (Option.some.inj h1)
  have hDc := hD.sub isC hn hC
  have hKc := hK.sub isT hT
  subst hq
  have hrecv := va_recv hK hP hc he
  refine va_calli (va_runV (As := As) (rest := rest) ⟨hx, hb, hml, hown, ht⟩ hM (cwV n ht hG rfl hrc hrs hd hR) ⟨ro_blind, hrecv, fun U hU hW => ⟨rfl, by rw [hU], by rw [hU]; exact hPc, va_K.moved hW.alike hKc, hDc, ex_warm hW hE⟩⟩ rfl hAn hsize rfl (lv_room hroom) hdg hf) hS (fun q _ h => ro_in hS hA h) (fun q h => ro_in hS hA h) (fun r u t H1 locs1 ht1 hvm hw hB hz1 hk1 hS1 => ?_)
  subst hw
  exact kk H1 locs1 (hP.kept (fun k q hq => hk1 q.1 (hP k q hq).lt (ro_notin (hP k q hq).lt))) hS1
/-- the same, by invokestatic, of a method that reads no cell -/
theorem ro_callS (hx : p.tables.exec = Jvm.exec) (hb : c.code = cc) (hml : c.maxLocals = nL) (hown : s.vm.findClass own = some m.cls) (ht : ∀ w ∈ lw_g, w.before args s = true) (hK : va_K (dC, dI) vwCl tys s) (hP : va_P (dC, dI) vwCl ws H) (hS : va_S A0 H0 H locs) (hA : ∀ q, H0.size ≤ q → A0 q) (hE : ex_E s)
    (hM : Met l y (.code y bytes maxL ret :: lw_g) rm (ro_P dC dI [] [] H.size As) (ri_Q v (va_A [] H.size)) 0 0 (va_A [] H.size))
    (hG : GoodIn lw_g (va_wsS own index y (.code y bytes maxL ret :: lw_g))) (hrc : rm.cells = 0) (hrs : rm.slots = 0) (hd : y.cls ≠ "java/lang/invoke/MethodHandle" ∧ y.cls ≠ "java/lang/invoke/VarHandle" ∧ (parseMethodDescriptor y.desc).map (fun d => d.parameters.length) = some n) (hR : rm.frames + 1 ≤ R.frames ∧ 8 + (maxL + 11) + rm.locals ≤ R.locals)
    (hAn : As.length = n) (hsize : ls.size = nL) (hroom : (rest.map fun v => v.category).sum ≤ 8) (hf : cells ≤ R.cells ∧ slots ≤ R.slots) {st0 : List Value} (hst : st0 = As.reverse ++ rest) (hdg : decode cc pc = .ok (.invokestatic index, 3))
    (kk : ∀ (H1 : Heap) (locs1 : List Loc), va_P (dC, dI) vwCl ws H1 → va_S A0 H0 H1 locs1 → W p l e R s m args below meth c H1 locs1 cells slots Q (F0 m (pc + 3) ls (.int v :: rest))) : W p l e R s m args below meth c H locs cells slots Q (F0 m pc ls st0) := by
  subst hst
  have hKc := hK.sub (tys' := []) [] rfl
  refine va_calli (va_runS (As := As) (rest := rest) ⟨hx, hb, hml, hown, ht⟩ hM (va_cwS n ht hG rfl hrc hrs hd hR) ⟨ro_blind, fun U hU hW => ⟨rfl, by rw [hU], fun k q h => by simp at h, va_K.moved hW.alike hKc, ⟨fun i j p q h => by simp at h, fun k q h => by simp at h⟩, ex_warm hW hE⟩⟩ rfl hAn hsize rfl (lv_room hroom) hdg hf) hS (fun q _ h => ro_in hS hA h) (fun q h => ro_in hS hA h) (fun r u t H1 locs1 ht1 hvm hw hB hz1 hk1 hS1 => ?_)
  subst hw
  exact kk H1 locs1 (hP.kept (fun k q hq => hk1 q.1 (hP k q hq).lt (ro_notin (hP k q hq).lt))) hS1
end ROC
end
section
abbrev cX10_isBelow : ByteArray := prog_1_method_51_code
def yX10_isBelow : MethodName := ⟨RX10, "isBelow", "(II)Z"⟩
theorem dX10_isBelow_0 : decode cX10_isBelow 0 = .ok (.iload_n 0, 1) := by decide +kernel
theorem dX10_isBelow_1 : decode cX10_isBelow 1 = .ok (.ifCond .lt 12, 3) := by decide +kernel
theorem dX10_isBelow_13 : decode cX10_isBelow 13 = .ok (.iconst 0, 1) := by decide +kernel
theorem dX10_isBelow_14 : decode cX10_isBelow 14 = .ok (.ireturn, 1) := by decide +kernel
theorem dX10_isBelow_4 : decode cX10_isBelow 4 = .ok (.iload_n 0, 1) := by decide +kernel
theorem dX10_isBelow_5 : decode cX10_isBelow 5 = .ok (.iload_n 1, 1) := by decide +kernel
theorem dX10_isBelow_6 : decode cX10_isBelow 6 = .ok (.if_icmp .ge 7, 3) := by decide +kernel
theorem dX10_isBelow_9 : decode cX10_isBelow 9 = .ok (.iconst 1, 1) := by decide +kernel
theorem dX10_isBelow_10 : decode cX10_isBelow 10 = .ok (.goto 4, 3) := by decide +kernel
def sp_X10_isBelow (na : Int32) (nb : Int32) : Int32 := if na < 0 then 0 else if nb ≤ na then 0 else 1
set_option maxHeartbeats 4000000 in
set_option maxRecDepth 100000 in
theorem ct_X10_isBelow (l : Launch) (dC : Nat → ClassId) (dI : Nat → Nat → Nat)  (sz : Nat) (na : Int32) (nb : Int32) : Met l yX10_isBelow (.code yX10_isBelow cX10_isBelow 2 (some .boolean) :: lw_g) ({ frames := 0, cells := 0, slots := 0, locals := 0 }) (ro_P dC dI [] [] sz [.int na, .int nb]) (ri_Q (sp_X10_isBelow na nb) (va_A [] sz)) 0 0 (va_A [] sz) := by
  refine ro_entry (by decide) (Nat.le_of_ble_eq_true rfl) ?_
  intro p e s m below meth c ls hx hb hr hlocks ht hown hin hml hsz hP hK hD hE hl
  subst hsz
  have hS : va_S (va_A [] s.heap.size) s.heap s.heap [] := va_S.rf
  have hA : ∀ q, s.heap.size ≤ q → va_A [] s.heap.size q := fun q h => Or.inr h
  have hl : lv_has ls 2 [(0, .int na), (1, .int nb)] := hl
  have hown : s.vm.findClass RX10 = some m.cls := hown
  refine lv_iload_n hx hb dX10_isBelow_0 rfl (lv_at hl 0 rfl) ?_
  refine lv_if_lt (tgt := 13) hx hb dX10_isBelow_1 (by decide) (fun c1 => ?_) (fun c1 => ?_)
  · refine lv_iconst (v := 0) hx hb dX10_isBelow_13 (by decide) ?_
    exact W.zret (ty := .boolean) hx hb hr (by decide) (fun t ht9 hW => ⟨⟨_, (), rfl, (by unfold sp_X10_isBelow; rw [if_pos c1]), trivial⟩, hS.F ht9⟩) hS.2.2 dX10_isBelow_14
  · refine lv_iload_n hx hb dX10_isBelow_4 rfl (lv_at hl 0 rfl) ?_
    refine lv_iload_n hx hb dX10_isBelow_5 rfl (lv_at hl 1 rfl) ?_
    refine lv_icmp_ge (tgt := 13) hx hb dX10_isBelow_6 (by decide) (fun c2 => ?_) (fun c2 => ?_)
    · refine lv_iconst (v := 0) hx hb dX10_isBelow_13 (by decide) ?_
      exact W.zret (ty := .boolean) hx hb hr (by decide) (fun t ht9 hW => ⟨⟨_, (), rfl, (by unfold sp_X10_isBelow; rw [if_neg c1, if_pos c2]), trivial⟩, hS.F ht9⟩) hS.2.2 dX10_isBelow_14
    · refine lv_iconst (v := 1) hx hb dX10_isBelow_9 (by decide) ?_
      refine lv_goto (tgt := 14) hx hb dX10_isBelow_10 (by decide) ?_
      exact W.zret (ty := .boolean) hx hb hr (by decide) (fun t ht9 hW => ⟨⟨_, (), rfl, (by unfold sp_X10_isBelow; rw [if_neg c1, if_neg c2]), trivial⟩, hS.F ht9⟩) hS.2.2 dX10_isBelow_14
theorem sp_below0 (x : Int32) : sp_X10_isBelow x 0 = 0 := by
  unfold sp_X10_isBelow
  split
  · rfl
  · rename_i h
    rw [if_pos (Int32.not_lt.mp h)]
abbrev cX10_isDay : ByteArray := prog_1_method_49_code
def yX10_isDay : MethodName := ⟨RX10, "isDay", "(I)Z"⟩
theorem dX10_isDay_0 : decode cX10_isDay 0 = .ok (.iload_n 0, 1) := by decide +kernel
theorem dX10_isDay_1 : decode cX10_isDay 1 = .ok (.ifCond .lt 14, 3) := by decide +kernel
theorem dX10_isDay_15 : decode cX10_isDay 15 = .ok (.iconst 0, 1) := by decide +kernel
theorem dX10_isDay_16 : decode cX10_isDay 16 = .ok (.ireturn, 1) := by decide +kernel
theorem dX10_isDay_4 : decode cX10_isDay 4 = .ok (.iload_n 0, 1) := by decide +kernel
theorem dX10_isDay_5 : decode cX10_isDay 5 = .ok (.sipush 999, 3) := by decide +kernel
theorem dX10_isDay_8 : decode cX10_isDay 8 = .ok (.if_icmp .gt 7, 3) := by decide +kernel
theorem dX10_isDay_11 : decode cX10_isDay 11 = .ok (.iconst 1, 1) := by decide +kernel
theorem dX10_isDay_12 : decode cX10_isDay 12 = .ok (.goto 4, 3) := by decide +kernel
def sp_X10_isDay (na : Int32) : Int32 := if na < 0 then 0 else if 999 < na then 0 else 1
set_option maxHeartbeats 4000000 in
set_option maxRecDepth 100000 in
theorem ct_X10_isDay (l : Launch) (dC : Nat → ClassId) (dI : Nat → Nat → Nat)  (sz : Nat) (na : Int32) : Met l yX10_isDay (.code yX10_isDay cX10_isDay 1 (some .boolean) :: lw_g) ({ frames := 0, cells := 0, slots := 0, locals := 0 }) (ro_P dC dI [] [] sz [.int na]) (ri_Q (sp_X10_isDay na) (va_A [] sz)) 0 0 (va_A [] sz) := by
  refine ro_entry (by decide) (Nat.le_of_ble_eq_true rfl) ?_
  intro p e s m below meth c ls hx hb hr hlocks ht hown hin hml hsz hP hK hD hE hl
  subst hsz
  have hS : va_S (va_A [] s.heap.size) s.heap s.heap [] := va_S.rf
  have hA : ∀ q, s.heap.size ≤ q → va_A [] s.heap.size q := fun q h => Or.inr h
  have hl : lv_has ls 1 [(0, .int na)] := hl
  have hown : s.vm.findClass RX10 = some m.cls := hown
  refine lv_iload_n hx hb dX10_isDay_0 rfl (lv_at hl 0 rfl) ?_
  refine lv_if_lt (tgt := 15) hx hb dX10_isDay_1 (by decide) (fun c1 => ?_) (fun c1 => ?_)
  · refine lv_iconst (v := 0) hx hb dX10_isDay_15 (by decide) ?_
    exact W.zret (ty := .boolean) hx hb hr (by decide) (fun t ht9 hW => ⟨⟨_, (), rfl, (by unfold sp_X10_isDay; rw [if_pos c1]), trivial⟩, hS.F ht9⟩) hS.2.2 dX10_isDay_16
  · refine lv_iload_n hx hb dX10_isDay_4 rfl (lv_at hl 0 rfl) ?_
    refine lv_sipush (v := 999) hx hb dX10_isDay_5 (by decide) ?_
    refine lv_icmp_gt (tgt := 15) hx hb dX10_isDay_8 (by decide) (fun c2 => ?_) (fun c2 => ?_)
    · refine lv_iconst (v := 0) hx hb dX10_isDay_15 (by decide) ?_
      exact W.zret (ty := .boolean) hx hb hr (by decide) (fun t ht9 hW => ⟨⟨_, (), rfl, (by unfold sp_X10_isDay; rw [if_neg c1, if_pos c2]), trivial⟩, hS.F ht9⟩) hS.2.2 dX10_isDay_16
    · refine lv_iconst (v := 1) hx hb dX10_isDay_11 (by decide) ?_
      refine lv_goto (tgt := 16) hx hb dX10_isDay_12 (by decide) ?_
      exact W.zret (ty := .boolean) hx hb hr (by decide) (fun t ht9 hW => ⟨⟨_, (), rfl, (by unfold sp_X10_isDay; rw [if_neg c1, if_neg c2]), trivial⟩, hS.F ht9⟩) hS.2.2 dX10_isDay_16
abbrev cX10_isCompetition : ByteArray := prog_1_method_45_code
def yX10_isCompetition : MethodName := ⟨RX10, "isCompetition", "(I)Z"⟩
theorem dX10_isCompetition_0 : decode cX10_isCompetition 0 = .ok (.iload_n 1, 1) := by decide +kernel
theorem dX10_isCompetition_1 : decode cX10_isCompetition 1 = .ok (.aload_n 0, 1) := by decide +kernel
theorem dX10_isCompetition_2 : decode cX10_isCompetition 2 = .ok (.getfield 28, 3) := by decide +kernel
theorem kw_407 : Cond.fieldLink RX10 28 "SportsHouse" "season" "LSportsHouse$Season;" ∈ lw_g := lw_at 407 (by decide +kernel) rfl
theorem dX10_isCompetition_5 : decode cX10_isCompetition 5 = .ok (.getfield 74, 3) := by decide +kernel
theorem kw_149 : Cond.fieldLink RX10 74 "SportsHouse$Season" "competitionCount" "I" ∈ lw_g := lw_at 149 (by decide +kernel) rfl
theorem dX10_isCompetition_8 : decode cX10_isCompetition 8 = .ok (.invokestatic 115, 3) := by decide +kernel
theorem kw_626 : Cond.methodLink RX10 115 yX10_isBelow ∈ lw_g := lw_at 626 (by decide +kernel) rfl
theorem kw_627 : Cond.static yX10_isBelow ∈ lw_g := lw_at 627 (by decide +kernel) rfl
theorem kw_1 : Cond.initialized RX10 ∈ lw_g := lw_at 1 (by decide +kernel) rfl
theorem kw_628 : Cond.code yX10_isBelow cX10_isBelow 2 (some .boolean) ∈ lw_g := lw_at 628 (by decide +kernel) rfl
theorem gv_X10_115 : GoodIn lw_g (va_wsS RX10 115 yX10_isBelow (.code yX10_isBelow cX10_isBelow 2 (some .boolean) :: lw_g)) := gi_S kw_626 kw_627 kw_1 kw_628
theorem dX10_isCompetition_11 : decode cX10_isCompetition 11 = .ok (.ireturn, 1) := by decide +kernel
set_option maxHeartbeats 4000000 in
set_option maxRecDepth 100000 in
theorem ct_X10_isCompetition (l : Launch) (dC : Nat → ClassId) (dI : Nat → Nat → Nat) (x0 : Nat) (se : Nat) (fx : List Value) (fse : List Value) (hfx_2 : fx[2]? = some (.ref se)) (hfse_2 : fse[2]? = some (.int 0)) (sz : Nat) (na : Int32) : Met l yX10_isCompetition (.code yX10_isCompetition cX10_isCompetition 2 (some .boolean) :: lw_g) ({ frames := 1, cells := 0, slots := 0, locals := 60 }) (ro_P dC dI [(x0, .inr (10, fx)), (se, .inr (6, fse))] [] sz [.ref x0, .int na]) (ri_Q 0 (va_A [] sz)) 0 0 (va_A [] sz) := by
  refine ro_entry (by decide) (Nat.le_of_ble_eq_true rfl) ?_
  intro p e s m below meth c ls hx hb hr hlocks ht hown hin hml hsz hP hK hD hE hl
  subst hsz
  have hS : va_S (va_A [] s.heap.size) s.heap s.heap [] := va_S.rf
  have hA : ∀ q, s.heap.size ≤ q → va_A [] s.heap.size q := fun q h => Or.inr h
  have hl : lv_has ls 2 [(0, .ref x0), (1, .int na)] := hl
  have hown : s.vm.findClass RX10 = some m.cls := hown
  refine lv_iload_n hx hb dX10_isCompetition_0 rfl (lv_at hl 1 rfl) ?_
  refine lv_aload_n hx hb dX10_isCompetition_1 rfl (lv_at hl 0 rfl) ?_
  refine va_get (D := (dC, dI)) (ci := 10) (v := .ref se) (C := RX10) (T := TX10) (N := 7) hx hb ht inX10 hown hK hP 0 rfl rfl 2 (by decide) (ht _ kw_407) (fun _ h9 => h9) hfx_2 dX10_isCompetition_2 ?_
  refine va_get (D := (dC, dI)) (ci := 6) (v := .int 0) (C := RX6) (T := TX6) (N := 16) hx hb ht inX6 hown hK hP 1 rfl rfl 2 (by decide) (ht _ kw_149) (fun _ h9 => h9) hfse_2 dX10_isCompetition_5 ?_
  refine ro_callS (n := 2) (As := [.int na, .int 0]) (rest := []) hx hb hml hown ht hK hP hS hA hE (ct_X10_isBelow l dC dI  _ na 0) gv_X10_115 rfl rfl (by decide +kernel) ⟨Nat.le_of_ble_eq_true rfl, Nat.le_of_ble_eq_true rfl⟩ rfl hl.1 (Nat.le_of_ble_eq_true rfl) ⟨Nat.le_of_ble_eq_true rfl, Nat.le_of_ble_eq_true rfl⟩ rfl dX10_isCompetition_8 (fun H locs hP hS => ?_)
  refine lv_topi (fun r1 er1 => ?_)
  have er1 : r1 = 0 := er1.trans (sp_below0 na)
  subst er1
  exact W.zret (ty := .boolean) hx hb hr (by decide) (fun t ht9 hW => ⟨⟨_, (), rfl, rfl, trivial⟩, hS.F ht9⟩) hS.2.2 dX10_isCompetition_11
abbrev cX10_isClub : ByteArray := prog_1_method_46_code
def yX10_isClub : MethodName := ⟨RX10, "isClub", "(I)Z"⟩
theorem dX10_isClub_0 : decode cX10_isClub 0 = .ok (.iload_n 1, 1) := by decide +kernel
theorem dX10_isClub_1 : decode cX10_isClub 1 = .ok (.aload_n 0, 1) := by decide +kernel
theorem dX10_isClub_2 : decode cX10_isClub 2 = .ok (.getfield 19, 3) := by decide +kernel
theorem kw_406 : Cond.fieldLink RX10 19 "SportsHouse" "things" "LSportsHouse$Things;" ∈ lw_g := lw_at 406 (by decide +kernel) rfl
theorem dX10_isClub_5 : decode cX10_isClub 5 = .ok (.getfield 119, 3) := by decide +kernel
theorem kw_87 : Cond.fieldLink RX10 119 "SportsHouse$Things" "clubs" "I" ∈ lw_g := lw_at 87 (by decide +kernel) rfl
theorem dX10_isClub_8 : decode cX10_isClub 8 = .ok (.invokestatic 115, 3) := by decide +kernel
theorem dX10_isClub_11 : decode cX10_isClub 11 = .ok (.ireturn, 1) := by decide +kernel
set_option maxHeartbeats 4000000 in
set_option maxRecDepth 100000 in
theorem ct_X10_isClub (l : Launch) (dC : Nat → ClassId) (dI : Nat → Nat → Nat) (x0 : Nat) (th : Nat) (fx : List Value) (fth : List Value) (hfx_1 : fx[1]? = some (.ref th)) (hfth_2 : fth[2]? = some (.int 0)) (sz : Nat) (na : Int32) : Met l yX10_isClub (.code yX10_isClub cX10_isClub 2 (some .boolean) :: lw_g) ({ frames := 1, cells := 0, slots := 0, locals := 60 }) (ro_P dC dI [(x0, .inr (10, fx)), (th, .inr (8, fth))] [] sz [.ref x0, .int na]) (ri_Q 0 (va_A [] sz)) 0 0 (va_A [] sz) := by
  refine ro_entry (by decide) (Nat.le_of_ble_eq_true rfl) ?_
  intro p e s m below meth c ls hx hb hr hlocks ht hown hin hml hsz hP hK hD hE hl
  subst hsz
  have hS : va_S (va_A [] s.heap.size) s.heap s.heap [] := va_S.rf
  have hA : ∀ q, s.heap.size ≤ q → va_A [] s.heap.size q := fun q h => Or.inr h
  have hl : lv_has ls 2 [(0, .ref x0), (1, .int na)] := hl
  have hown : s.vm.findClass RX10 = some m.cls := hown
  refine lv_iload_n hx hb dX10_isClub_0 rfl (lv_at hl 1 rfl) ?_
  refine lv_aload_n hx hb dX10_isClub_1 rfl (lv_at hl 0 rfl) ?_
  refine va_get (D := (dC, dI)) (ci := 10) (v := .ref th) (C := RX10) (T := TX10) (N := 7) hx hb ht inX10 hown hK hP 0 rfl rfl 1 (by decide) (ht _ kw_406) (fun _ h9 => h9) hfx_1 dX10_isClub_2 ?_
  refine va_get (D := (dC, dI)) (ci := 8) (v := .int 0) (C := RX8) (T := TX8) (N := 14) hx hb ht inX8 hown hK hP 1 rfl rfl 2 (by decide) (ht _ kw_87) (fun _ h9 => h9) hfth_2 dX10_isClub_5 ?_
  refine ro_callS (n := 2) (As := [.int na, .int 0]) (rest := []) hx hb hml hown ht hK hP hS hA hE (ct_X10_isBelow l dC dI  _ na 0) gv_X10_115 rfl rfl (by decide +kernel) ⟨Nat.le_of_ble_eq_true rfl, Nat.le_of_ble_eq_true rfl⟩ rfl hl.1 (Nat.le_of_ble_eq_true rfl) ⟨Nat.le_of_ble_eq_true rfl, Nat.le_of_ble_eq_true rfl⟩ rfl dX10_isClub_8 (fun H locs hP hS => ?_)
  refine lv_topi (fun r1 er1 => ?_)
  have er1 : r1 = 0 := er1.trans (sp_below0 na)
  subst er1
  exact W.zret (ty := .boolean) hx hb hr (by decide) (fun t ht9 hW => ⟨⟨_, (), rfl, rfl, trivial⟩, hS.F ht9⟩) hS.2.2 dX10_isClub_11
abbrev cX10_isPerson : ByteArray := prog_1_method_47_code
def yX10_isPerson : MethodName := ⟨RX10, "isPerson", "(I)Z"⟩
theorem dX10_isPerson_0 : decode cX10_isPerson 0 = .ok (.iload_n 1, 1) := by decide +kernel
theorem dX10_isPerson_1 : decode cX10_isPerson 1 = .ok (.aload_n 0, 1) := by decide +kernel
theorem dX10_isPerson_2 : decode cX10_isPerson 2 = .ok (.getfield 19, 3) := by decide +kernel
theorem dX10_isPerson_5 : decode cX10_isPerson 5 = .ok (.getfield 128, 3) := by decide +kernel
theorem kw_88 : Cond.fieldLink RX10 128 "SportsHouse$Things" "persons" "I" ∈ lw_g := lw_at 88 (by decide +kernel) rfl
theorem dX10_isPerson_8 : decode cX10_isPerson 8 = .ok (.invokestatic 115, 3) := by decide +kernel
theorem dX10_isPerson_11 : decode cX10_isPerson 11 = .ok (.ireturn, 1) := by decide +kernel
set_option maxHeartbeats 4000000 in
set_option maxRecDepth 100000 in
theorem ct_X10_isPerson (l : Launch) (dC : Nat → ClassId) (dI : Nat → Nat → Nat) (x0 : Nat) (th : Nat) (fx : List Value) (fth : List Value) (hfx_1 : fx[1]? = some (.ref th)) (hfth_3 : fth[3]? = some (.int 0)) (sz : Nat) (na : Int32) : Met l yX10_isPerson (.code yX10_isPerson cX10_isPerson 2 (some .boolean) :: lw_g) ({ frames := 1, cells := 0, slots := 0, locals := 60 }) (ro_P dC dI [(x0, .inr (10, fx)), (th, .inr (8, fth))] [] sz [.ref x0, .int na]) (ri_Q 0 (va_A [] sz)) 0 0 (va_A [] sz) := by
  refine ro_entry (by decide) (Nat.le_of_ble_eq_true rfl) ?_
  intro p e s m below meth c ls hx hb hr hlocks ht hown hin hml hsz hP hK hD hE hl
  subst hsz
  have hS : va_S (va_A [] s.heap.size) s.heap s.heap [] := va_S.rf
  have hA : ∀ q, s.heap.size ≤ q → va_A [] s.heap.size q := fun q h => Or.inr h
  have hl : lv_has ls 2 [(0, .ref x0), (1, .int na)] := hl
  have hown : s.vm.findClass RX10 = some m.cls := hown
  refine lv_iload_n hx hb dX10_isPerson_0 rfl (lv_at hl 1 rfl) ?_
  refine lv_aload_n hx hb dX10_isPerson_1 rfl (lv_at hl 0 rfl) ?_
  refine va_get (D := (dC, dI)) (ci := 10) (v := .ref th) (C := RX10) (T := TX10) (N := 7) hx hb ht inX10 hown hK hP 0 rfl rfl 1 (by decide) (ht _ kw_406) (fun _ h9 => h9) hfx_1 dX10_isPerson_2 ?_
  refine va_get (D := (dC, dI)) (ci := 8) (v := .int 0) (C := RX8) (T := TX8) (N := 14) hx hb ht inX8 hown hK hP 1 rfl rfl 3 (by decide) (ht _ kw_88) (fun _ h9 => h9) hfth_3 dX10_isPerson_5 ?_
  refine ro_callS (n := 2) (As := [.int na, .int 0]) (rest := []) hx hb hml hown ht hK hP hS hA hE (ct_X10_isBelow l dC dI  _ na 0) gv_X10_115 rfl rfl (by decide +kernel) ⟨Nat.le_of_ble_eq_true rfl, Nat.le_of_ble_eq_true rfl⟩ rfl hl.1 (Nat.le_of_ble_eq_true rfl) ⟨Nat.le_of_ble_eq_true rfl, Nat.le_of_ble_eq_true rfl⟩ rfl dX10_isPerson_8 (fun H locs hP hS => ?_)
  refine lv_topi (fun r1 er1 => ?_)
  have er1 : r1 = 0 := er1.trans (sp_below0 na)
  subst er1
  exact W.zret (ty := .boolean) hx hb hr (by decide) (fun t ht9 hW => ⟨⟨_, (), rfl, rfl, trivial⟩, hS.F ht9⟩) hS.2.2 dX10_isPerson_11
abbrev cX10_isMatch : ByteArray := prog_1_method_48_code
def yX10_isMatch : MethodName := ⟨RX10, "isMatch", "(I)Z"⟩
theorem dX10_isMatch_0 : decode cX10_isMatch 0 = .ok (.iload_n 1, 1) := by decide +kernel
theorem dX10_isMatch_1 : decode cX10_isMatch 1 = .ok (.aload_n 0, 1) := by decide +kernel
theorem dX10_isMatch_2 : decode cX10_isMatch 2 = .ok (.getfield 28, 3) := by decide +kernel
theorem dX10_isMatch_5 : decode cX10_isMatch 5 = .ok (.getfield 182, 3) := by decide +kernel
theorem kw_157 : Cond.fieldLink RX10 182 "SportsHouse$Season" "matchCount" "I" ∈ lw_g := lw_at 157 (by decide +kernel) rfl
theorem dX10_isMatch_8 : decode cX10_isMatch 8 = .ok (.invokestatic 115, 3) := by decide +kernel
theorem dX10_isMatch_11 : decode cX10_isMatch 11 = .ok (.ireturn, 1) := by decide +kernel
set_option maxHeartbeats 4000000 in
set_option maxRecDepth 100000 in
theorem ct_X10_isMatch (l : Launch) (dC : Nat → ClassId) (dI : Nat → Nat → Nat) (x0 : Nat) (se : Nat) (fx : List Value) (fse : List Value) (hfx_2 : fx[2]? = some (.ref se)) (hfse_4 : fse[4]? = some (.int 0)) (sz : Nat) (na : Int32) : Met l yX10_isMatch (.code yX10_isMatch cX10_isMatch 2 (some .boolean) :: lw_g) ({ frames := 1, cells := 0, slots := 0, locals := 60 }) (ro_P dC dI [(x0, .inr (10, fx)), (se, .inr (6, fse))] [] sz [.ref x0, .int na]) (ri_Q 0 (va_A [] sz)) 0 0 (va_A [] sz) := by
  refine ro_entry (by decide) (Nat.le_of_ble_eq_true rfl) ?_
  intro p e s m below meth c ls hx hb hr hlocks ht hown hin hml hsz hP hK hD hE hl
  subst hsz
  have hS : va_S (va_A [] s.heap.size) s.heap s.heap [] := va_S.rf
  have hA : ∀ q, s.heap.size ≤ q → va_A [] s.heap.size q := fun q h => Or.inr h
  have hl : lv_has ls 2 [(0, .ref x0), (1, .int na)] := hl
  have hown : s.vm.findClass RX10 = some m.cls := hown
  refine lv_iload_n hx hb dX10_isMatch_0 rfl (lv_at hl 1 rfl) ?_
  refine lv_aload_n hx hb dX10_isMatch_1 rfl (lv_at hl 0 rfl) ?_
  refine va_get (D := (dC, dI)) (ci := 10) (v := .ref se) (C := RX10) (T := TX10) (N := 7) hx hb ht inX10 hown hK hP 0 rfl rfl 2 (by decide) (ht _ kw_407) (fun _ h9 => h9) hfx_2 dX10_isMatch_2 ?_
  refine va_get (D := (dC, dI)) (ci := 6) (v := .int 0) (C := RX6) (T := TX6) (N := 16) hx hb ht inX6 hown hK hP 1 rfl rfl 4 (by decide) (ht _ kw_157) (fun _ h9 => h9) hfse_4 dX10_isMatch_5 ?_
  refine ro_callS (n := 2) (As := [.int na, .int 0]) (rest := []) hx hb hml hown ht hK hP hS hA hE (ct_X10_isBelow l dC dI  _ na 0) gv_X10_115 rfl rfl (by decide +kernel) ⟨Nat.le_of_ble_eq_true rfl, Nat.le_of_ble_eq_true rfl⟩ rfl hl.1 (Nat.le_of_ble_eq_true rfl) ⟨Nat.le_of_ble_eq_true rfl, Nat.le_of_ble_eq_true rfl⟩ rfl dX10_isMatch_8 (fun H locs hP hS => ?_)
  refine lv_topi (fun r1 er1 => ?_)
  have er1 : r1 = 0 := er1.trans (sp_below0 na)
  subst er1
  exact W.zret (ty := .boolean) hx hb hr (by decide) (fun t ht9 hW => ⟨⟨_, (), rfl, rfl, trivial⟩, hS.F ht9⟩) hS.2.2 dX10_isMatch_11
abbrev cX10_fault : ByteArray := prog_1_method_5_code
def yX10_fault : MethodName := ⟨RX10, "fault", "()I"⟩
theorem dX10_fault_0 : decode cX10_fault 0 = .ok (.aload_n 0, 1) := by decide +kernel
theorem dX10_fault_1 : decode cX10_fault 1 = .ok (.getfield 12, 3) := by decide +kernel
theorem kw_405 : Cond.fieldLink RX10 12 "SportsHouse" "text" "LSportsHouse$RuleText;" ∈ lw_g := lw_at 405 (by decide +kernel) rfl
theorem dX10_fault_4 : decode cX10_fault 4 = .ok (.getfield 77, 3) := by decide +kernel
theorem kw_42 : Cond.fieldLink RX10 77 "SportsHouse$RuleText" "faultAt" "I" ∈ lw_g := lw_at 42 (by decide +kernel) rfl
theorem dX10_fault_7 : decode cX10_fault 7 = .ok (.ireturn, 1) := by decide +kernel
set_option maxHeartbeats 4000000 in
set_option maxRecDepth 100000 in
theorem ct_X10_fault (l : Launch) (dC : Nat → ClassId) (dI : Nat → Nat → Nat) (x0 : Nat) (rt : Nat) (fx : List Value) (frt : List Value) (hfx_0 : fx[0]? = some (.ref rt)) (hfrt_3 : frt[3]? = some (.int (-1))) (sz : Nat)  : Met l yX10_fault (.code yX10_fault cX10_fault 1 (some .int) :: lw_g) ({ frames := 2, cells := 0, slots := 0, locals := 120 }) (ro_P dC dI [(x0, .inr (10, fx)), (rt, .inr (5, frt))] [] sz [.ref x0]) (ri_Q (-1) (va_A [] sz)) 0 0 (va_A [] sz) := by
  refine ro_entry (by decide) (Nat.le_of_ble_eq_true rfl) ?_
  intro p e s m below meth c ls hx hb hr hlocks ht hown hin hml hsz hP hK hD hE hl
  subst hsz
  have hS : va_S (va_A [] s.heap.size) s.heap s.heap [] := va_S.rf
  have hA : ∀ q, s.heap.size ≤ q → va_A [] s.heap.size q := fun q h => Or.inr h
  have hl : lv_has ls 1 [(0, .ref x0)] := hl
  have hown : s.vm.findClass RX10 = some m.cls := hown
  refine lv_aload_n hx hb dX10_fault_0 rfl (lv_at hl 0 rfl) ?_
  refine va_get (D := (dC, dI)) (ci := 10) (v := .ref rt) (C := RX10) (T := TX10) (N := 7) hx hb ht inX10 hown hK hP 0 rfl rfl 0 (by decide) (ht _ kw_405) (fun _ h9 => h9) hfx_0 dX10_fault_1 ?_
  refine va_get (D := (dC, dI)) (ci := 5) (v := .int (-1)) (C := RX5) (T := TX5) (N := 10) hx hb ht inX5 hown hK hP 1 rfl rfl 3 (by decide) (ht _ kw_42) (fun _ h9 => h9) hfrt_3 dX10_fault_4 ?_
  exact W.iret hx hb hr (fun t ht9 hW => ⟨⟨_, (), rfl, rfl, trivial⟩, hS.F ht9⟩) hS.2.2 dX10_fault_7
abbrev cX10_rule : ByteArray := prog_1_method_6_code
def yX10_rule : MethodName := ⟨RX10, "rule", "(II)I"⟩
theorem dX10_rule_0 : decode cX10_rule 0 = .ok (.aload_n 0, 1) := by decide +kernel
theorem dX10_rule_1 : decode cX10_rule 1 = .ok (.iload_n 1, 1) := by decide +kernel
theorem dX10_rule_2 : decode cX10_rule 2 = .ok (.invokevirtual 107, 3) := by decide +kernel
theorem kw_622 : Cond.methodLink RX10 107 yX10_isCompetition ∈ lw_g := lw_at 622 (by decide +kernel) rfl
theorem kw_624 : Cond.instanceMethod yX10_isCompetition ∈ lw_g := lw_at 624 (by decide +kernel) rfl
theorem ks_X10_isCompetition : Cond.selects RX10 yX10_isCompetition yX10_isCompetition ∈ lw_g := lw_sel 0 rfl
theorem kw_625 : Cond.code yX10_isCompetition cX10_isCompetition 2 (some .boolean) ∈ lw_g := lw_at 625 (by decide +kernel) rfl
theorem gv_X10_107 : GoodIn lw_g (wsV RX10 107 RX10 yX10_isCompetition (.code yX10_isCompetition cX10_isCompetition 2 (some .boolean) :: lw_g)) := gi_V kw_622 kw_624 ks_X10_isCompetition kw_1 kw_625
theorem dX10_rule_5 : decode cX10_rule 5 = .ok (.ifCond .ne 6, 3) := by decide +kernel
theorem dX10_rule_8 : decode cX10_rule 8 = .ok (.bipush (-2), 2) := by decide +kernel
theorem dX10_rule_10 : decode cX10_rule 10 = .ok (.ireturn, 1) := by decide +kernel
set_option maxHeartbeats 4000000 in
set_option maxRecDepth 100000 in
theorem ct_X10_rule (l : Launch) (dC : Nat → ClassId) (dI : Nat → Nat → Nat) (x0 : Nat) (se : Nat) (fx : List Value) (fse : List Value) (hfx_2 : fx[2]? = some (.ref se)) (hfse_2 : fse[2]? = some (.int 0)) (sz : Nat) (na : Int32) (nb : Int32) : Met l yX10_rule (.code yX10_rule cX10_rule 5 (some .int) :: lw_g) ({ frames := 2, cells := 0, slots := 0, locals := 120 }) (ro_P dC dI [(x0, .inr (10, fx)), (se, .inr (6, fse))] [] sz [.ref x0, .int na, .int nb]) (ri_Q (-2) (va_A [] sz)) 0 0 (va_A [] sz) := by
  refine ro_entry (by decide) (Nat.le_of_ble_eq_true rfl) ?_
  intro p e s m below meth c ls hx hb hr hlocks ht hown hin hml hsz hP hK hD hE hl
  subst hsz
  have hS : va_S (va_A [] s.heap.size) s.heap s.heap [] := va_S.rf
  have hA : ∀ q, s.heap.size ≤ q → va_A [] s.heap.size q := fun q h => Or.inr h
  have hl : lv_has ls 5 [(0, .ref x0), (1, .int na), (2, .int nb)] := hl
  have hown : s.vm.findClass RX10 = some m.cls := hown
  refine lv_aload_n hx hb dX10_rule_0 rfl (lv_at hl 0 rfl) ?_
  refine lv_iload_n hx hb dX10_rule_1 rfl (lv_at hl 1 rfl) ?_
  refine ro_callV (n := 1) (As := [.int na]) (rest := []) hx hb hml hown ht hK hP hD hS hA hE (ct_X10_isCompetition l dC dI x0 se fx fse hfx_2 hfse_2 _ na) [0, 1] [] rfl (by decide) rfl 0 (ci := 10) rfl rfl rfl gv_X10_107 rfl rfl (by decide +kernel) ⟨Nat.le_of_ble_eq_true rfl, Nat.le_of_ble_eq_true rfl⟩ rfl hl.1 (Nat.le_of_ble_eq_true rfl) ⟨Nat.le_of_ble_eq_true rfl, Nat.le_of_ble_eq_true rfl⟩ rfl dX10_rule_2 (fun H locs hP hS => ?_)
  refine lv_if_ne (tgt := 11) hx hb dX10_rule_5 (by decide) (fun c1 => ?_) (fun c1 => ?_)
  · exact absurd (by decide) c1
  refine lv_bipush (v := (-2)) hx hb dX10_rule_8 (by decide) ?_
  exact W.iret hx hb hr (fun t ht9 hW => ⟨⟨_, (), rfl, rfl, trivial⟩, hS.F ht9⟩) hS.2.2 dX10_rule_10
abbrev cX10_register : ByteArray := prog_1_method_9_code
def yX10_register : MethodName := ⟨RX10, "register", "(IIII)I"⟩
theorem dX10_register_0 : decode cX10_register 0 = .ok (.aload_n 0, 1) := by decide +kernel
theorem dX10_register_1 : decode cX10_register 1 = .ok (.iload_n 1, 1) := by decide +kernel
theorem dX10_register_2 : decode cX10_register 2 = .ok (.invokevirtual 134, 3) := by decide +kernel
theorem kw_641 : Cond.methodLink RX10 134 yX10_isPerson ∈ lw_g := lw_at 641 (by decide +kernel) rfl
theorem kw_643 : Cond.instanceMethod yX10_isPerson ∈ lw_g := lw_at 643 (by decide +kernel) rfl
theorem ks_X10_isPerson : Cond.selects RX10 yX10_isPerson yX10_isPerson ∈ lw_g := lw_sel 2 rfl
theorem kw_644 : Cond.code yX10_isPerson cX10_isPerson 2 (some .boolean) ∈ lw_g := lw_at 644 (by decide +kernel) rfl
theorem gv_X10_134 : GoodIn lw_g (wsV RX10 134 RX10 yX10_isPerson (.code yX10_isPerson cX10_isPerson 2 (some .boolean) :: lw_g)) := gi_V kw_641 kw_643 ks_X10_isPerson kw_1 kw_644
theorem dX10_register_5 : decode cX10_register 5 = .ok (.ifCond .eq 11, 3) := by decide +kernel
theorem dX10_register_16 : decode cX10_register 16 = .ok (.bipush (-2), 2) := by decide +kernel
theorem dX10_register_18 : decode cX10_register 18 = .ok (.ireturn, 1) := by decide +kernel
set_option maxHeartbeats 4000000 in
set_option maxRecDepth 100000 in
theorem ct_X10_register (l : Launch) (dC : Nat → ClassId) (dI : Nat → Nat → Nat) (x0 : Nat) (th : Nat) (fx : List Value) (fth : List Value) (hfx_1 : fx[1]? = some (.ref th)) (hfth_3 : fth[3]? = some (.int 0)) (sz : Nat) (na : Int32) (nb : Int32) (nc : Int32) (nd : Int32) : Met l yX10_register (.code yX10_register cX10_register 5 (some .int) :: lw_g) ({ frames := 2, cells := 0, slots := 0, locals := 120 }) (ro_P dC dI [(x0, .inr (10, fx)), (th, .inr (8, fth))] [] sz [.ref x0, .int na, .int nb, .int nc, .int nd]) (ri_Q (-2) (va_A [] sz)) 0 0 (va_A [] sz) := by
  refine ro_entry (by decide) (Nat.le_of_ble_eq_true rfl) ?_
  intro p e s m below meth c ls hx hb hr hlocks ht hown hin hml hsz hP hK hD hE hl
  subst hsz
  have hS : va_S (va_A [] s.heap.size) s.heap s.heap [] := va_S.rf
  have hA : ∀ q, s.heap.size ≤ q → va_A [] s.heap.size q := fun q h => Or.inr h
  have hl : lv_has ls 5 [(0, .ref x0), (1, .int na), (2, .int nb), (3, .int nc), (4, .int nd)] := hl
  have hown : s.vm.findClass RX10 = some m.cls := hown
  refine lv_aload_n hx hb dX10_register_0 rfl (lv_at hl 0 rfl) ?_
  refine lv_iload_n hx hb dX10_register_1 rfl (lv_at hl 1 rfl) ?_
  refine ro_callV (n := 1) (As := [.int na]) (rest := []) hx hb hml hown ht hK hP hD hS hA hE (ct_X10_isPerson l dC dI x0 th fx fth hfx_1 hfth_3 _ na) [0, 1] [] rfl (by decide) rfl 0 (ci := 10) rfl rfl rfl gv_X10_134 rfl rfl (by decide +kernel) ⟨Nat.le_of_ble_eq_true rfl, Nat.le_of_ble_eq_true rfl⟩ rfl hl.1 (Nat.le_of_ble_eq_true rfl) ⟨Nat.le_of_ble_eq_true rfl, Nat.le_of_ble_eq_true rfl⟩ rfl dX10_register_2 (fun H locs hP hS => ?_)
  refine lv_if_eq (tgt := 16) hx hb dX10_register_5 (by decide) (fun c1 => ?_) (fun c1 => ?_)
  rotate_left
  · exact absurd (by decide) c1
  refine lv_bipush (v := (-2)) hx hb dX10_register_16 (by decide) ?_
  exact W.iret hx hb hr (fun t ht9 hW => ⟨⟨_, (), rfl, rfl, trivial⟩, hS.F ht9⟩) hS.2.2 dX10_register_18
abbrev cX10_enter : ByteArray := prog_1_method_12_code
def yX10_enter : MethodName := ⟨RX10, "enter", "(II)I"⟩
theorem dX10_enter_0 : decode cX10_enter 0 = .ok (.aload_n 0, 1) := by decide +kernel
theorem dX10_enter_1 : decode cX10_enter 1 = .ok (.iload_n 1, 1) := by decide +kernel
theorem dX10_enter_2 : decode cX10_enter 2 = .ok (.invokevirtual 107, 3) := by decide +kernel
theorem dX10_enter_5 : decode cX10_enter 5 = .ok (.ifCond .eq 11, 3) := by decide +kernel
theorem dX10_enter_16 : decode cX10_enter 16 = .ok (.bipush (-2), 2) := by decide +kernel
theorem dX10_enter_18 : decode cX10_enter 18 = .ok (.ireturn, 1) := by decide +kernel
set_option maxHeartbeats 4000000 in
set_option maxRecDepth 100000 in
theorem ct_X10_enter (l : Launch) (dC : Nat → ClassId) (dI : Nat → Nat → Nat) (x0 : Nat) (se : Nat) (fx : List Value) (fse : List Value) (hfx_2 : fx[2]? = some (.ref se)) (hfse_2 : fse[2]? = some (.int 0)) (sz : Nat) (na : Int32) (nb : Int32) : Met l yX10_enter (.code yX10_enter cX10_enter 4 (some .int) :: lw_g) ({ frames := 2, cells := 0, slots := 0, locals := 120 }) (ro_P dC dI [(x0, .inr (10, fx)), (se, .inr (6, fse))] [] sz [.ref x0, .int na, .int nb]) (ri_Q (-2) (va_A [] sz)) 0 0 (va_A [] sz) := by
  refine ro_entry (by decide) (Nat.le_of_ble_eq_true rfl) ?_
  intro p e s m below meth c ls hx hb hr hlocks ht hown hin hml hsz hP hK hD hE hl
  subst hsz
  have hS : va_S (va_A [] s.heap.size) s.heap s.heap [] := va_S.rf
  have hA : ∀ q, s.heap.size ≤ q → va_A [] s.heap.size q := fun q h => Or.inr h
  have hl : lv_has ls 4 [(0, .ref x0), (1, .int na), (2, .int nb)] := hl
  have hown : s.vm.findClass RX10 = some m.cls := hown
  refine lv_aload_n hx hb dX10_enter_0 rfl (lv_at hl 0 rfl) ?_
  refine lv_iload_n hx hb dX10_enter_1 rfl (lv_at hl 1 rfl) ?_
  refine ro_callV (n := 1) (As := [.int na]) (rest := []) hx hb hml hown ht hK hP hD hS hA hE (ct_X10_isCompetition l dC dI x0 se fx fse hfx_2 hfse_2 _ na) [0, 1] [] rfl (by decide) rfl 0 (ci := 10) rfl rfl rfl gv_X10_107 rfl rfl (by decide +kernel) ⟨Nat.le_of_ble_eq_true rfl, Nat.le_of_ble_eq_true rfl⟩ rfl hl.1 (Nat.le_of_ble_eq_true rfl) ⟨Nat.le_of_ble_eq_true rfl, Nat.le_of_ble_eq_true rfl⟩ rfl dX10_enter_2 (fun H locs hP hS => ?_)
  refine lv_if_eq (tgt := 16) hx hb dX10_enter_5 (by decide) (fun c1 => ?_) (fun c1 => ?_)
  rotate_left
  · exact absurd (by decide) c1
  refine lv_bipush (v := (-2)) hx hb dX10_enter_16 (by decide) ?_
  exact W.iret hx hb hr (fun t ht9 hW => ⟨⟨_, (), rfl, rfl, trivial⟩, hS.F ht9⟩) hS.2.2 dX10_enter_18
abbrev cX10_plan : ByteArray := prog_1_method_13_code
def yX10_plan : MethodName := ⟨RX10, "plan", "(II)I"⟩
theorem dX10_plan_0 : decode cX10_plan 0 = .ok (.aload_n 0, 1) := by decide +kernel
theorem dX10_plan_1 : decode cX10_plan 1 = .ok (.iload_n 1, 1) := by decide +kernel
theorem dX10_plan_2 : decode cX10_plan 2 = .ok (.invokevirtual 107, 3) := by decide +kernel
theorem dX10_plan_5 : decode cX10_plan 5 = .ok (.ifCond .ne 6, 3) := by decide +kernel
theorem dX10_plan_8 : decode cX10_plan 8 = .ok (.bipush (-2), 2) := by decide +kernel
theorem dX10_plan_10 : decode cX10_plan 10 = .ok (.ireturn, 1) := by decide +kernel
set_option maxHeartbeats 4000000 in
set_option maxRecDepth 100000 in
theorem ct_X10_plan (l : Launch) (dC : Nat → ClassId) (dI : Nat → Nat → Nat) (x0 : Nat) (se : Nat) (fx : List Value) (fse : List Value) (hfx_2 : fx[2]? = some (.ref se)) (hfse_2 : fse[2]? = some (.int 0)) (sz : Nat) (na : Int32) (nb : Int32) : Met l yX10_plan (.code yX10_plan cX10_plan 4 (some .int) :: lw_g) ({ frames := 2, cells := 0, slots := 0, locals := 120 }) (ro_P dC dI [(x0, .inr (10, fx)), (se, .inr (6, fse))] [] sz [.ref x0, .int na, .int nb]) (ri_Q (-2) (va_A [] sz)) 0 0 (va_A [] sz) := by
  refine ro_entry (by decide) (Nat.le_of_ble_eq_true rfl) ?_
  intro p e s m below meth c ls hx hb hr hlocks ht hown hin hml hsz hP hK hD hE hl
  subst hsz
  have hS : va_S (va_A [] s.heap.size) s.heap s.heap [] := va_S.rf
  have hA : ∀ q, s.heap.size ≤ q → va_A [] s.heap.size q := fun q h => Or.inr h
  have hl : lv_has ls 4 [(0, .ref x0), (1, .int na), (2, .int nb)] := hl
  have hown : s.vm.findClass RX10 = some m.cls := hown
  refine lv_aload_n hx hb dX10_plan_0 rfl (lv_at hl 0 rfl) ?_
  refine lv_iload_n hx hb dX10_plan_1 rfl (lv_at hl 1 rfl) ?_
  refine ro_callV (n := 1) (As := [.int na]) (rest := []) hx hb hml hown ht hK hP hD hS hA hE (ct_X10_isCompetition l dC dI x0 se fx fse hfx_2 hfse_2 _ na) [0, 1] [] rfl (by decide) rfl 0 (ci := 10) rfl rfl rfl gv_X10_107 rfl rfl (by decide +kernel) ⟨Nat.le_of_ble_eq_true rfl, Nat.le_of_ble_eq_true rfl⟩ rfl hl.1 (Nat.le_of_ble_eq_true rfl) ⟨Nat.le_of_ble_eq_true rfl, Nat.le_of_ble_eq_true rfl⟩ rfl dX10_plan_2 (fun H locs hP hS => ?_)
  refine lv_if_ne (tgt := 11) hx hb dX10_plan_5 (by decide) (fun c1 => ?_) (fun c1 => ?_)
  · exact absurd (by decide) c1
  refine lv_bipush (v := (-2)) hx hb dX10_plan_8 (by decide) ?_
  exact W.iret hx hb hr (fun t ht9 hW => ⟨⟨_, (), rfl, rfl, trivial⟩, hS.F ht9⟩) hS.2.2 dX10_plan_10
abbrev cX10_match : ByteArray := prog_1_method_14_code
def yX10_match : MethodName := ⟨RX10, "match", "(II)I"⟩
theorem dX10_match_0 : decode cX10_match 0 = .ok (.aload_n 0, 1) := by decide +kernel
theorem dX10_match_1 : decode cX10_match 1 = .ok (.iload_n 1, 1) := by decide +kernel
theorem dX10_match_2 : decode cX10_match 2 = .ok (.invokevirtual 195, 3) := by decide +kernel
theorem kw_773 : Cond.methodLink RX10 195 yX10_isMatch ∈ lw_g := lw_at 773 (by decide +kernel) rfl
theorem kw_775 : Cond.instanceMethod yX10_isMatch ∈ lw_g := lw_at 775 (by decide +kernel) rfl
theorem ks_X10_isMatch : Cond.selects RX10 yX10_isMatch yX10_isMatch ∈ lw_g := lw_sel 3 rfl
theorem kw_776 : Cond.code yX10_isMatch cX10_isMatch 2 (some .boolean) ∈ lw_g := lw_at 776 (by decide +kernel) rfl
theorem gv_X10_195 : GoodIn lw_g (wsV RX10 195 RX10 yX10_isMatch (.code yX10_isMatch cX10_isMatch 2 (some .boolean) :: lw_g)) := gi_V kw_773 kw_775 ks_X10_isMatch kw_1 kw_776
theorem dX10_match_5 : decode cX10_match 5 = .ok (.ifCond .ne 6, 3) := by decide +kernel
theorem dX10_match_8 : decode cX10_match 8 = .ok (.bipush (-2), 2) := by decide +kernel
theorem dX10_match_10 : decode cX10_match 10 = .ok (.ireturn, 1) := by decide +kernel
set_option maxHeartbeats 4000000 in
set_option maxRecDepth 100000 in
theorem ct_X10_match (l : Launch) (dC : Nat → ClassId) (dI : Nat → Nat → Nat) (x0 : Nat) (se : Nat) (fx : List Value) (fse : List Value) (hfx_2 : fx[2]? = some (.ref se)) (hfse_4 : fse[4]? = some (.int 0)) (sz : Nat) (na : Int32) (nb : Int32) : Met l yX10_match (.code yX10_match cX10_match 4 (some .int) :: lw_g) ({ frames := 2, cells := 0, slots := 0, locals := 120 }) (ro_P dC dI [(x0, .inr (10, fx)), (se, .inr (6, fse))] [] sz [.ref x0, .int na, .int nb]) (ri_Q (-2) (va_A [] sz)) 0 0 (va_A [] sz) := by
  refine ro_entry (by decide) (Nat.le_of_ble_eq_true rfl) ?_
  intro p e s m below meth c ls hx hb hr hlocks ht hown hin hml hsz hP hK hD hE hl
  subst hsz
  have hS : va_S (va_A [] s.heap.size) s.heap s.heap [] := va_S.rf
  have hA : ∀ q, s.heap.size ≤ q → va_A [] s.heap.size q := fun q h => Or.inr h
  have hl : lv_has ls 4 [(0, .ref x0), (1, .int na), (2, .int nb)] := hl
  have hown : s.vm.findClass RX10 = some m.cls := hown
  refine lv_aload_n hx hb dX10_match_0 rfl (lv_at hl 0 rfl) ?_
  refine lv_iload_n hx hb dX10_match_1 rfl (lv_at hl 1 rfl) ?_
  refine ro_callV (n := 1) (As := [.int na]) (rest := []) hx hb hml hown ht hK hP hD hS hA hE (ct_X10_isMatch l dC dI x0 se fx fse hfx_2 hfse_4 _ na) [0, 1] [] rfl (by decide) rfl 0 (ci := 10) rfl rfl rfl gv_X10_195 rfl rfl (by decide +kernel) ⟨Nat.le_of_ble_eq_true rfl, Nat.le_of_ble_eq_true rfl⟩ rfl hl.1 (Nat.le_of_ble_eq_true rfl) ⟨Nat.le_of_ble_eq_true rfl, Nat.le_of_ble_eq_true rfl⟩ rfl dX10_match_2 (fun H locs hP hS => ?_)
  refine lv_if_ne (tgt := 11) hx hb dX10_match_5 (by decide) (fun c1 => ?_) (fun c1 => ?_)
  · exact absurd (by decide) c1
  refine lv_bipush (v := (-2)) hx hb dX10_match_8 (by decide) ?_
  exact W.iret hx hb hr (fun t ht9 hW => ⟨⟨_, (), rfl, rfl, trivial⟩, hS.F ht9⟩) hS.2.2 dX10_match_10
abbrev cX10_breaks : ByteArray := prog_1_method_15_code
def yX10_breaks : MethodName := ⟨RX10, "breaks", "(II)I"⟩
theorem dX10_breaks_0 : decode cX10_breaks 0 = .ok (.aload_n 0, 1) := by decide +kernel
theorem dX10_breaks_1 : decode cX10_breaks 1 = .ok (.iload_n 1, 1) := by decide +kernel
theorem dX10_breaks_2 : decode cX10_breaks 2 = .ok (.invokevirtual 107, 3) := by decide +kernel
theorem dX10_breaks_5 : decode cX10_breaks 5 = .ok (.ifCond .eq 11, 3) := by decide +kernel
theorem dX10_breaks_16 : decode cX10_breaks 16 = .ok (.bipush (-2), 2) := by decide +kernel
theorem dX10_breaks_18 : decode cX10_breaks 18 = .ok (.ireturn, 1) := by decide +kernel
set_option maxHeartbeats 4000000 in
set_option maxRecDepth 100000 in
theorem ct_X10_breaks (l : Launch) (dC : Nat → ClassId) (dI : Nat → Nat → Nat) (x0 : Nat) (se : Nat) (fx : List Value) (fse : List Value) (hfx_2 : fx[2]? = some (.ref se)) (hfse_2 : fse[2]? = some (.int 0)) (sz : Nat) (na : Int32) (nb : Int32) : Met l yX10_breaks (.code yX10_breaks cX10_breaks 4 (some .int) :: lw_g) ({ frames := 2, cells := 0, slots := 0, locals := 120 }) (ro_P dC dI [(x0, .inr (10, fx)), (se, .inr (6, fse))] [] sz [.ref x0, .int na, .int nb]) (ri_Q (-2) (va_A [] sz)) 0 0 (va_A [] sz) := by
  refine ro_entry (by decide) (Nat.le_of_ble_eq_true rfl) ?_
  intro p e s m below meth c ls hx hb hr hlocks ht hown hin hml hsz hP hK hD hE hl
  subst hsz
  have hS : va_S (va_A [] s.heap.size) s.heap s.heap [] := va_S.rf
  have hA : ∀ q, s.heap.size ≤ q → va_A [] s.heap.size q := fun q h => Or.inr h
  have hl : lv_has ls 4 [(0, .ref x0), (1, .int na), (2, .int nb)] := hl
  have hown : s.vm.findClass RX10 = some m.cls := hown
  refine lv_aload_n hx hb dX10_breaks_0 rfl (lv_at hl 0 rfl) ?_
  refine lv_iload_n hx hb dX10_breaks_1 rfl (lv_at hl 1 rfl) ?_
  refine ro_callV (n := 1) (As := [.int na]) (rest := []) hx hb hml hown ht hK hP hD hS hA hE (ct_X10_isCompetition l dC dI x0 se fx fse hfx_2 hfse_2 _ na) [0, 1] [] rfl (by decide) rfl 0 (ci := 10) rfl rfl rfl gv_X10_107 rfl rfl (by decide +kernel) ⟨Nat.le_of_ble_eq_true rfl, Nat.le_of_ble_eq_true rfl⟩ rfl hl.1 (Nat.le_of_ble_eq_true rfl) ⟨Nat.le_of_ble_eq_true rfl, Nat.le_of_ble_eq_true rfl⟩ rfl dX10_breaks_2 (fun H locs hP hS => ?_)
  refine lv_if_eq (tgt := 16) hx hb dX10_breaks_5 (by decide) (fun c1 => ?_) (fun c1 => ?_)
  rotate_left
  · exact absurd (by decide) c1
  refine lv_bipush (v := (-2)) hx hb dX10_breaks_16 (by decide) ?_
  exact W.iret hx hb hr (fun t ht9 hW => ⟨⟨_, (), rfl, rfl, trivial⟩, hS.F ht9⟩) hS.2.2 dX10_breaks_18
abbrev cX10_postpone : ByteArray := prog_1_method_16_code
def yX10_postpone : MethodName := ⟨RX10, "postpone", "(II)I"⟩
theorem dX10_postpone_0 : decode cX10_postpone 0 = .ok (.aload_n 0, 1) := by decide +kernel
theorem dX10_postpone_1 : decode cX10_postpone 1 = .ok (.iload_n 1, 1) := by decide +kernel
theorem dX10_postpone_2 : decode cX10_postpone 2 = .ok (.invokevirtual 195, 3) := by decide +kernel
theorem dX10_postpone_5 : decode cX10_postpone 5 = .ok (.ifCond .ne 6, 3) := by decide +kernel
theorem dX10_postpone_8 : decode cX10_postpone 8 = .ok (.bipush (-2), 2) := by decide +kernel
theorem dX10_postpone_10 : decode cX10_postpone 10 = .ok (.ireturn, 1) := by decide +kernel
set_option maxHeartbeats 4000000 in
set_option maxRecDepth 100000 in
theorem ct_X10_postpone (l : Launch) (dC : Nat → ClassId) (dI : Nat → Nat → Nat) (x0 : Nat) (se : Nat) (fx : List Value) (fse : List Value) (hfx_2 : fx[2]? = some (.ref se)) (hfse_4 : fse[4]? = some (.int 0)) (sz : Nat) (na : Int32) (nb : Int32) : Met l yX10_postpone (.code yX10_postpone cX10_postpone 4 (some .int) :: lw_g) ({ frames := 2, cells := 0, slots := 0, locals := 120 }) (ro_P dC dI [(x0, .inr (10, fx)), (se, .inr (6, fse))] [] sz [.ref x0, .int na, .int nb]) (ri_Q (-2) (va_A [] sz)) 0 0 (va_A [] sz) := by
  refine ro_entry (by decide) (Nat.le_of_ble_eq_true rfl) ?_
  intro p e s m below meth c ls hx hb hr hlocks ht hown hin hml hsz hP hK hD hE hl
  subst hsz
  have hS : va_S (va_A [] s.heap.size) s.heap s.heap [] := va_S.rf
  have hA : ∀ q, s.heap.size ≤ q → va_A [] s.heap.size q := fun q h => Or.inr h
  have hl : lv_has ls 4 [(0, .ref x0), (1, .int na), (2, .int nb)] := hl
  have hown : s.vm.findClass RX10 = some m.cls := hown
  refine lv_aload_n hx hb dX10_postpone_0 rfl (lv_at hl 0 rfl) ?_
  refine lv_iload_n hx hb dX10_postpone_1 rfl (lv_at hl 1 rfl) ?_
  refine ro_callV (n := 1) (As := [.int na]) (rest := []) hx hb hml hown ht hK hP hD hS hA hE (ct_X10_isMatch l dC dI x0 se fx fse hfx_2 hfse_4 _ na) [0, 1] [] rfl (by decide) rfl 0 (ci := 10) rfl rfl rfl gv_X10_195 rfl rfl (by decide +kernel) ⟨Nat.le_of_ble_eq_true rfl, Nat.le_of_ble_eq_true rfl⟩ rfl hl.1 (Nat.le_of_ble_eq_true rfl) ⟨Nat.le_of_ble_eq_true rfl, Nat.le_of_ble_eq_true rfl⟩ rfl dX10_postpone_2 (fun H locs hP hS => ?_)
  refine lv_if_ne (tgt := 11) hx hb dX10_postpone_5 (by decide) (fun c1 => ?_) (fun c1 => ?_)
  · exact absurd (by decide) c1
  refine lv_bipush (v := (-2)) hx hb dX10_postpone_8 (by decide) ?_
  exact W.iret hx hb hr (fun t ht9 hW => ⟨⟨_, (), rfl, rfl, trivial⟩, hS.F ht9⟩) hS.2.2 dX10_postpone_10
abbrev cX10_moved : ByteArray := prog_1_method_17_code
def yX10_moved : MethodName := ⟨RX10, "moved", "(I)I"⟩
theorem dX10_moved_0 : decode cX10_moved 0 = .ok (.iload_n 1, 1) := by decide +kernel
theorem dX10_moved_1 : decode cX10_moved 1 = .ok (.aload_n 0, 1) := by decide +kernel
theorem dX10_moved_2 : decode cX10_moved 2 = .ok (.getfield 28, 3) := by decide +kernel
theorem dX10_moved_5 : decode cX10_moved 5 = .ok (.getfield 238, 3) := by decide +kernel
theorem kw_168 : Cond.fieldLink RX10 238 "SportsHouse$Season" "movedCount" "I" ∈ lw_g := lw_at 168 (by decide +kernel) rfl
theorem dX10_moved_8 : decode cX10_moved 8 = .ok (.invokestatic 115, 3) := by decide +kernel
theorem dX10_moved_11 : decode cX10_moved 11 = .ok (.ifCond .eq 15, 3) := by decide +kernel
theorem dX10_moved_26 : decode cX10_moved 26 = .ok (.iconst (-1), 1) := by decide +kernel
theorem dX10_moved_27 : decode cX10_moved 27 = .ok (.ireturn, 1) := by decide +kernel
set_option maxHeartbeats 4000000 in
set_option maxRecDepth 100000 in
theorem ct_X10_moved (l : Launch) (dC : Nat → ClassId) (dI : Nat → Nat → Nat) (x0 : Nat) (se : Nat) (fx : List Value) (fse : List Value) (hfx_2 : fx[2]? = some (.ref se)) (hfse_12 : fse[12]? = some (.int 0)) (sz : Nat) (na : Int32) : Met l yX10_moved (.code yX10_moved cX10_moved 2 (some .int) :: lw_g) ({ frames := 2, cells := 0, slots := 0, locals := 120 }) (ro_P dC dI [(x0, .inr (10, fx)), (se, .inr (6, fse))] [] sz [.ref x0, .int na]) (ri_Q (-1) (va_A [] sz)) 0 0 (va_A [] sz) := by
  refine ro_entry (by decide) (Nat.le_of_ble_eq_true rfl) ?_
  intro p e s m below meth c ls hx hb hr hlocks ht hown hin hml hsz hP hK hD hE hl
  subst hsz
  have hS : va_S (va_A [] s.heap.size) s.heap s.heap [] := va_S.rf
  have hA : ∀ q, s.heap.size ≤ q → va_A [] s.heap.size q := fun q h => Or.inr h
  have hl : lv_has ls 2 [(0, .ref x0), (1, .int na)] := hl
  have hown : s.vm.findClass RX10 = some m.cls := hown
  refine lv_iload_n hx hb dX10_moved_0 rfl (lv_at hl 1 rfl) ?_
  refine lv_aload_n hx hb dX10_moved_1 rfl (lv_at hl 0 rfl) ?_
  refine va_get (D := (dC, dI)) (ci := 10) (v := .ref se) (C := RX10) (T := TX10) (N := 7) hx hb ht inX10 hown hK hP 0 rfl rfl 2 (by decide) (ht _ kw_407) (fun _ h9 => h9) hfx_2 dX10_moved_2 ?_
  refine va_get (D := (dC, dI)) (ci := 6) (v := .int 0) (C := RX6) (T := TX6) (N := 16) hx hb ht inX6 hown hK hP 1 rfl rfl 12 (by decide) (ht _ kw_168) (fun _ h9 => h9) hfse_12 dX10_moved_5 ?_
  refine ro_callS (n := 2) (As := [.int na, .int 0]) (rest := []) hx hb hml hown ht hK hP hS hA hE (ct_X10_isBelow l dC dI  _ na 0) gv_X10_115 rfl rfl (by decide +kernel) ⟨Nat.le_of_ble_eq_true rfl, Nat.le_of_ble_eq_true rfl⟩ rfl hl.1 (Nat.le_of_ble_eq_true rfl) ⟨Nat.le_of_ble_eq_true rfl, Nat.le_of_ble_eq_true rfl⟩ rfl dX10_moved_8 (fun H locs hP hS => ?_)
  refine lv_topi (fun r1 er1 => ?_)
  have er1 : r1 = 0 := er1.trans (sp_below0 na)
  subst er1
  refine lv_if_eq (tgt := 26) hx hb dX10_moved_11 (by decide) (fun c2 => ?_) (fun c2 => ?_)
  rotate_left
  · exact absurd (by decide) c2
  refine lv_iconst (v := (-1)) hx hb dX10_moved_26 (by decide) ?_
  exact W.iret hx hb hr (fun t ht9 hW => ⟨⟨_, (), rfl, rfl, trivial⟩, hS.F ht9⟩) hS.2.2 dX10_moved_27
abbrev cX10_deduct : ByteArray := prog_1_method_18_code
def yX10_deduct : MethodName := ⟨RX10, "deduct", "(III)I"⟩
theorem dX10_deduct_0 : decode cX10_deduct 0 = .ok (.aload_n 0, 1) := by decide +kernel
theorem dX10_deduct_1 : decode cX10_deduct 1 = .ok (.iload_n 1, 1) := by decide +kernel
theorem dX10_deduct_2 : decode cX10_deduct 2 = .ok (.invokevirtual 107, 3) := by decide +kernel
theorem dX10_deduct_5 : decode cX10_deduct 5 = .ok (.ifCond .eq 11, 3) := by decide +kernel
theorem dX10_deduct_16 : decode cX10_deduct 16 = .ok (.bipush (-2), 2) := by decide +kernel
theorem dX10_deduct_18 : decode cX10_deduct 18 = .ok (.ireturn, 1) := by decide +kernel
set_option maxHeartbeats 4000000 in
set_option maxRecDepth 100000 in
theorem ct_X10_deduct (l : Launch) (dC : Nat → ClassId) (dI : Nat → Nat → Nat) (x0 : Nat) (se : Nat) (fx : List Value) (fse : List Value) (hfx_2 : fx[2]? = some (.ref se)) (hfse_2 : fse[2]? = some (.int 0)) (sz : Nat) (na : Int32) (nb : Int32) (nc : Int32) : Met l yX10_deduct (.code yX10_deduct cX10_deduct 4 (some .int) :: lw_g) ({ frames := 2, cells := 0, slots := 0, locals := 120 }) (ro_P dC dI [(x0, .inr (10, fx)), (se, .inr (6, fse))] [] sz [.ref x0, .int na, .int nb, .int nc]) (ri_Q (-2) (va_A [] sz)) 0 0 (va_A [] sz) := by
  refine ro_entry (by decide) (Nat.le_of_ble_eq_true rfl) ?_
  intro p e s m below meth c ls hx hb hr hlocks ht hown hin hml hsz hP hK hD hE hl
  subst hsz
  have hS : va_S (va_A [] s.heap.size) s.heap s.heap [] := va_S.rf
  have hA : ∀ q, s.heap.size ≤ q → va_A [] s.heap.size q := fun q h => Or.inr h
  have hl : lv_has ls 4 [(0, .ref x0), (1, .int na), (2, .int nb), (3, .int nc)] := hl
  have hown : s.vm.findClass RX10 = some m.cls := hown
  refine lv_aload_n hx hb dX10_deduct_0 rfl (lv_at hl 0 rfl) ?_
  refine lv_iload_n hx hb dX10_deduct_1 rfl (lv_at hl 1 rfl) ?_
  refine ro_callV (n := 1) (As := [.int na]) (rest := []) hx hb hml hown ht hK hP hD hS hA hE (ct_X10_isCompetition l dC dI x0 se fx fse hfx_2 hfse_2 _ na) [0, 1] [] rfl (by decide) rfl 0 (ci := 10) rfl rfl rfl gv_X10_107 rfl rfl (by decide +kernel) ⟨Nat.le_of_ble_eq_true rfl, Nat.le_of_ble_eq_true rfl⟩ rfl hl.1 (Nat.le_of_ble_eq_true rfl) ⟨Nat.le_of_ble_eq_true rfl, Nat.le_of_ble_eq_true rfl⟩ rfl dX10_deduct_2 (fun H locs hP hS => ?_)
  refine lv_if_eq (tgt := 16) hx hb dX10_deduct_5 (by decide) (fun c1 => ?_) (fun c1 => ?_)
  rotate_left
  · exact absurd (by decide) c1
  refine lv_bipush (v := (-2)) hx hb dX10_deduct_16 (by decide) ?_
  exact W.iret hx hb hr (fun t ht9 hW => ⟨⟨_, (), rfl, rfl, trivial⟩, hS.F ht9⟩) hS.2.2 dX10_deduct_18
abbrev cX10_eligible : ByteArray := prog_1_method_19_code
def yX10_eligible : MethodName := ⟨RX10, "eligible", "(III)I"⟩
theorem dX10_eligible_0 : decode cX10_eligible 0 = .ok (.aload_n 0, 1) := by decide +kernel
theorem dX10_eligible_1 : decode cX10_eligible 1 = .ok (.iload_n 1, 1) := by decide +kernel
theorem dX10_eligible_2 : decode cX10_eligible 2 = .ok (.invokevirtual 134, 3) := by decide +kernel
theorem dX10_eligible_5 : decode cX10_eligible 5 = .ok (.ifCond .eq 11, 3) := by decide +kernel
theorem dX10_eligible_16 : decode cX10_eligible 16 = .ok (.bipush (-2), 2) := by decide +kernel
theorem dX10_eligible_18 : decode cX10_eligible 18 = .ok (.ireturn, 1) := by decide +kernel
set_option maxHeartbeats 4000000 in
set_option maxRecDepth 100000 in
theorem ct_X10_eligible (l : Launch) (dC : Nat → ClassId) (dI : Nat → Nat → Nat) (x0 : Nat) (th : Nat) (fx : List Value) (fth : List Value) (hfx_1 : fx[1]? = some (.ref th)) (hfth_3 : fth[3]? = some (.int 0)) (sz : Nat) (na : Int32) (nb : Int32) (nc : Int32) : Met l yX10_eligible (.code yX10_eligible cX10_eligible 4 (some .int) :: lw_g) ({ frames := 2, cells := 0, slots := 0, locals := 120 }) (ro_P dC dI [(x0, .inr (10, fx)), (th, .inr (8, fth))] [] sz [.ref x0, .int na, .int nb, .int nc]) (ri_Q (-2) (va_A [] sz)) 0 0 (va_A [] sz) := by
  refine ro_entry (by decide) (Nat.le_of_ble_eq_true rfl) ?_
  intro p e s m below meth c ls hx hb hr hlocks ht hown hin hml hsz hP hK hD hE hl
  subst hsz
  have hS : va_S (va_A [] s.heap.size) s.heap s.heap [] := va_S.rf
  have hA : ∀ q, s.heap.size ≤ q → va_A [] s.heap.size q := fun q h => Or.inr h
  have hl : lv_has ls 4 [(0, .ref x0), (1, .int na), (2, .int nb), (3, .int nc)] := hl
  have hown : s.vm.findClass RX10 = some m.cls := hown
  refine lv_aload_n hx hb dX10_eligible_0 rfl (lv_at hl 0 rfl) ?_
  refine lv_iload_n hx hb dX10_eligible_1 rfl (lv_at hl 1 rfl) ?_
  refine ro_callV (n := 1) (As := [.int na]) (rest := []) hx hb hml hown ht hK hP hD hS hA hE (ct_X10_isPerson l dC dI x0 th fx fth hfx_1 hfth_3 _ na) [0, 1] [] rfl (by decide) rfl 0 (ci := 10) rfl rfl rfl gv_X10_134 rfl rfl (by decide +kernel) ⟨Nat.le_of_ble_eq_true rfl, Nat.le_of_ble_eq_true rfl⟩ rfl hl.1 (Nat.le_of_ble_eq_true rfl) ⟨Nat.le_of_ble_eq_true rfl, Nat.le_of_ble_eq_true rfl⟩ rfl dX10_eligible_2 (fun H locs hP hS => ?_)
  refine lv_if_eq (tgt := 16) hx hb dX10_eligible_5 (by decide) (fun c1 => ?_) (fun c1 => ?_)
  rotate_left
  · exact absurd (by decide) c1
  refine lv_bipush (v := (-2)) hx hb dX10_eligible_16 (by decide) ?_
  exact W.iret hx hb hr (fun t ht9 hW => ⟨⟨_, (), rfl, rfl, trivial⟩, hS.F ht9⟩) hS.2.2 dX10_eligible_18
abbrev cX10_lineUp : ByteArray := prog_1_method_20_code
def yX10_lineUp : MethodName := ⟨RX10, "lineUp", "(III)I"⟩
theorem dX10_lineUp_0 : decode cX10_lineUp 0 = .ok (.aload_n 0, 1) := by decide +kernel
theorem dX10_lineUp_1 : decode cX10_lineUp 1 = .ok (.iload_n 1, 1) := by decide +kernel
theorem dX10_lineUp_2 : decode cX10_lineUp 2 = .ok (.invokevirtual 134, 3) := by decide +kernel
theorem dX10_lineUp_5 : decode cX10_lineUp 5 = .ok (.ifCond .eq 11, 3) := by decide +kernel
theorem dX10_lineUp_16 : decode cX10_lineUp 16 = .ok (.bipush (-2), 2) := by decide +kernel
theorem dX10_lineUp_18 : decode cX10_lineUp 18 = .ok (.ireturn, 1) := by decide +kernel
set_option maxHeartbeats 4000000 in
set_option maxRecDepth 100000 in
theorem ct_X10_lineUp (l : Launch) (dC : Nat → ClassId) (dI : Nat → Nat → Nat) (x0 : Nat) (th : Nat) (fx : List Value) (fth : List Value) (hfx_1 : fx[1]? = some (.ref th)) (hfth_3 : fth[3]? = some (.int 0)) (sz : Nat) (na : Int32) (nb : Int32) (nc : Int32) : Met l yX10_lineUp (.code yX10_lineUp cX10_lineUp 6 (some .int) :: lw_g) ({ frames := 2, cells := 0, slots := 0, locals := 120 }) (ro_P dC dI [(x0, .inr (10, fx)), (th, .inr (8, fth))] [] sz [.ref x0, .int na, .int nb, .int nc]) (ri_Q (-2) (va_A [] sz)) 0 0 (va_A [] sz) := by
  refine ro_entry (by decide) (Nat.le_of_ble_eq_true rfl) ?_
  intro p e s m below meth c ls hx hb hr hlocks ht hown hin hml hsz hP hK hD hE hl
  subst hsz
  have hS : va_S (va_A [] s.heap.size) s.heap s.heap [] := va_S.rf
  have hA : ∀ q, s.heap.size ≤ q → va_A [] s.heap.size q := fun q h => Or.inr h
  have hl : lv_has ls 6 [(0, .ref x0), (1, .int na), (2, .int nb), (3, .int nc)] := hl
  have hown : s.vm.findClass RX10 = some m.cls := hown
  refine lv_aload_n hx hb dX10_lineUp_0 rfl (lv_at hl 0 rfl) ?_
  refine lv_iload_n hx hb dX10_lineUp_1 rfl (lv_at hl 1 rfl) ?_
  refine ro_callV (n := 1) (As := [.int na]) (rest := []) hx hb hml hown ht hK hP hD hS hA hE (ct_X10_isPerson l dC dI x0 th fx fth hfx_1 hfth_3 _ na) [0, 1] [] rfl (by decide) rfl 0 (ci := 10) rfl rfl rfl gv_X10_134 rfl rfl (by decide +kernel) ⟨Nat.le_of_ble_eq_true rfl, Nat.le_of_ble_eq_true rfl⟩ rfl hl.1 (Nat.le_of_ble_eq_true rfl) ⟨Nat.le_of_ble_eq_true rfl, Nat.le_of_ble_eq_true rfl⟩ rfl dX10_lineUp_2 (fun H locs hP hS => ?_)
  refine lv_if_eq (tgt := 16) hx hb dX10_lineUp_5 (by decide) (fun c1 => ?_) (fun c1 => ?_)
  rotate_left
  · exact absurd (by decide) c1
  refine lv_bipush (v := (-2)) hx hb dX10_lineUp_16 (by decide) ?_
  exact W.iret hx hb hr (fun t ht9 hW => ⟨⟨_, (), rfl, rfl, trivial⟩, hS.F ht9⟩) hS.2.2 dX10_lineUp_18
abbrev cX10_start : ByteArray := prog_1_method_21_code
def yX10_start : MethodName := ⟨RX10, "start", "(I)I"⟩
theorem dX10_start_0 : decode cX10_start 0 = .ok (.aload_n 0, 1) := by decide +kernel
theorem dX10_start_1 : decode cX10_start 1 = .ok (.iload_n 1, 1) := by decide +kernel
theorem dX10_start_2 : decode cX10_start 2 = .ok (.invokevirtual 195, 3) := by decide +kernel
theorem dX10_start_5 : decode cX10_start 5 = .ok (.ifCond .ne 6, 3) := by decide +kernel
theorem dX10_start_8 : decode cX10_start 8 = .ok (.bipush (-2), 2) := by decide +kernel
theorem dX10_start_10 : decode cX10_start 10 = .ok (.ireturn, 1) := by decide +kernel
set_option maxHeartbeats 4000000 in
set_option maxRecDepth 100000 in
theorem ct_X10_start (l : Launch) (dC : Nat → ClassId) (dI : Nat → Nat → Nat) (x0 : Nat) (se : Nat) (fx : List Value) (fse : List Value) (hfx_2 : fx[2]? = some (.ref se)) (hfse_4 : fse[4]? = some (.int 0)) (sz : Nat) (na : Int32) : Met l yX10_start (.code yX10_start cX10_start 3 (some .int) :: lw_g) ({ frames := 2, cells := 0, slots := 0, locals := 120 }) (ro_P dC dI [(x0, .inr (10, fx)), (se, .inr (6, fse))] [] sz [.ref x0, .int na]) (ri_Q (-2) (va_A [] sz)) 0 0 (va_A [] sz) := by
  refine ro_entry (by decide) (Nat.le_of_ble_eq_true rfl) ?_
  intro p e s m below meth c ls hx hb hr hlocks ht hown hin hml hsz hP hK hD hE hl
  subst hsz
  have hS : va_S (va_A [] s.heap.size) s.heap s.heap [] := va_S.rf
  have hA : ∀ q, s.heap.size ≤ q → va_A [] s.heap.size q := fun q h => Or.inr h
  have hl : lv_has ls 3 [(0, .ref x0), (1, .int na)] := hl
  have hown : s.vm.findClass RX10 = some m.cls := hown
  refine lv_aload_n hx hb dX10_start_0 rfl (lv_at hl 0 rfl) ?_
  refine lv_iload_n hx hb dX10_start_1 rfl (lv_at hl 1 rfl) ?_
  refine ro_callV (n := 1) (As := [.int na]) (rest := []) hx hb hml hown ht hK hP hD hS hA hE (ct_X10_isMatch l dC dI x0 se fx fse hfx_2 hfse_4 _ na) [0, 1] [] rfl (by decide) rfl 0 (ci := 10) rfl rfl rfl gv_X10_195 rfl rfl (by decide +kernel) ⟨Nat.le_of_ble_eq_true rfl, Nat.le_of_ble_eq_true rfl⟩ rfl hl.1 (Nat.le_of_ble_eq_true rfl) ⟨Nat.le_of_ble_eq_true rfl, Nat.le_of_ble_eq_true rfl⟩ rfl dX10_start_2 (fun H locs hP hS => ?_)
  refine lv_if_ne (tgt := 11) hx hb dX10_start_5 (by decide) (fun c1 => ?_) (fun c1 => ?_)
  · exact absurd (by decide) c1
  refine lv_bipush (v := (-2)) hx hb dX10_start_8 (by decide) ?_
  exact W.iret hx hb hr (fun t ht9 hW => ⟨⟨_, (), rfl, rfl, trivial⟩, hS.F ht9⟩) hS.2.2 dX10_start_10
abbrev cX10_walkOver : ByteArray := prog_1_method_22_code
def yX10_walkOver : MethodName := ⟨RX10, "walkOver", "(II)I"⟩
theorem dX10_walkOver_0 : decode cX10_walkOver 0 = .ok (.aload_n 0, 1) := by decide +kernel
theorem dX10_walkOver_1 : decode cX10_walkOver 1 = .ok (.iload_n 1, 1) := by decide +kernel
theorem dX10_walkOver_2 : decode cX10_walkOver 2 = .ok (.invokevirtual 195, 3) := by decide +kernel
theorem dX10_walkOver_5 : decode cX10_walkOver 5 = .ok (.ifCond .ne 6, 3) := by decide +kernel
theorem dX10_walkOver_8 : decode cX10_walkOver 8 = .ok (.bipush (-2), 2) := by decide +kernel
theorem dX10_walkOver_10 : decode cX10_walkOver 10 = .ok (.ireturn, 1) := by decide +kernel
set_option maxHeartbeats 4000000 in
set_option maxRecDepth 100000 in
theorem ct_X10_walkOver (l : Launch) (dC : Nat → ClassId) (dI : Nat → Nat → Nat) (x0 : Nat) (se : Nat) (fx : List Value) (fse : List Value) (hfx_2 : fx[2]? = some (.ref se)) (hfse_4 : fse[4]? = some (.int 0)) (sz : Nat) (na : Int32) (nb : Int32) : Met l yX10_walkOver (.code yX10_walkOver cX10_walkOver 4 (some .int) :: lw_g) ({ frames := 2, cells := 0, slots := 0, locals := 120 }) (ro_P dC dI [(x0, .inr (10, fx)), (se, .inr (6, fse))] [] sz [.ref x0, .int na, .int nb]) (ri_Q (-2) (va_A [] sz)) 0 0 (va_A [] sz) := by
  refine ro_entry (by decide) (Nat.le_of_ble_eq_true rfl) ?_
  intro p e s m below meth c ls hx hb hr hlocks ht hown hin hml hsz hP hK hD hE hl
  subst hsz
  have hS : va_S (va_A [] s.heap.size) s.heap s.heap [] := va_S.rf
  have hA : ∀ q, s.heap.size ≤ q → va_A [] s.heap.size q := fun q h => Or.inr h
  have hl : lv_has ls 4 [(0, .ref x0), (1, .int na), (2, .int nb)] := hl
  have hown : s.vm.findClass RX10 = some m.cls := hown
  refine lv_aload_n hx hb dX10_walkOver_0 rfl (lv_at hl 0 rfl) ?_
  refine lv_iload_n hx hb dX10_walkOver_1 rfl (lv_at hl 1 rfl) ?_
  refine ro_callV (n := 1) (As := [.int na]) (rest := []) hx hb hml hown ht hK hP hD hS hA hE (ct_X10_isMatch l dC dI x0 se fx fse hfx_2 hfse_4 _ na) [0, 1] [] rfl (by decide) rfl 0 (ci := 10) rfl rfl rfl gv_X10_195 rfl rfl (by decide +kernel) ⟨Nat.le_of_ble_eq_true rfl, Nat.le_of_ble_eq_true rfl⟩ rfl hl.1 (Nat.le_of_ble_eq_true rfl) ⟨Nat.le_of_ble_eq_true rfl, Nat.le_of_ble_eq_true rfl⟩ rfl dX10_walkOver_2 (fun H locs hP hS => ?_)
  refine lv_if_ne (tgt := 11) hx hb dX10_walkOver_5 (by decide) (fun c1 => ?_) (fun c1 => ?_)
  · exact absurd (by decide) c1
  refine lv_bipush (v := (-2)) hx hb dX10_walkOver_8 (by decide) ?_
  exact W.iret hx hb hr (fun t ht9 hW => ⟨⟨_, (), rfl, rfl, trivial⟩, hS.F ht9⟩) hS.2.2 dX10_walkOver_10
abbrev cX10_event : ByteArray := prog_1_method_23_code
def yX10_event : MethodName := ⟨RX10, "event", "(IIIII)I"⟩
theorem dX10_event_0 : decode cX10_event 0 = .ok (.aload_n 0, 1) := by decide +kernel
theorem dX10_event_1 : decode cX10_event 1 = .ok (.iload_n 1, 1) := by decide +kernel
theorem dX10_event_2 : decode cX10_event 2 = .ok (.invokevirtual 195, 3) := by decide +kernel
theorem dX10_event_5 : decode cX10_event 5 = .ok (.ifCond .ne 6, 3) := by decide +kernel
theorem dX10_event_8 : decode cX10_event 8 = .ok (.bipush (-2), 2) := by decide +kernel
theorem dX10_event_10 : decode cX10_event 10 = .ok (.ireturn, 1) := by decide +kernel
set_option maxHeartbeats 4000000 in
set_option maxRecDepth 100000 in
theorem ct_X10_event (l : Launch) (dC : Nat → ClassId) (dI : Nat → Nat → Nat) (x0 : Nat) (se : Nat) (fx : List Value) (fse : List Value) (hfx_2 : fx[2]? = some (.ref se)) (hfse_4 : fse[4]? = some (.int 0)) (sz : Nat) (na : Int32) (nb : Int32) (nc : Int32) (nd : Int32) (ne : Int32) : Met l yX10_event (.code yX10_event cX10_event 8 (some .int) :: lw_g) ({ frames := 2, cells := 0, slots := 0, locals := 120 }) (ro_P dC dI [(x0, .inr (10, fx)), (se, .inr (6, fse))] [] sz [.ref x0, .int na, .int nb, .int nc, .int nd, .int ne]) (ri_Q (-2) (va_A [] sz)) 0 0 (va_A [] sz) := by
  refine ro_entry (by decide) (Nat.le_of_ble_eq_true rfl) ?_
  intro p e s m below meth c ls hx hb hr hlocks ht hown hin hml hsz hP hK hD hE hl
  subst hsz
  have hS : va_S (va_A [] s.heap.size) s.heap s.heap [] := va_S.rf
  have hA : ∀ q, s.heap.size ≤ q → va_A [] s.heap.size q := fun q h => Or.inr h
  have hl : lv_has ls 8 [(0, .ref x0), (1, .int na), (2, .int nb), (3, .int nc), (4, .int nd), (5, .int ne)] := hl
  have hown : s.vm.findClass RX10 = some m.cls := hown
  refine lv_aload_n hx hb dX10_event_0 rfl (lv_at hl 0 rfl) ?_
  refine lv_iload_n hx hb dX10_event_1 rfl (lv_at hl 1 rfl) ?_
  refine ro_callV (n := 1) (As := [.int na]) (rest := []) hx hb hml hown ht hK hP hD hS hA hE (ct_X10_isMatch l dC dI x0 se fx fse hfx_2 hfse_4 _ na) [0, 1] [] rfl (by decide) rfl 0 (ci := 10) rfl rfl rfl gv_X10_195 rfl rfl (by decide +kernel) ⟨Nat.le_of_ble_eq_true rfl, Nat.le_of_ble_eq_true rfl⟩ rfl hl.1 (Nat.le_of_ble_eq_true rfl) ⟨Nat.le_of_ble_eq_true rfl, Nat.le_of_ble_eq_true rfl⟩ rfl dX10_event_2 (fun H locs hP hS => ?_)
  refine lv_if_ne (tgt := 11) hx hb dX10_event_5 (by decide) (fun c1 => ?_) (fun c1 => ?_)
  · exact absurd (by decide) c1
  refine lv_bipush (v := (-2)) hx hb dX10_event_8 (by decide) ?_
  exact W.iret hx hb hr (fun t ht9 hW => ⟨⟨_, (), rfl, rfl, trivial⟩, hS.F ht9⟩) hS.2.2 dX10_event_10
abbrev cX10_review : ByteArray := prog_1_method_24_code
def yX10_review : MethodName := ⟨RX10, "review", "(IIIIII)I"⟩
theorem dX10_review_0 : decode cX10_review 0 = .ok (.aload_n 0, 1) := by decide +kernel
theorem dX10_review_1 : decode cX10_review 1 = .ok (.iload_n 1, 1) := by decide +kernel
theorem dX10_review_2 : decode cX10_review 2 = .ok (.invokevirtual 195, 3) := by decide +kernel
theorem dX10_review_5 : decode cX10_review 5 = .ok (.ifCond .ne 6, 3) := by decide +kernel
theorem dX10_review_8 : decode cX10_review 8 = .ok (.bipush (-2), 2) := by decide +kernel
theorem dX10_review_10 : decode cX10_review 10 = .ok (.ireturn, 1) := by decide +kernel
set_option maxHeartbeats 4000000 in
set_option maxRecDepth 100000 in
theorem ct_X10_review (l : Launch) (dC : Nat → ClassId) (dI : Nat → Nat → Nat) (x0 : Nat) (se : Nat) (fx : List Value) (fse : List Value) (hfx_2 : fx[2]? = some (.ref se)) (hfse_4 : fse[4]? = some (.int 0)) (sz : Nat) (na : Int32) (nb : Int32) (nc : Int32) (nd : Int32) (ne : Int32) (nf : Int32) : Met l yX10_review (.code yX10_review cX10_review 8 (some .int) :: lw_g) ({ frames := 2, cells := 0, slots := 0, locals := 120 }) (ro_P dC dI [(x0, .inr (10, fx)), (se, .inr (6, fse))] [] sz [.ref x0, .int na, .int nb, .int nc, .int nd, .int ne, .int nf]) (ri_Q (-2) (va_A [] sz)) 0 0 (va_A [] sz) := by
  refine ro_entry (by decide) (Nat.le_of_ble_eq_true rfl) ?_
  intro p e s m below meth c ls hx hb hr hlocks ht hown hin hml hsz hP hK hD hE hl
  subst hsz
  have hS : va_S (va_A [] s.heap.size) s.heap s.heap [] := va_S.rf
  have hA : ∀ q, s.heap.size ≤ q → va_A [] s.heap.size q := fun q h => Or.inr h
  have hl : lv_has ls 8 [(0, .ref x0), (1, .int na), (2, .int nb), (3, .int nc), (4, .int nd), (5, .int ne), (6, .int nf)] := hl
  have hown : s.vm.findClass RX10 = some m.cls := hown
  refine lv_aload_n hx hb dX10_review_0 rfl (lv_at hl 0 rfl) ?_
  refine lv_iload_n hx hb dX10_review_1 rfl (lv_at hl 1 rfl) ?_
  refine ro_callV (n := 1) (As := [.int na]) (rest := []) hx hb hml hown ht hK hP hD hS hA hE (ct_X10_isMatch l dC dI x0 se fx fse hfx_2 hfse_4 _ na) [0, 1] [] rfl (by decide) rfl 0 (ci := 10) rfl rfl rfl gv_X10_195 rfl rfl (by decide +kernel) ⟨Nat.le_of_ble_eq_true rfl, Nat.le_of_ble_eq_true rfl⟩ rfl hl.1 (Nat.le_of_ble_eq_true rfl) ⟨Nat.le_of_ble_eq_true rfl, Nat.le_of_ble_eq_true rfl⟩ rfl dX10_review_2 (fun H locs hP hS => ?_)
  refine lv_if_ne (tgt := 11) hx hb dX10_review_5 (by decide) (fun c1 => ?_) (fun c1 => ?_)
  · exact absurd (by decide) c1
  refine lv_bipush (v := (-2)) hx hb dX10_review_8 (by decide) ?_
  exact W.iret hx hb hr (fun t ht9 hW => ⟨⟨_, (), rfl, rfl, trivial⟩, hS.F ht9⟩) hS.2.2 dX10_review_10
abbrev cX10_rows : ByteArray := prog_1_method_25_code
def yX10_rows : MethodName := ⟨RX10, "rows", "(II)I"⟩
theorem dX10_rows_0 : decode cX10_rows 0 = .ok (.aload_n 0, 1) := by decide +kernel
theorem dX10_rows_1 : decode cX10_rows 1 = .ok (.iload_n 1, 1) := by decide +kernel
theorem dX10_rows_2 : decode cX10_rows 2 = .ok (.invokevirtual 195, 3) := by decide +kernel
theorem dX10_rows_5 : decode cX10_rows 5 = .ok (.ifCond .ne 6, 3) := by decide +kernel
theorem dX10_rows_8 : decode cX10_rows 8 = .ok (.bipush (-2), 2) := by decide +kernel
theorem dX10_rows_10 : decode cX10_rows 10 = .ok (.ireturn, 1) := by decide +kernel
set_option maxHeartbeats 4000000 in
set_option maxRecDepth 100000 in
theorem ct_X10_rows (l : Launch) (dC : Nat → ClassId) (dI : Nat → Nat → Nat) (x0 : Nat) (se : Nat) (fx : List Value) (fse : List Value) (hfx_2 : fx[2]? = some (.ref se)) (hfse_4 : fse[4]? = some (.int 0)) (sz : Nat) (na : Int32) (nb : Int32) : Met l yX10_rows (.code yX10_rows cX10_rows 4 (some .int) :: lw_g) ({ frames := 2, cells := 0, slots := 0, locals := 120 }) (ro_P dC dI [(x0, .inr (10, fx)), (se, .inr (6, fse))] [] sz [.ref x0, .int na, .int nb]) (ri_Q (-2) (va_A [] sz)) 0 0 (va_A [] sz) := by
  refine ro_entry (by decide) (Nat.le_of_ble_eq_true rfl) ?_
  intro p e s m below meth c ls hx hb hr hlocks ht hown hin hml hsz hP hK hD hE hl
  subst hsz
  have hS : va_S (va_A [] s.heap.size) s.heap s.heap [] := va_S.rf
  have hA : ∀ q, s.heap.size ≤ q → va_A [] s.heap.size q := fun q h => Or.inr h
  have hl : lv_has ls 4 [(0, .ref x0), (1, .int na), (2, .int nb)] := hl
  have hown : s.vm.findClass RX10 = some m.cls := hown
  refine lv_aload_n hx hb dX10_rows_0 rfl (lv_at hl 0 rfl) ?_
  refine lv_iload_n hx hb dX10_rows_1 rfl (lv_at hl 1 rfl) ?_
  refine ro_callV (n := 1) (As := [.int na]) (rest := []) hx hb hml hown ht hK hP hD hS hA hE (ct_X10_isMatch l dC dI x0 se fx fse hfx_2 hfse_4 _ na) [0, 1] [] rfl (by decide) rfl 0 (ci := 10) rfl rfl rfl gv_X10_195 rfl rfl (by decide +kernel) ⟨Nat.le_of_ble_eq_true rfl, Nat.le_of_ble_eq_true rfl⟩ rfl hl.1 (Nat.le_of_ble_eq_true rfl) ⟨Nat.le_of_ble_eq_true rfl, Nat.le_of_ble_eq_true rfl⟩ rfl dX10_rows_2 (fun H locs hP hS => ?_)
  refine lv_if_ne (tgt := 11) hx hb dX10_rows_5 (by decide) (fun c1 => ?_) (fun c1 => ?_)
  · exact absurd (by decide) c1
  refine lv_bipush (v := (-2)) hx hb dX10_rows_8 (by decide) ?_
  exact W.iret hx hb hr (fun t ht9 hW => ⟨⟨_, (), rfl, rfl, trivial⟩, hS.F ht9⟩) hS.2.2 dX10_rows_10
abbrev cX10_row : ByteArray := prog_1_method_26_code
def yX10_row : MethodName := ⟨RX10, "row", "(III)I"⟩
theorem dX10_row_0 : decode cX10_row 0 = .ok (.aload_n 0, 1) := by decide +kernel
theorem dX10_row_1 : decode cX10_row 1 = .ok (.iload_n 1, 1) := by decide +kernel
theorem dX10_row_2 : decode cX10_row 2 = .ok (.invokevirtual 195, 3) := by decide +kernel
theorem dX10_row_5 : decode cX10_row 5 = .ok (.ifCond .ne 6, 3) := by decide +kernel
theorem dX10_row_8 : decode cX10_row 8 = .ok (.bipush (-2), 2) := by decide +kernel
theorem dX10_row_10 : decode cX10_row 10 = .ok (.ireturn, 1) := by decide +kernel
set_option maxHeartbeats 4000000 in
set_option maxRecDepth 100000 in
theorem ct_X10_row (l : Launch) (dC : Nat → ClassId) (dI : Nat → Nat → Nat) (x0 : Nat) (se : Nat) (fx : List Value) (fse : List Value) (hfx_2 : fx[2]? = some (.ref se)) (hfse_4 : fse[4]? = some (.int 0)) (sz : Nat) (na : Int32) (nb : Int32) (nc : Int32) : Met l yX10_row (.code yX10_row cX10_row 7 (some .int) :: lw_g) ({ frames := 2, cells := 0, slots := 0, locals := 120 }) (ro_P dC dI [(x0, .inr (10, fx)), (se, .inr (6, fse))] [] sz [.ref x0, .int na, .int nb, .int nc]) (ri_Q (-2) (va_A [] sz)) 0 0 (va_A [] sz) := by
  refine ro_entry (by decide) (Nat.le_of_ble_eq_true rfl) ?_
  intro p e s m below meth c ls hx hb hr hlocks ht hown hin hml hsz hP hK hD hE hl
  subst hsz
  have hS : va_S (va_A [] s.heap.size) s.heap s.heap [] := va_S.rf
  have hA : ∀ q, s.heap.size ≤ q → va_A [] s.heap.size q := fun q h => Or.inr h
  have hl : lv_has ls 7 [(0, .ref x0), (1, .int na), (2, .int nb), (3, .int nc)] := hl
  have hown : s.vm.findClass RX10 = some m.cls := hown
  refine lv_aload_n hx hb dX10_row_0 rfl (lv_at hl 0 rfl) ?_
  refine lv_iload_n hx hb dX10_row_1 rfl (lv_at hl 1 rfl) ?_
  refine ro_callV (n := 1) (As := [.int na]) (rest := []) hx hb hml hown ht hK hP hD hS hA hE (ct_X10_isMatch l dC dI x0 se fx fse hfx_2 hfse_4 _ na) [0, 1] [] rfl (by decide) rfl 0 (ci := 10) rfl rfl rfl gv_X10_195 rfl rfl (by decide +kernel) ⟨Nat.le_of_ble_eq_true rfl, Nat.le_of_ble_eq_true rfl⟩ rfl hl.1 (Nat.le_of_ble_eq_true rfl) ⟨Nat.le_of_ble_eq_true rfl, Nat.le_of_ble_eq_true rfl⟩ rfl dX10_row_2 (fun H locs hP hS => ?_)
  refine lv_if_ne (tgt := 11) hx hb dX10_row_5 (by decide) (fun c1 => ?_) (fun c1 => ?_)
  · exact absurd (by decide) c1
  refine lv_bipush (v := (-2)) hx hb dX10_row_8 (by decide) ?_
  exact W.iret hx hb hr (fun t ht9 hW => ⟨⟨_, (), rfl, rfl, trivial⟩, hS.F ht9⟩) hS.2.2 dX10_row_10
abbrev cX10_state : ByteArray := prog_1_method_27_code
def yX10_state : MethodName := ⟨RX10, "state", "(II)I"⟩
theorem dX10_state_0 : decode cX10_state 0 = .ok (.aload_n 0, 1) := by decide +kernel
theorem dX10_state_1 : decode cX10_state 1 = .ok (.iload_n 1, 1) := by decide +kernel
theorem dX10_state_2 : decode cX10_state 2 = .ok (.invokevirtual 195, 3) := by decide +kernel
theorem dX10_state_5 : decode cX10_state 5 = .ok (.ifCond .ne 6, 3) := by decide +kernel
theorem dX10_state_8 : decode cX10_state 8 = .ok (.bipush (-2), 2) := by decide +kernel
theorem dX10_state_10 : decode cX10_state 10 = .ok (.ireturn, 1) := by decide +kernel
set_option maxHeartbeats 4000000 in
set_option maxRecDepth 100000 in
theorem ct_X10_state (l : Launch) (dC : Nat → ClassId) (dI : Nat → Nat → Nat) (x0 : Nat) (se : Nat) (fx : List Value) (fse : List Value) (hfx_2 : fx[2]? = some (.ref se)) (hfse_4 : fse[4]? = some (.int 0)) (sz : Nat) (na : Int32) (nb : Int32) : Met l yX10_state (.code yX10_state cX10_state 4 (some .int) :: lw_g) ({ frames := 2, cells := 0, slots := 0, locals := 120 }) (ro_P dC dI [(x0, .inr (10, fx)), (se, .inr (6, fse))] [] sz [.ref x0, .int na, .int nb]) (ri_Q (-2) (va_A [] sz)) 0 0 (va_A [] sz) := by
  refine ro_entry (by decide) (Nat.le_of_ble_eq_true rfl) ?_
  intro p e s m below meth c ls hx hb hr hlocks ht hown hin hml hsz hP hK hD hE hl
  subst hsz
  have hS : va_S (va_A [] s.heap.size) s.heap s.heap [] := va_S.rf
  have hA : ∀ q, s.heap.size ≤ q → va_A [] s.heap.size q := fun q h => Or.inr h
  have hl : lv_has ls 4 [(0, .ref x0), (1, .int na), (2, .int nb)] := hl
  have hown : s.vm.findClass RX10 = some m.cls := hown
  refine lv_aload_n hx hb dX10_state_0 rfl (lv_at hl 0 rfl) ?_
  refine lv_iload_n hx hb dX10_state_1 rfl (lv_at hl 1 rfl) ?_
  refine ro_callV (n := 1) (As := [.int na]) (rest := []) hx hb hml hown ht hK hP hD hS hA hE (ct_X10_isMatch l dC dI x0 se fx fse hfx_2 hfse_4 _ na) [0, 1] [] rfl (by decide) rfl 0 (ci := 10) rfl rfl rfl gv_X10_195 rfl rfl (by decide +kernel) ⟨Nat.le_of_ble_eq_true rfl, Nat.le_of_ble_eq_true rfl⟩ rfl hl.1 (Nat.le_of_ble_eq_true rfl) ⟨Nat.le_of_ble_eq_true rfl, Nat.le_of_ble_eq_true rfl⟩ rfl dX10_state_2 (fun H locs hP hS => ?_)
  refine lv_if_ne (tgt := 11) hx hb dX10_state_5 (by decide) (fun c1 => ?_) (fun c1 => ?_)
  · exact absurd (by decide) c1
  refine lv_bipush (v := (-2)) hx hb dX10_state_8 (by decide) ?_
  exact W.iret hx hb hr (fun t ht9 hW => ⟨⟨_, (), rfl, rfl, trivial⟩, hS.F ht9⟩) hS.2.2 dX10_state_10
abbrev cX10_onField : ByteArray := prog_1_method_28_code
def yX10_onField : MethodName := ⟨RX10, "onField", "(III)I"⟩
theorem dX10_onField_0 : decode cX10_onField 0 = .ok (.aload_n 0, 1) := by decide +kernel
theorem dX10_onField_1 : decode cX10_onField 1 = .ok (.iload_n 1, 1) := by decide +kernel
theorem dX10_onField_2 : decode cX10_onField 2 = .ok (.invokevirtual 195, 3) := by decide +kernel
theorem dX10_onField_5 : decode cX10_onField 5 = .ok (.ifCond .ne 6, 3) := by decide +kernel
theorem dX10_onField_8 : decode cX10_onField 8 = .ok (.bipush (-2), 2) := by decide +kernel
theorem dX10_onField_10 : decode cX10_onField 10 = .ok (.ireturn, 1) := by decide +kernel
set_option maxHeartbeats 4000000 in
set_option maxRecDepth 100000 in
theorem ct_X10_onField (l : Launch) (dC : Nat → ClassId) (dI : Nat → Nat → Nat) (x0 : Nat) (se : Nat) (fx : List Value) (fse : List Value) (hfx_2 : fx[2]? = some (.ref se)) (hfse_4 : fse[4]? = some (.int 0)) (sz : Nat) (na : Int32) (nb : Int32) (nc : Int32) : Met l yX10_onField (.code yX10_onField cX10_onField 5 (some .int) :: lw_g) ({ frames := 2, cells := 0, slots := 0, locals := 120 }) (ro_P dC dI [(x0, .inr (10, fx)), (se, .inr (6, fse))] [] sz [.ref x0, .int na, .int nb, .int nc]) (ri_Q (-2) (va_A [] sz)) 0 0 (va_A [] sz) := by
  refine ro_entry (by decide) (Nat.le_of_ble_eq_true rfl) ?_
  intro p e s m below meth c ls hx hb hr hlocks ht hown hin hml hsz hP hK hD hE hl
  subst hsz
  have hS : va_S (va_A [] s.heap.size) s.heap s.heap [] := va_S.rf
  have hA : ∀ q, s.heap.size ≤ q → va_A [] s.heap.size q := fun q h => Or.inr h
  have hl : lv_has ls 5 [(0, .ref x0), (1, .int na), (2, .int nb), (3, .int nc)] := hl
  have hown : s.vm.findClass RX10 = some m.cls := hown
  refine lv_aload_n hx hb dX10_onField_0 rfl (lv_at hl 0 rfl) ?_
  refine lv_iload_n hx hb dX10_onField_1 rfl (lv_at hl 1 rfl) ?_
  refine ro_callV (n := 1) (As := [.int na]) (rest := []) hx hb hml hown ht hK hP hD hS hA hE (ct_X10_isMatch l dC dI x0 se fx fse hfx_2 hfse_4 _ na) [0, 1] [] rfl (by decide) rfl 0 (ci := 10) rfl rfl rfl gv_X10_195 rfl rfl (by decide +kernel) ⟨Nat.le_of_ble_eq_true rfl, Nat.le_of_ble_eq_true rfl⟩ rfl hl.1 (Nat.le_of_ble_eq_true rfl) ⟨Nat.le_of_ble_eq_true rfl, Nat.le_of_ble_eq_true rfl⟩ rfl dX10_onField_2 (fun H locs hP hS => ?_)
  refine lv_if_ne (tgt := 11) hx hb dX10_onField_5 (by decide) (fun c1 => ?_) (fun c1 => ?_)
  · exact absurd (by decide) c1
  refine lv_bipush (v := (-2)) hx hb dX10_onField_8 (by decide) ?_
  exact W.iret hx hb hr (fun t ht9 hW => ⟨⟨_, (), rfl, rfl, trivial⟩, hS.F ht9⟩) hS.2.2 dX10_onField_10
abbrev cX10_table : ByteArray := prog_1_method_29_code
def yX10_table : MethodName := ⟨RX10, "table", "(IIII)I"⟩
theorem dX10_table_0 : decode cX10_table 0 = .ok (.aload_n 0, 1) := by decide +kernel
theorem dX10_table_1 : decode cX10_table 1 = .ok (.iload_n 1, 1) := by decide +kernel
theorem dX10_table_2 : decode cX10_table 2 = .ok (.invokevirtual 107, 3) := by decide +kernel
theorem dX10_table_5 : decode cX10_table 5 = .ok (.ifCond .eq 11, 3) := by decide +kernel
theorem dX10_table_16 : decode cX10_table 16 = .ok (.bipush (-2), 2) := by decide +kernel
theorem dX10_table_18 : decode cX10_table 18 = .ok (.ireturn, 1) := by decide +kernel
set_option maxHeartbeats 4000000 in
set_option maxRecDepth 100000 in
theorem ct_X10_table (l : Launch) (dC : Nat → ClassId) (dI : Nat → Nat → Nat) (x0 : Nat) (se : Nat) (fx : List Value) (fse : List Value) (hfx_2 : fx[2]? = some (.ref se)) (hfse_2 : fse[2]? = some (.int 0)) (sz : Nat) (na : Int32) (nb : Int32) (nc : Int32) (nd : Int32) : Met l yX10_table (.code yX10_table cX10_table 7 (some .int) :: lw_g) ({ frames := 2, cells := 0, slots := 0, locals := 120 }) (ro_P dC dI [(x0, .inr (10, fx)), (se, .inr (6, fse))] [] sz [.ref x0, .int na, .int nb, .int nc, .int nd]) (ri_Q (-2) (va_A [] sz)) 0 0 (va_A [] sz) := by
  refine ro_entry (by decide) (Nat.le_of_ble_eq_true rfl) ?_
  intro p e s m below meth c ls hx hb hr hlocks ht hown hin hml hsz hP hK hD hE hl
  subst hsz
  have hS : va_S (va_A [] s.heap.size) s.heap s.heap [] := va_S.rf
  have hA : ∀ q, s.heap.size ≤ q → va_A [] s.heap.size q := fun q h => Or.inr h
  have hl : lv_has ls 7 [(0, .ref x0), (1, .int na), (2, .int nb), (3, .int nc), (4, .int nd)] := hl
  have hown : s.vm.findClass RX10 = some m.cls := hown
  refine lv_aload_n hx hb dX10_table_0 rfl (lv_at hl 0 rfl) ?_
  refine lv_iload_n hx hb dX10_table_1 rfl (lv_at hl 1 rfl) ?_
  refine ro_callV (n := 1) (As := [.int na]) (rest := []) hx hb hml hown ht hK hP hD hS hA hE (ct_X10_isCompetition l dC dI x0 se fx fse hfx_2 hfse_2 _ na) [0, 1] [] rfl (by decide) rfl 0 (ci := 10) rfl rfl rfl gv_X10_107 rfl rfl (by decide +kernel) ⟨Nat.le_of_ble_eq_true rfl, Nat.le_of_ble_eq_true rfl⟩ rfl hl.1 (Nat.le_of_ble_eq_true rfl) ⟨Nat.le_of_ble_eq_true rfl, Nat.le_of_ble_eq_true rfl⟩ rfl dX10_table_2 (fun H locs hP hS => ?_)
  refine lv_if_eq (tgt := 16) hx hb dX10_table_5 (by decide) (fun c1 => ?_) (fun c1 => ?_)
  rotate_left
  · exact absurd (by decide) c1
  refine lv_bipush (v := (-2)) hx hb dX10_table_16 (by decide) ?_
  exact W.iret hx hb hr (fun t ht9 hW => ⟨⟨_, (), rfl, rfl, trivial⟩, hS.F ht9⟩) hS.2.2 dX10_table_18
abbrev cX10_standing : ByteArray := prog_1_method_30_code
def yX10_standing : MethodName := ⟨RX10, "standing", "(III)I"⟩
theorem dX10_standing_0 : decode cX10_standing 0 = .ok (.aload_n 0, 1) := by decide +kernel
theorem dX10_standing_1 : decode cX10_standing 1 = .ok (.iload_n 1, 1) := by decide +kernel
theorem dX10_standing_2 : decode cX10_standing 2 = .ok (.invokevirtual 107, 3) := by decide +kernel
theorem dX10_standing_5 : decode cX10_standing 5 = .ok (.ifCond .ne 6, 3) := by decide +kernel
theorem dX10_standing_8 : decode cX10_standing 8 = .ok (.bipush (-2), 2) := by decide +kernel
theorem dX10_standing_10 : decode cX10_standing 10 = .ok (.ireturn, 1) := by decide +kernel
set_option maxHeartbeats 4000000 in
set_option maxRecDepth 100000 in
theorem ct_X10_standing (l : Launch) (dC : Nat → ClassId) (dI : Nat → Nat → Nat) (x0 : Nat) (se : Nat) (fx : List Value) (fse : List Value) (hfx_2 : fx[2]? = some (.ref se)) (hfse_2 : fse[2]? = some (.int 0)) (sz : Nat) (na : Int32) (nb : Int32) (nc : Int32) : Met l yX10_standing (.code yX10_standing cX10_standing 5 (some .int) :: lw_g) ({ frames := 2, cells := 0, slots := 0, locals := 120 }) (ro_P dC dI [(x0, .inr (10, fx)), (se, .inr (6, fse))] [] sz [.ref x0, .int na, .int nb, .int nc]) (ri_Q (-2) (va_A [] sz)) 0 0 (va_A [] sz) := by
  refine ro_entry (by decide) (Nat.le_of_ble_eq_true rfl) ?_
  intro p e s m below meth c ls hx hb hr hlocks ht hown hin hml hsz hP hK hD hE hl
  subst hsz
  have hS : va_S (va_A [] s.heap.size) s.heap s.heap [] := va_S.rf
  have hA : ∀ q, s.heap.size ≤ q → va_A [] s.heap.size q := fun q h => Or.inr h
  have hl : lv_has ls 5 [(0, .ref x0), (1, .int na), (2, .int nb), (3, .int nc)] := hl
  have hown : s.vm.findClass RX10 = some m.cls := hown
  refine lv_aload_n hx hb dX10_standing_0 rfl (lv_at hl 0 rfl) ?_
  refine lv_iload_n hx hb dX10_standing_1 rfl (lv_at hl 1 rfl) ?_
  refine ro_callV (n := 1) (As := [.int na]) (rest := []) hx hb hml hown ht hK hP hD hS hA hE (ct_X10_isCompetition l dC dI x0 se fx fse hfx_2 hfse_2 _ na) [0, 1] [] rfl (by decide) rfl 0 (ci := 10) rfl rfl rfl gv_X10_107 rfl rfl (by decide +kernel) ⟨Nat.le_of_ble_eq_true rfl, Nat.le_of_ble_eq_true rfl⟩ rfl hl.1 (Nat.le_of_ble_eq_true rfl) ⟨Nat.le_of_ble_eq_true rfl, Nat.le_of_ble_eq_true rfl⟩ rfl dX10_standing_2 (fun H locs hP hS => ?_)
  refine lv_if_ne (tgt := 11) hx hb dX10_standing_5 (by decide) (fun c1 => ?_) (fun c1 => ?_)
  · exact absurd (by decide) c1
  refine lv_bipush (v := (-2)) hx hb dX10_standing_8 (by decide) ?_
  exact W.iret hx hb hr (fun t ht9 hW => ⟨⟨_, (), rfl, rfl, trivial⟩, hS.F ht9⟩) hS.2.2 dX10_standing_10
abbrev cX10_parted : ByteArray := prog_1_method_31_code
def yX10_parted : MethodName := ⟨RX10, "parted", "(III)I"⟩
theorem dX10_parted_0 : decode cX10_parted 0 = .ok (.aload_n 0, 1) := by decide +kernel
theorem dX10_parted_1 : decode cX10_parted 1 = .ok (.iload_n 1, 1) := by decide +kernel
theorem dX10_parted_2 : decode cX10_parted 2 = .ok (.invokevirtual 107, 3) := by decide +kernel
theorem dX10_parted_5 : decode cX10_parted 5 = .ok (.ifCond .ne 6, 3) := by decide +kernel
theorem dX10_parted_8 : decode cX10_parted 8 = .ok (.bipush (-2), 2) := by decide +kernel
theorem dX10_parted_10 : decode cX10_parted 10 = .ok (.ireturn, 1) := by decide +kernel
set_option maxHeartbeats 4000000 in
set_option maxRecDepth 100000 in
theorem ct_X10_parted (l : Launch) (dC : Nat → ClassId) (dI : Nat → Nat → Nat) (x0 : Nat) (se : Nat) (fx : List Value) (fse : List Value) (hfx_2 : fx[2]? = some (.ref se)) (hfse_2 : fse[2]? = some (.int 0)) (sz : Nat) (na : Int32) (nb : Int32) (nc : Int32) : Met l yX10_parted (.code yX10_parted cX10_parted 5 (some .int) :: lw_g) ({ frames := 2, cells := 0, slots := 0, locals := 120 }) (ro_P dC dI [(x0, .inr (10, fx)), (se, .inr (6, fse))] [] sz [.ref x0, .int na, .int nb, .int nc]) (ri_Q (-2) (va_A [] sz)) 0 0 (va_A [] sz) := by
  refine ro_entry (by decide) (Nat.le_of_ble_eq_true rfl) ?_
  intro p e s m below meth c ls hx hb hr hlocks ht hown hin hml hsz hP hK hD hE hl
  subst hsz
  have hS : va_S (va_A [] s.heap.size) s.heap s.heap [] := va_S.rf
  have hA : ∀ q, s.heap.size ≤ q → va_A [] s.heap.size q := fun q h => Or.inr h
  have hl : lv_has ls 5 [(0, .ref x0), (1, .int na), (2, .int nb), (3, .int nc)] := hl
  have hown : s.vm.findClass RX10 = some m.cls := hown
  refine lv_aload_n hx hb dX10_parted_0 rfl (lv_at hl 0 rfl) ?_
  refine lv_iload_n hx hb dX10_parted_1 rfl (lv_at hl 1 rfl) ?_
  refine ro_callV (n := 1) (As := [.int na]) (rest := []) hx hb hml hown ht hK hP hD hS hA hE (ct_X10_isCompetition l dC dI x0 se fx fse hfx_2 hfse_2 _ na) [0, 1] [] rfl (by decide) rfl 0 (ci := 10) rfl rfl rfl gv_X10_107 rfl rfl (by decide +kernel) ⟨Nat.le_of_ble_eq_true rfl, Nat.le_of_ble_eq_true rfl⟩ rfl hl.1 (Nat.le_of_ble_eq_true rfl) ⟨Nat.le_of_ble_eq_true rfl, Nat.le_of_ble_eq_true rfl⟩ rfl dX10_parted_2 (fun H locs hP hS => ?_)
  refine lv_if_ne (tgt := 11) hx hb dX10_parted_5 (by decide) (fun c1 => ?_) (fun c1 => ?_)
  · exact absurd (by decide) c1
  refine lv_bipush (v := (-2)) hx hb dX10_parted_8 (by decide) ?_
  exact W.iret hx hb hr (fun t ht9 hW => ⟨⟨_, (), rfl, rfl, trivial⟩, hS.F ht9⟩) hS.2.2 dX10_parted_10
abbrev cX10_can : ByteArray := prog_1_method_32_code
def yX10_can : MethodName := ⟨RX10, "can", "(II)I"⟩
theorem dX10_can_0 : decode cX10_can 0 = .ok (.aload_n 0, 1) := by decide +kernel
theorem dX10_can_1 : decode cX10_can 1 = .ok (.iload_n 1, 1) := by decide +kernel
theorem dX10_can_2 : decode cX10_can 2 = .ok (.invokevirtual 107, 3) := by decide +kernel
theorem dX10_can_5 : decode cX10_can 5 = .ok (.ifCond .eq 11, 3) := by decide +kernel
theorem dX10_can_16 : decode cX10_can 16 = .ok (.bipush (-2), 2) := by decide +kernel
theorem dX10_can_18 : decode cX10_can 18 = .ok (.ireturn, 1) := by decide +kernel
set_option maxHeartbeats 4000000 in
set_option maxRecDepth 100000 in
theorem ct_X10_can (l : Launch) (dC : Nat → ClassId) (dI : Nat → Nat → Nat) (x0 : Nat) (se : Nat) (fx : List Value) (fse : List Value) (hfx_2 : fx[2]? = some (.ref se)) (hfse_2 : fse[2]? = some (.int 0)) (sz : Nat) (na : Int32) (nb : Int32) : Met l yX10_can (.code yX10_can cX10_can 4 (some .int) :: lw_g) ({ frames := 2, cells := 0, slots := 0, locals := 120 }) (ro_P dC dI [(x0, .inr (10, fx)), (se, .inr (6, fse))] [] sz [.ref x0, .int na, .int nb]) (ri_Q (-2) (va_A [] sz)) 0 0 (va_A [] sz) := by
  refine ro_entry (by decide) (Nat.le_of_ble_eq_true rfl) ?_
  intro p e s m below meth c ls hx hb hr hlocks ht hown hin hml hsz hP hK hD hE hl
  subst hsz
  have hS : va_S (va_A [] s.heap.size) s.heap s.heap [] := va_S.rf
  have hA : ∀ q, s.heap.size ≤ q → va_A [] s.heap.size q := fun q h => Or.inr h
  have hl : lv_has ls 4 [(0, .ref x0), (1, .int na), (2, .int nb)] := hl
  have hown : s.vm.findClass RX10 = some m.cls := hown
  refine lv_aload_n hx hb dX10_can_0 rfl (lv_at hl 0 rfl) ?_
  refine lv_iload_n hx hb dX10_can_1 rfl (lv_at hl 1 rfl) ?_
  refine ro_callV (n := 1) (As := [.int na]) (rest := []) hx hb hml hown ht hK hP hD hS hA hE (ct_X10_isCompetition l dC dI x0 se fx fse hfx_2 hfse_2 _ na) [0, 1] [] rfl (by decide) rfl 0 (ci := 10) rfl rfl rfl gv_X10_107 rfl rfl (by decide +kernel) ⟨Nat.le_of_ble_eq_true rfl, Nat.le_of_ble_eq_true rfl⟩ rfl hl.1 (Nat.le_of_ble_eq_true rfl) ⟨Nat.le_of_ble_eq_true rfl, Nat.le_of_ble_eq_true rfl⟩ rfl dX10_can_2 (fun H locs hP hS => ?_)
  refine lv_if_eq (tgt := 16) hx hb dX10_can_5 (by decide) (fun c1 => ?_) (fun c1 => ?_)
  rotate_left
  · exact absurd (by decide) c1
  refine lv_bipush (v := (-2)) hx hb dX10_can_16 (by decide) ?_
  exact W.iret hx hb hr (fun t ht9 hW => ⟨⟨_, (), rfl, rfl, trivial⟩, hS.F ht9⟩) hS.2.2 dX10_can_18
abbrev cX10_witness : ByteArray := prog_1_method_33_code
def yX10_witness : MethodName := ⟨RX10, "witness", "(I)I"⟩
theorem dX10_witness_0 : decode cX10_witness 0 = .ok (.aload_n 0, 1) := by decide +kernel
theorem dX10_witness_1 : decode cX10_witness 1 = .ok (.iload_n 1, 1) := by decide +kernel
theorem dX10_witness_2 : decode cX10_witness 2 = .ok (.invokevirtual 195, 3) := by decide +kernel
theorem dX10_witness_5 : decode cX10_witness 5 = .ok (.ifCond .ne 6, 3) := by decide +kernel
theorem dX10_witness_8 : decode cX10_witness 8 = .ok (.bipush (-2), 2) := by decide +kernel
theorem dX10_witness_10 : decode cX10_witness 10 = .ok (.ireturn, 1) := by decide +kernel
set_option maxHeartbeats 4000000 in
set_option maxRecDepth 100000 in
theorem ct_X10_witness (l : Launch) (dC : Nat → ClassId) (dI : Nat → Nat → Nat) (x0 : Nat) (se : Nat) (fx : List Value) (fse : List Value) (hfx_2 : fx[2]? = some (.ref se)) (hfse_4 : fse[4]? = some (.int 0)) (sz : Nat) (na : Int32) : Met l yX10_witness (.code yX10_witness cX10_witness 2 (some .int) :: lw_g) ({ frames := 2, cells := 0, slots := 0, locals := 120 }) (ro_P dC dI [(x0, .inr (10, fx)), (se, .inr (6, fse))] [] sz [.ref x0, .int na]) (ri_Q (-2) (va_A [] sz)) 0 0 (va_A [] sz) := by
  refine ro_entry (by decide) (Nat.le_of_ble_eq_true rfl) ?_
  intro p e s m below meth c ls hx hb hr hlocks ht hown hin hml hsz hP hK hD hE hl
  subst hsz
  have hS : va_S (va_A [] s.heap.size) s.heap s.heap [] := va_S.rf
  have hA : ∀ q, s.heap.size ≤ q → va_A [] s.heap.size q := fun q h => Or.inr h
  have hl : lv_has ls 2 [(0, .ref x0), (1, .int na)] := hl
  have hown : s.vm.findClass RX10 = some m.cls := hown
  refine lv_aload_n hx hb dX10_witness_0 rfl (lv_at hl 0 rfl) ?_
  refine lv_iload_n hx hb dX10_witness_1 rfl (lv_at hl 1 rfl) ?_
  refine ro_callV (n := 1) (As := [.int na]) (rest := []) hx hb hml hown ht hK hP hD hS hA hE (ct_X10_isMatch l dC dI x0 se fx fse hfx_2 hfse_4 _ na) [0, 1] [] rfl (by decide) rfl 0 (ci := 10) rfl rfl rfl gv_X10_195 rfl rfl (by decide +kernel) ⟨Nat.le_of_ble_eq_true rfl, Nat.le_of_ble_eq_true rfl⟩ rfl hl.1 (Nat.le_of_ble_eq_true rfl) ⟨Nat.le_of_ble_eq_true rfl, Nat.le_of_ble_eq_true rfl⟩ rfl dX10_witness_2 (fun H locs hP hS => ?_)
  refine lv_if_ne (tgt := 11) hx hb dX10_witness_5 (by decide) (fun c1 => ?_) (fun c1 => ?_)
  · exact absurd (by decide) c1
  refine lv_bipush (v := (-2)) hx hb dX10_witness_8 (by decide) ?_
  exact W.iret hx hb hr (fun t ht9 hW => ⟨⟨_, (), rfl, rfl, trivial⟩, hS.F ht9⟩) hS.2.2 dX10_witness_10
abbrev cX10_cut : ByteArray := prog_1_method_34_code
def yX10_cut : MethodName := ⟨RX10, "cut", "()I"⟩
theorem dX10_cut_0 : decode cX10_cut 0 = .ok (.aload_n 0, 1) := by decide +kernel
theorem dX10_cut_1 : decode cX10_cut 1 = .ok (.getfield 46, 3) := by decide +kernel
theorem kw_409 : Cond.fieldLink RX10 46 "SportsHouse" "title" "LSportsHouse$Title;" ∈ lw_g := lw_at 409 (by decide +kernel) rfl
theorem dX10_cut_4 : decode cX10_cut 4 = .ok (.getfield 374, 3) := by decide +kernel
theorem kw_273 : Cond.fieldLink RX10 374 "SportsHouse$Title" "cutBits" "I" ∈ lw_g := lw_at 273 (by decide +kernel) rfl
theorem dX10_cut_7 : decode cX10_cut 7 = .ok (.ireturn, 1) := by decide +kernel
set_option maxHeartbeats 4000000 in
set_option maxRecDepth 100000 in
theorem ct_X10_cut (l : Launch) (dC : Nat → ClassId) (dI : Nat → Nat → Nat) (x0 : Nat) (ti : Nat) (fx : List Value) (fti : List Value) (hfx_4 : fx[4]? = some (.ref ti)) (hfti_3 : fti[3]? = some (.int 0)) (sz : Nat)  : Met l yX10_cut (.code yX10_cut cX10_cut 1 (some .int) :: lw_g) ({ frames := 2, cells := 0, slots := 0, locals := 120 }) (ro_P dC dI [(x0, .inr (10, fx)), (ti, .inr (9, fti))] [] sz [.ref x0]) (ri_Q 0 (va_A [] sz)) 0 0 (va_A [] sz) := by
  refine ro_entry (by decide) (Nat.le_of_ble_eq_true rfl) ?_
  intro p e s m below meth c ls hx hb hr hlocks ht hown hin hml hsz hP hK hD hE hl
  subst hsz
  have hS : va_S (va_A [] s.heap.size) s.heap s.heap [] := va_S.rf
  have hA : ∀ q, s.heap.size ≤ q → va_A [] s.heap.size q := fun q h => Or.inr h
  have hl : lv_has ls 1 [(0, .ref x0)] := hl
  have hown : s.vm.findClass RX10 = some m.cls := hown
  refine lv_aload_n hx hb dX10_cut_0 rfl (lv_at hl 0 rfl) ?_
  refine va_get (D := (dC, dI)) (ci := 10) (v := .ref ti) (C := RX10) (T := TX10) (N := 7) hx hb ht inX10 hown hK hP 0 rfl rfl 4 (by decide) (ht _ kw_409) (fun _ h9 => h9) hfx_4 dX10_cut_1 ?_
  refine va_get (D := (dC, dI)) (ci := 9) (v := .int 0) (C := RX9) (T := TX9) (N := 16) hx hb ht inX9 hown hK hP 1 rfl rfl 3 (by decide) (ht _ kw_273) (fun _ h9 => h9) hfti_3 dX10_cut_4 ?_
  exact W.iret hx hb hr (fun t ht9 hW => ⟨⟨_, (), rfl, rfl, trivial⟩, hS.F ht9⟩) hS.2.2 dX10_cut_7
abbrev cX10_firsts : ByteArray := prog_1_method_35_code
def yX10_firsts : MethodName := ⟨RX10, "firsts", "(II)I"⟩
theorem dX10_firsts_0 : decode cX10_firsts 0 = .ok (.aload_n 0, 1) := by decide +kernel
theorem dX10_firsts_1 : decode cX10_firsts 1 = .ok (.iload_n 1, 1) := by decide +kernel
theorem dX10_firsts_2 : decode cX10_firsts 2 = .ok (.invokevirtual 107, 3) := by decide +kernel
theorem dX10_firsts_5 : decode cX10_firsts 5 = .ok (.ifCond .eq 11, 3) := by decide +kernel
theorem dX10_firsts_16 : decode cX10_firsts 16 = .ok (.bipush (-2), 2) := by decide +kernel
theorem dX10_firsts_18 : decode cX10_firsts 18 = .ok (.ireturn, 1) := by decide +kernel
set_option maxHeartbeats 4000000 in
set_option maxRecDepth 100000 in
theorem ct_X10_firsts (l : Launch) (dC : Nat → ClassId) (dI : Nat → Nat → Nat) (x0 : Nat) (se : Nat) (fx : List Value) (fse : List Value) (hfx_2 : fx[2]? = some (.ref se)) (hfse_2 : fse[2]? = some (.int 0)) (sz : Nat) (na : Int32) (nb : Int32) : Met l yX10_firsts (.code yX10_firsts cX10_firsts 4 (some .int) :: lw_g) ({ frames := 2, cells := 0, slots := 0, locals := 120 }) (ro_P dC dI [(x0, .inr (10, fx)), (se, .inr (6, fse))] [] sz [.ref x0, .int na, .int nb]) (ri_Q (-2) (va_A [] sz)) 0 0 (va_A [] sz) := by
  refine ro_entry (by decide) (Nat.le_of_ble_eq_true rfl) ?_
  intro p e s m below meth c ls hx hb hr hlocks ht hown hin hml hsz hP hK hD hE hl
  subst hsz
  have hS : va_S (va_A [] s.heap.size) s.heap s.heap [] := va_S.rf
  have hA : ∀ q, s.heap.size ≤ q → va_A [] s.heap.size q := fun q h => Or.inr h
  have hl : lv_has ls 4 [(0, .ref x0), (1, .int na), (2, .int nb)] := hl
  have hown : s.vm.findClass RX10 = some m.cls := hown
  refine lv_aload_n hx hb dX10_firsts_0 rfl (lv_at hl 0 rfl) ?_
  refine lv_iload_n hx hb dX10_firsts_1 rfl (lv_at hl 1 rfl) ?_
  refine ro_callV (n := 1) (As := [.int na]) (rest := []) hx hb hml hown ht hK hP hD hS hA hE (ct_X10_isCompetition l dC dI x0 se fx fse hfx_2 hfse_2 _ na) [0, 1] [] rfl (by decide) rfl 0 (ci := 10) rfl rfl rfl gv_X10_107 rfl rfl (by decide +kernel) ⟨Nat.le_of_ble_eq_true rfl, Nat.le_of_ble_eq_true rfl⟩ rfl hl.1 (Nat.le_of_ble_eq_true rfl) ⟨Nat.le_of_ble_eq_true rfl, Nat.le_of_ble_eq_true rfl⟩ rfl dX10_firsts_2 (fun H locs hP hS => ?_)
  refine lv_if_eq (tgt := 16) hx hb dX10_firsts_5 (by decide) (fun c1 => ?_) (fun c1 => ?_)
  rotate_left
  · exact absurd (by decide) c1
  refine lv_bipush (v := (-2)) hx hb dX10_firsts_16 (by decide) ?_
  exact W.iret hx hb hr (fun t ht9 hW => ⟨⟨_, (), rfl, rfl, trivial⟩, hS.F ht9⟩) hS.2.2 dX10_firsts_18
abbrev cX10_pot : ByteArray := prog_1_method_37_code
def yX10_pot : MethodName := ⟨RX10, "pot", "(II)I"⟩
theorem dX10_pot_0 : decode cX10_pot 0 = .ok (.aload_n 0, 1) := by decide +kernel
theorem dX10_pot_1 : decode cX10_pot 1 = .ok (.iload_n 1, 1) := by decide +kernel
theorem dX10_pot_2 : decode cX10_pot 2 = .ok (.invokevirtual 137, 3) := by decide +kernel
theorem kw_645 : Cond.methodLink RX10 137 yX10_isClub ∈ lw_g := lw_at 645 (by decide +kernel) rfl
theorem kw_647 : Cond.instanceMethod yX10_isClub ∈ lw_g := lw_at 647 (by decide +kernel) rfl
theorem ks_X10_isClub : Cond.selects RX10 yX10_isClub yX10_isClub ∈ lw_g := lw_sel 1 rfl
theorem kw_648 : Cond.code yX10_isClub cX10_isClub 2 (some .boolean) ∈ lw_g := lw_at 648 (by decide +kernel) rfl
theorem gv_X10_137 : GoodIn lw_g (wsV RX10 137 RX10 yX10_isClub (.code yX10_isClub cX10_isClub 2 (some .boolean) :: lw_g)) := gi_V kw_645 kw_647 ks_X10_isClub kw_1 kw_648
theorem dX10_pot_5 : decode cX10_pot 5 = .ok (.ifCond .ne 6, 3) := by decide +kernel
theorem dX10_pot_8 : decode cX10_pot 8 = .ok (.bipush (-2), 2) := by decide +kernel
theorem dX10_pot_10 : decode cX10_pot 10 = .ok (.ireturn, 1) := by decide +kernel
set_option maxHeartbeats 4000000 in
set_option maxRecDepth 100000 in
theorem ct_X10_pot (l : Launch) (dC : Nat → ClassId) (dI : Nat → Nat → Nat) (x0 : Nat) (th : Nat) (fx : List Value) (fth : List Value) (hfx_1 : fx[1]? = some (.ref th)) (hfth_2 : fth[2]? = some (.int 0)) (sz : Nat) (na : Int32) (nb : Int32) : Met l yX10_pot (.code yX10_pot cX10_pot 3 (some .int) :: lw_g) ({ frames := 2, cells := 0, slots := 0, locals := 120 }) (ro_P dC dI [(x0, .inr (10, fx)), (th, .inr (8, fth))] [] sz [.ref x0, .int na, .int nb]) (ri_Q (-2) (va_A [] sz)) 0 0 (va_A [] sz) := by
  refine ro_entry (by decide) (Nat.le_of_ble_eq_true rfl) ?_
  intro p e s m below meth c ls hx hb hr hlocks ht hown hin hml hsz hP hK hD hE hl
  subst hsz
  have hS : va_S (va_A [] s.heap.size) s.heap s.heap [] := va_S.rf
  have hA : ∀ q, s.heap.size ≤ q → va_A [] s.heap.size q := fun q h => Or.inr h
  have hl : lv_has ls 3 [(0, .ref x0), (1, .int na), (2, .int nb)] := hl
  have hown : s.vm.findClass RX10 = some m.cls := hown
  refine lv_aload_n hx hb dX10_pot_0 rfl (lv_at hl 0 rfl) ?_
  refine lv_iload_n hx hb dX10_pot_1 rfl (lv_at hl 1 rfl) ?_
  refine ro_callV (n := 1) (As := [.int na]) (rest := []) hx hb hml hown ht hK hP hD hS hA hE (ct_X10_isClub l dC dI x0 th fx fth hfx_1 hfth_2 _ na) [0, 1] [] rfl (by decide) rfl 0 (ci := 10) rfl rfl rfl gv_X10_137 rfl rfl (by decide +kernel) ⟨Nat.le_of_ble_eq_true rfl, Nat.le_of_ble_eq_true rfl⟩ rfl hl.1 (Nat.le_of_ble_eq_true rfl) ⟨Nat.le_of_ble_eq_true rfl, Nat.le_of_ble_eq_true rfl⟩ rfl dX10_pot_2 (fun H locs hP hS => ?_)
  refine lv_if_ne (tgt := 11) hx hb dX10_pot_5 (by decide) (fun c1 => ?_) (fun c1 => ?_)
  · exact absurd (by decide) c1
  refine lv_bipush (v := (-2)) hx hb dX10_pot_8 (by decide) ?_
  exact W.iret hx hb hr (fun t ht9 hW => ⟨⟨_, (), rfl, rfl, trivial⟩, hS.F ht9⟩) hS.2.2 dX10_pot_10
abbrev cX10_ways : ByteArray := prog_1_method_38_code
def yX10_ways : MethodName := ⟨RX10, "ways", "()I"⟩
theorem dX10_ways_0 : decode cX10_ways 0 = .ok (.aload_n 0, 1) := by decide +kernel
theorem dX10_ways_1 : decode cX10_ways 1 = .ok (.getfield 53, 3) := by decide +kernel
theorem kw_410 : Cond.fieldLink RX10 53 "SportsHouse" "lots" "LSportsHouse$Lots;" ∈ lw_g := lw_at 410 (by decide +kernel) rfl
theorem dX10_ways_4 : decode cX10_ways 4 = .ok (.getfield 384, 3) := by decide +kernel
theorem kw_328 : Cond.fieldLink RX10 384 "SportsHouse$Lots" "groups" "I" ∈ lw_g := lw_at 328 (by decide +kernel) rfl
theorem dX10_ways_7 : decode cX10_ways 7 = .ok (.ifCond .ne 6, 3) := by decide +kernel
theorem dX10_ways_10 : decode cX10_ways 10 = .ok (.bipush (-4), 2) := by decide +kernel
theorem dX10_ways_12 : decode cX10_ways 12 = .ok (.ireturn, 1) := by decide +kernel
set_option maxHeartbeats 4000000 in
set_option maxRecDepth 100000 in
theorem ct_X10_ways (l : Launch) (dC : Nat → ClassId) (dI : Nat → Nat → Nat) (x0 : Nat) (lo : Nat) (fx : List Value) (flo : List Value) (hfx_5 : fx[5]? = some (.ref lo)) (hflo_1 : flo[1]? = some (.int 0)) (sz : Nat)  : Met l yX10_ways (.code yX10_ways cX10_ways 1 (some .int) :: lw_g) ({ frames := 2, cells := 0, slots := 0, locals := 120 }) (ro_P dC dI [(x0, .inr (10, fx)), (lo, .inr (1, flo))] [] sz [.ref x0]) (ri_Q (-4) (va_A [] sz)) 0 0 (va_A [] sz) := by
  refine ro_entry (by decide) (Nat.le_of_ble_eq_true rfl) ?_
  intro p e s m below meth c ls hx hb hr hlocks ht hown hin hml hsz hP hK hD hE hl
  subst hsz
  have hS : va_S (va_A [] s.heap.size) s.heap s.heap [] := va_S.rf
  have hA : ∀ q, s.heap.size ≤ q → va_A [] s.heap.size q := fun q h => Or.inr h
  have hl : lv_has ls 1 [(0, .ref x0)] := hl
  have hown : s.vm.findClass RX10 = some m.cls := hown
  refine lv_aload_n hx hb dX10_ways_0 rfl (lv_at hl 0 rfl) ?_
  refine va_get (D := (dC, dI)) (ci := 10) (v := .ref lo) (C := RX10) (T := TX10) (N := 7) hx hb ht inX10 hown hK hP 0 rfl rfl 5 (by decide) (ht _ kw_410) (fun _ h9 => h9) hfx_5 dX10_ways_1 ?_
  refine va_get (D := (dC, dI)) (ci := 1) (v := .int 0) (C := RX1) (T := TX1) (N := 16) hx hb ht inX1 hown hK hP 1 rfl rfl 1 (by decide) (ht _ kw_328) (fun _ h9 => h9) hflo_1 dX10_ways_4 ?_
  refine lv_if_ne (tgt := 13) hx hb dX10_ways_7 (by decide) (fun c1 => ?_) (fun c1 => ?_)
  · exact absurd (by decide) c1
  refine lv_bipush (v := (-4)) hx hb dX10_ways_10 (by decide) ?_
  exact W.iret hx hb hr (fun t ht9 hW => ⟨⟨_, (), rfl, rfl, trivial⟩, hS.F ht9⟩) hS.2.2 dX10_ways_12
abbrev cX10_chance : ByteArray := prog_1_method_39_code
def yX10_chance : MethodName := ⟨RX10, "chance", "(II)I"⟩
theorem dX10_chance_0 : decode cX10_chance 0 = .ok (.aload_n 0, 1) := by decide +kernel
theorem dX10_chance_1 : decode cX10_chance 1 = .ok (.iload_n 1, 1) := by decide +kernel
theorem dX10_chance_2 : decode cX10_chance 2 = .ok (.invokevirtual 137, 3) := by decide +kernel
theorem dX10_chance_5 : decode cX10_chance 5 = .ok (.ifCond .eq 26, 3) := by decide +kernel
theorem dX10_chance_31 : decode cX10_chance 31 = .ok (.bipush (-2), 2) := by decide +kernel
theorem dX10_chance_33 : decode cX10_chance 33 = .ok (.ireturn, 1) := by decide +kernel
set_option maxHeartbeats 4000000 in
set_option maxRecDepth 100000 in
theorem ct_X10_chance (l : Launch) (dC : Nat → ClassId) (dI : Nat → Nat → Nat) (x0 : Nat) (th : Nat) (fx : List Value) (fth : List Value) (hfx_1 : fx[1]? = some (.ref th)) (hfth_2 : fth[2]? = some (.int 0)) (sz : Nat) (na : Int32) (nb : Int32) : Met l yX10_chance (.code yX10_chance cX10_chance 3 (some .int) :: lw_g) ({ frames := 2, cells := 0, slots := 0, locals := 120 }) (ro_P dC dI [(x0, .inr (10, fx)), (th, .inr (8, fth))] [] sz [.ref x0, .int na, .int nb]) (ri_Q (-2) (va_A [] sz)) 0 0 (va_A [] sz) := by
  refine ro_entry (by decide) (Nat.le_of_ble_eq_true rfl) ?_
  intro p e s m below meth c ls hx hb hr hlocks ht hown hin hml hsz hP hK hD hE hl
  subst hsz
  have hS : va_S (va_A [] s.heap.size) s.heap s.heap [] := va_S.rf
  have hA : ∀ q, s.heap.size ≤ q → va_A [] s.heap.size q := fun q h => Or.inr h
  have hl : lv_has ls 3 [(0, .ref x0), (1, .int na), (2, .int nb)] := hl
  have hown : s.vm.findClass RX10 = some m.cls := hown
  refine lv_aload_n hx hb dX10_chance_0 rfl (lv_at hl 0 rfl) ?_
  refine lv_iload_n hx hb dX10_chance_1 rfl (lv_at hl 1 rfl) ?_
  refine ro_callV (n := 1) (As := [.int na]) (rest := []) hx hb hml hown ht hK hP hD hS hA hE (ct_X10_isClub l dC dI x0 th fx fth hfx_1 hfth_2 _ na) [0, 1] [] rfl (by decide) rfl 0 (ci := 10) rfl rfl rfl gv_X10_137 rfl rfl (by decide +kernel) ⟨Nat.le_of_ble_eq_true rfl, Nat.le_of_ble_eq_true rfl⟩ rfl hl.1 (Nat.le_of_ble_eq_true rfl) ⟨Nat.le_of_ble_eq_true rfl, Nat.le_of_ble_eq_true rfl⟩ rfl dX10_chance_2 (fun H locs hP hS => ?_)
  refine lv_if_eq (tgt := 31) hx hb dX10_chance_5 (by decide) (fun c1 => ?_) (fun c1 => ?_)
  rotate_left
  · exact absurd (by decide) c1
  refine lv_bipush (v := (-2)) hx hb dX10_chance_31 (by decide) ?_
  exact W.iret hx hb hr (fun t ht9 hW => ⟨⟨_, (), rfl, rfl, trivial⟩, hS.F ht9⟩) hS.2.2 dX10_chance_33
abbrev cX10_ball : ByteArray := prog_1_method_40_code
def yX10_ball : MethodName := ⟨RX10, "ball", "(IZ)I"⟩
theorem dX10_ball_0 : decode cX10_ball 0 = .ok (.aload_n 0, 1) := by decide +kernel
theorem dX10_ball_1 : decode cX10_ball 1 = .ok (.getfield 53, 3) := by decide +kernel
theorem dX10_ball_4 : decode cX10_ball 4 = .ok (.getfield 384, 3) := by decide +kernel
theorem dX10_ball_7 : decode cX10_ball 7 = .ok (.ifCond .eq 20, 3) := by decide +kernel
theorem dX10_ball_27 : decode cX10_ball 27 = .ok (.bipush (-4), 2) := by decide +kernel
theorem dX10_ball_29 : decode cX10_ball 29 = .ok (.ireturn, 1) := by decide +kernel
set_option maxHeartbeats 4000000 in
set_option maxRecDepth 100000 in
theorem ct_X10_ball (l : Launch) (dC : Nat → ClassId) (dI : Nat → Nat → Nat) (x0 : Nat) (lo : Nat) (fx : List Value) (flo : List Value) (hfx_5 : fx[5]? = some (.ref lo)) (hflo_1 : flo[1]? = some (.int 0)) (sz : Nat) (na : Int32) (nb : Int32) : Met l yX10_ball (.code yX10_ball cX10_ball 4 (some .int) :: lw_g) ({ frames := 2, cells := 0, slots := 0, locals := 120 }) (ro_P dC dI [(x0, .inr (10, fx)), (lo, .inr (1, flo))] [] sz [.ref x0, .int na, .int nb]) (ri_Q (-4) (va_A [] sz)) 0 0 (va_A [] sz) := by
  refine ro_entry (by decide) (Nat.le_of_ble_eq_true rfl) ?_
  intro p e s m below meth c ls hx hb hr hlocks ht hown hin hml hsz hP hK hD hE hl
  subst hsz
  have hS : va_S (va_A [] s.heap.size) s.heap s.heap [] := va_S.rf
  have hA : ∀ q, s.heap.size ≤ q → va_A [] s.heap.size q := fun q h => Or.inr h
  have hl : lv_has ls 4 [(0, .ref x0), (1, .int na), (2, .int nb)] := hl
  have hown : s.vm.findClass RX10 = some m.cls := hown
  refine lv_aload_n hx hb dX10_ball_0 rfl (lv_at hl 0 rfl) ?_
  refine va_get (D := (dC, dI)) (ci := 10) (v := .ref lo) (C := RX10) (T := TX10) (N := 7) hx hb ht inX10 hown hK hP 0 rfl rfl 5 (by decide) (ht _ kw_410) (fun _ h9 => h9) hfx_5 dX10_ball_1 ?_
  refine va_get (D := (dC, dI)) (ci := 1) (v := .int 0) (C := RX1) (T := TX1) (N := 16) hx hb ht inX1 hown hK hP 1 rfl rfl 1 (by decide) (ht _ kw_328) (fun _ h9 => h9) hflo_1 dX10_ball_4 ?_
  refine lv_if_eq (tgt := 27) hx hb dX10_ball_7 (by decide) (fun c1 => ?_) (fun c1 => ?_)
  rotate_left
  · exact absurd (by decide) c1
  refine lv_bipush (v := (-4)) hx hb dX10_ball_27 (by decide) ?_
  exact W.iret hx hb hr (fun t ht9 hW => ⟨⟨_, (), rfl, rfl, trivial⟩, hS.F ht9⟩) hS.2.2 dX10_ball_29
abbrev cX10_drawn : ByteArray := prog_1_method_41_code
def yX10_drawn : MethodName := ⟨RX10, "drawn", "(I)I"⟩
theorem dX10_drawn_0 : decode cX10_drawn 0 = .ok (.aload_n 0, 1) := by decide +kernel
theorem dX10_drawn_1 : decode cX10_drawn 1 = .ok (.iload_n 1, 1) := by decide +kernel
theorem dX10_drawn_2 : decode cX10_drawn 2 = .ok (.invokevirtual 137, 3) := by decide +kernel
theorem dX10_drawn_5 : decode cX10_drawn 5 = .ok (.ifCond .ne 6, 3) := by decide +kernel
theorem dX10_drawn_8 : decode cX10_drawn 8 = .ok (.bipush (-2), 2) := by decide +kernel
theorem dX10_drawn_10 : decode cX10_drawn 10 = .ok (.ireturn, 1) := by decide +kernel
set_option maxHeartbeats 4000000 in
set_option maxRecDepth 100000 in
theorem ct_X10_drawn (l : Launch) (dC : Nat → ClassId) (dI : Nat → Nat → Nat) (x0 : Nat) (th : Nat) (fx : List Value) (fth : List Value) (hfx_1 : fx[1]? = some (.ref th)) (hfth_2 : fth[2]? = some (.int 0)) (sz : Nat) (na : Int32) : Met l yX10_drawn (.code yX10_drawn cX10_drawn 2 (some .int) :: lw_g) ({ frames := 2, cells := 0, slots := 0, locals := 120 }) (ro_P dC dI [(x0, .inr (10, fx)), (th, .inr (8, fth))] [] sz [.ref x0, .int na]) (ri_Q (-2) (va_A [] sz)) 0 0 (va_A [] sz) := by
  refine ro_entry (by decide) (Nat.le_of_ble_eq_true rfl) ?_
  intro p e s m below meth c ls hx hb hr hlocks ht hown hin hml hsz hP hK hD hE hl
  subst hsz
  have hS : va_S (va_A [] s.heap.size) s.heap s.heap [] := va_S.rf
  have hA : ∀ q, s.heap.size ≤ q → va_A [] s.heap.size q := fun q h => Or.inr h
  have hl : lv_has ls 2 [(0, .ref x0), (1, .int na)] := hl
  have hown : s.vm.findClass RX10 = some m.cls := hown
  refine lv_aload_n hx hb dX10_drawn_0 rfl (lv_at hl 0 rfl) ?_
  refine lv_iload_n hx hb dX10_drawn_1 rfl (lv_at hl 1 rfl) ?_
  refine ro_callV (n := 1) (As := [.int na]) (rest := []) hx hb hml hown ht hK hP hD hS hA hE (ct_X10_isClub l dC dI x0 th fx fth hfx_1 hfth_2 _ na) [0, 1] [] rfl (by decide) rfl 0 (ci := 10) rfl rfl rfl gv_X10_137 rfl rfl (by decide +kernel) ⟨Nat.le_of_ble_eq_true rfl, Nat.le_of_ble_eq_true rfl⟩ rfl hl.1 (Nat.le_of_ble_eq_true rfl) ⟨Nat.le_of_ble_eq_true rfl, Nat.le_of_ble_eq_true rfl⟩ rfl dX10_drawn_2 (fun H locs hP hS => ?_)
  refine lv_if_ne (tgt := 11) hx hb dX10_drawn_5 (by decide) (fun c1 => ?_) (fun c1 => ?_)
  · exact absurd (by decide) c1
  refine lv_bipush (v := (-2)) hx hb dX10_drawn_8 (by decide) ?_
  exact W.iret hx hb hr (fun t ht9 hW => ⟨⟨_, (), rfl, rfl, trivial⟩, hS.F ht9⟩) hS.2.2 dX10_drawn_10
abbrev cX10_officialOf : ByteArray := prog_1_method_43_code
def yX10_officialOf : MethodName := ⟨RX10, "officialOf", "(I)I"⟩
theorem dX10_officialOf_0 : decode cX10_officialOf 0 = .ok (.aload_n 0, 1) := by decide +kernel
theorem dX10_officialOf_1 : decode cX10_officialOf 1 = .ok (.iload_n 1, 1) := by decide +kernel
theorem dX10_officialOf_2 : decode cX10_officialOf 2 = .ok (.invokevirtual 195, 3) := by decide +kernel
theorem dX10_officialOf_5 : decode cX10_officialOf 5 = .ok (.ifCond .eq 18, 3) := by decide +kernel
theorem dX10_officialOf_23 : decode cX10_officialOf 23 = .ok (.bipush (-2), 2) := by decide +kernel
theorem dX10_officialOf_25 : decode cX10_officialOf 25 = .ok (.ireturn, 1) := by decide +kernel
set_option maxHeartbeats 4000000 in
set_option maxRecDepth 100000 in
theorem ct_X10_officialOf (l : Launch) (dC : Nat → ClassId) (dI : Nat → Nat → Nat) (x0 : Nat) (se : Nat) (fx : List Value) (fse : List Value) (hfx_2 : fx[2]? = some (.ref se)) (hfse_4 : fse[4]? = some (.int 0)) (sz : Nat) (na : Int32) : Met l yX10_officialOf (.code yX10_officialOf cX10_officialOf 2 (some .int) :: lw_g) ({ frames := 2, cells := 0, slots := 0, locals := 120 }) (ro_P dC dI [(x0, .inr (10, fx)), (se, .inr (6, fse))] [] sz [.ref x0, .int na]) (ri_Q (-2) (va_A [] sz)) 0 0 (va_A [] sz) := by
  refine ro_entry (by decide) (Nat.le_of_ble_eq_true rfl) ?_
  intro p e s m below meth c ls hx hb hr hlocks ht hown hin hml hsz hP hK hD hE hl
  subst hsz
  have hS : va_S (va_A [] s.heap.size) s.heap s.heap [] := va_S.rf
  have hA : ∀ q, s.heap.size ≤ q → va_A [] s.heap.size q := fun q h => Or.inr h
  have hl : lv_has ls 2 [(0, .ref x0), (1, .int na)] := hl
  have hown : s.vm.findClass RX10 = some m.cls := hown
  refine lv_aload_n hx hb dX10_officialOf_0 rfl (lv_at hl 0 rfl) ?_
  refine lv_iload_n hx hb dX10_officialOf_1 rfl (lv_at hl 1 rfl) ?_
  refine ro_callV (n := 1) (As := [.int na]) (rest := []) hx hb hml hown ht hK hP hD hS hA hE (ct_X10_isMatch l dC dI x0 se fx fse hfx_2 hfse_4 _ na) [0, 1] [] rfl (by decide) rfl 0 (ci := 10) rfl rfl rfl gv_X10_195 rfl rfl (by decide +kernel) ⟨Nat.le_of_ble_eq_true rfl, Nat.le_of_ble_eq_true rfl⟩ rfl hl.1 (Nat.le_of_ble_eq_true rfl) ⟨Nat.le_of_ble_eq_true rfl, Nat.le_of_ble_eq_true rfl⟩ rfl dX10_officialOf_2 (fun H locs hP hS => ?_)
  refine lv_if_eq (tgt := 23) hx hb dX10_officialOf_5 (by decide) (fun c1 => ?_) (fun c1 => ?_)
  rotate_left
  · exact absurd (by decide) c1
  refine lv_bipush (v := (-2)) hx hb dX10_officialOf_23 (by decide) ?_
  exact W.iret hx hb hr (fun t ht9 hW => ⟨⟨_, (), rfl, rfl, trivial⟩, hS.F ht9⟩) hS.2.2 dX10_officialOf_25
abbrev cX10_count : ByteArray := prog_1_method_44_code
def yX10_count : MethodName := ⟨RX10, "count", "(I)I"⟩
theorem dX10_count_0 : decode cX10_count 0 = .ok (.iload_n 1, 1) := by decide +kernel
theorem dX10_count_1 : decode cX10_count 1 = .ok (.tableswitch 111 0 7 #[47, 55, 63, 71, 79, 87, 95, 103], 47) := by decide +kernel
theorem dX10_count_48 : decode cX10_count 48 = .ok (.aload_n 0, 1) := by decide +kernel
theorem dX10_count_49 : decode cX10_count 49 = .ok (.getfield 19, 3) := by decide +kernel
theorem dX10_count_52 : decode cX10_count 52 = .ok (.getfield 119, 3) := by decide +kernel
theorem dX10_count_55 : decode cX10_count 55 = .ok (.ireturn, 1) := by decide +kernel
theorem dX10_count_56 : decode cX10_count 56 = .ok (.aload_n 0, 1) := by decide +kernel
theorem dX10_count_57 : decode cX10_count 57 = .ok (.getfield 19, 3) := by decide +kernel
theorem dX10_count_60 : decode cX10_count 60 = .ok (.getfield 128, 3) := by decide +kernel
theorem dX10_count_63 : decode cX10_count 63 = .ok (.ireturn, 1) := by decide +kernel
theorem dX10_count_64 : decode cX10_count 64 = .ok (.aload_n 0, 1) := by decide +kernel
theorem dX10_count_65 : decode cX10_count 65 = .ok (.getfield 19, 3) := by decide +kernel
theorem dX10_count_68 : decode cX10_count 68 = .ok (.getfield 147, 3) := by decide +kernel
theorem kw_92 : Cond.fieldLink RX10 147 "SportsHouse$Things" "spans" "I" ∈ lw_g := lw_at 92 (by decide +kernel) rfl
theorem dX10_count_71 : decode cX10_count 71 = .ok (.ireturn, 1) := by decide +kernel
theorem dX10_count_72 : decode cX10_count 72 = .ok (.aload_n 0, 1) := by decide +kernel
theorem dX10_count_73 : decode cX10_count 73 = .ok (.getfield 19, 3) := by decide +kernel
theorem dX10_count_76 : decode cX10_count 76 = .ok (.getfield 154, 3) := by decide +kernel
theorem kw_104 : Cond.fieldLink RX10 154 "SportsHouse$Things" "officials" "I" ∈ lw_g := lw_at 104 (by decide +kernel) rfl
theorem dX10_count_79 : decode cX10_count 79 = .ok (.ireturn, 1) := by decide +kernel
theorem dX10_count_80 : decode cX10_count 80 = .ok (.aload_n 0, 1) := by decide +kernel
theorem dX10_count_81 : decode cX10_count 81 = .ok (.getfield 28, 3) := by decide +kernel
theorem dX10_count_84 : decode cX10_count 84 = .ok (.getfield 74, 3) := by decide +kernel
theorem dX10_count_87 : decode cX10_count 87 = .ok (.ireturn, 1) := by decide +kernel
theorem dX10_count_88 : decode cX10_count 88 = .ok (.aload_n 0, 1) := by decide +kernel
theorem dX10_count_89 : decode cX10_count 89 = .ok (.getfield 28, 3) := by decide +kernel
theorem dX10_count_92 : decode cX10_count 92 = .ok (.getfield 182, 3) := by decide +kernel
theorem dX10_count_95 : decode cX10_count 95 = .ok (.ireturn, 1) := by decide +kernel
theorem dX10_count_96 : decode cX10_count 96 = .ok (.aload_n 0, 1) := by decide +kernel
theorem dX10_count_97 : decode cX10_count 97 = .ok (.getfield 28, 3) := by decide +kernel
theorem dX10_count_100 : decode cX10_count 100 = .ok (.getfield 286, 3) := by decide +kernel
theorem kw_158 : Cond.fieldLink RX10 286 "SportsHouse$Season" "rowCount" "I" ∈ lw_g := lw_at 158 (by decide +kernel) rfl
theorem dX10_count_103 : decode cX10_count 103 = .ok (.ireturn, 1) := by decide +kernel
theorem dX10_count_104 : decode cX10_count 104 = .ok (.aload_n 0, 1) := by decide +kernel
theorem dX10_count_105 : decode cX10_count 105 = .ok (.getfield 19, 3) := by decide +kernel
theorem dX10_count_108 : decode cX10_count 108 = .ok (.getfield 163, 3) := by decide +kernel
theorem kw_105 : Cond.fieldLink RX10 163 "SportsHouse$Things" "today" "I" ∈ lw_g := lw_at 105 (by decide +kernel) rfl
theorem dX10_count_111 : decode cX10_count 111 = .ok (.ireturn, 1) := by decide +kernel
theorem dX10_count_112 : decode cX10_count 112 = .ok (.bipush (-3), 2) := by decide +kernel
theorem dX10_count_114 : decode cX10_count 114 = .ok (.ireturn, 1) := by decide +kernel
def sp_X10_count (na : Int32) : Int32 := if na = 0 then 0 else if na = 1 then 0 else if na = 2 then 0 else if na = 3 then 0 else if na = 4 then 0 else if na = 5 then 0 else if na = 6 then 0 else if na = 7 then 0 else (-3)
set_option maxHeartbeats 4000000 in
set_option maxRecDepth 100000 in
theorem ct_X10_count (l : Launch) (dC : Nat → ClassId) (dI : Nat → Nat → Nat) (x0 : Nat) (th : Nat) (se : Nat) (fx : List Value) (fth : List Value) (fse : List Value) (hfx_1 : fx[1]? = some (.ref th)) (hfx_2 : fx[2]? = some (.ref se)) (hfth_2 : fth[2]? = some (.int 0)) (hfth_3 : fth[3]? = some (.int 0)) (hfth_5 : fth[5]? = some (.int 0)) (hfth_12 : fth[12]? = some (.int 0)) (hfth_13 : fth[13]? = some (.int 0)) (hfse_2 : fse[2]? = some (.int 0)) (hfse_4 : fse[4]? = some (.int 0)) (hfse_5 : fse[5]? = some (.int 0)) (sz : Nat) (na : Int32) : Met l yX10_count (.code yX10_count cX10_count 2 (some .int) :: lw_g) ({ frames := 2, cells := 0, slots := 0, locals := 120 }) (ro_P dC dI [(x0, .inr (10, fx)), (th, .inr (8, fth)), (se, .inr (6, fse))] [] sz [.ref x0, .int na]) (ri_Q (sp_X10_count na) (va_A [] sz)) 0 0 (va_A [] sz) := by
  refine ro_entry (by decide) (Nat.le_of_ble_eq_true rfl) ?_
  intro p e s m below meth c ls hx hb hr hlocks ht hown hin hml hsz hP hK hD hE hl
  subst hsz
  have hS : va_S (va_A [] s.heap.size) s.heap s.heap [] := va_S.rf
  have hA : ∀ q, s.heap.size ≤ q → va_A [] s.heap.size q := fun q h => Or.inr h
  have hl : lv_has ls 2 [(0, .ref x0), (1, .int na)] := hl
  have hown : s.vm.findClass RX10 = some m.cls := hown
  refine lv_iload_n hx hb dX10_count_0 rfl (lv_at hl 1 rfl) ?_
  by_cases z1_0 : na = 0
  · refine lv_tableIn (off := 47) (tgt := 48) hx hb dX10_count_1 (by rw [z1_0]; decide) (by rw [z1_0]; decide) (by rw [z1_0]; rfl) (by decide) ?_
    refine lv_aload_n hx hb dX10_count_48 rfl (lv_at hl 0 rfl) ?_
    refine va_get (D := (dC, dI)) (ci := 10) (v := .ref th) (C := RX10) (T := TX10) (N := 7) hx hb ht inX10 hown hK hP 0 rfl rfl 1 (by decide) (ht _ kw_406) (fun _ h9 => h9) hfx_1 dX10_count_49 ?_
    refine va_get (D := (dC, dI)) (ci := 8) (v := .int 0) (C := RX8) (T := TX8) (N := 14) hx hb ht inX8 hown hK hP 1 rfl rfl 2 (by decide) (ht _ kw_87) (fun _ h9 => h9) hfth_2 dX10_count_52 ?_
    exact W.iret hx hb hr (fun t ht9 hW => ⟨⟨_, (), rfl, (by unfold sp_X10_count; rw [if_pos z1_0]), trivial⟩, hS.F ht9⟩) hS.2.2 dX10_count_55
  by_cases z1_1 : na = 1
  · refine lv_tableIn (off := 55) (tgt := 56) hx hb dX10_count_1 (by rw [z1_1]; decide) (by rw [z1_1]; decide) (by rw [z1_1]; rfl) (by decide) ?_
    refine lv_aload_n hx hb dX10_count_56 rfl (lv_at hl 0 rfl) ?_
    refine va_get (D := (dC, dI)) (ci := 10) (v := .ref th) (C := RX10) (T := TX10) (N := 7) hx hb ht inX10 hown hK hP 0 rfl rfl 1 (by decide) (ht _ kw_406) (fun _ h9 => h9) hfx_1 dX10_count_57 ?_
    refine va_get (D := (dC, dI)) (ci := 8) (v := .int 0) (C := RX8) (T := TX8) (N := 14) hx hb ht inX8 hown hK hP 1 rfl rfl 3 (by decide) (ht _ kw_88) (fun _ h9 => h9) hfth_3 dX10_count_60 ?_
    exact W.iret hx hb hr (fun t ht9 hW => ⟨⟨_, (), rfl, (by unfold sp_X10_count; rw [if_neg z1_0, if_pos z1_1]), trivial⟩, hS.F ht9⟩) hS.2.2 dX10_count_63
  by_cases z1_2 : na = 2
  · refine lv_tableIn (off := 63) (tgt := 64) hx hb dX10_count_1 (by rw [z1_2]; decide) (by rw [z1_2]; decide) (by rw [z1_2]; rfl) (by decide) ?_
    refine lv_aload_n hx hb dX10_count_64 rfl (lv_at hl 0 rfl) ?_
    refine va_get (D := (dC, dI)) (ci := 10) (v := .ref th) (C := RX10) (T := TX10) (N := 7) hx hb ht inX10 hown hK hP 0 rfl rfl 1 (by decide) (ht _ kw_406) (fun _ h9 => h9) hfx_1 dX10_count_65 ?_
    refine va_get (D := (dC, dI)) (ci := 8) (v := .int 0) (C := RX8) (T := TX8) (N := 14) hx hb ht inX8 hown hK hP 1 rfl rfl 5 (by decide) (ht _ kw_92) (fun _ h9 => h9) hfth_5 dX10_count_68 ?_
    exact W.iret hx hb hr (fun t ht9 hW => ⟨⟨_, (), rfl, (by unfold sp_X10_count; rw [if_neg z1_0, if_neg z1_1, if_pos z1_2]), trivial⟩, hS.F ht9⟩) hS.2.2 dX10_count_71
  by_cases z1_3 : na = 3
  · refine lv_tableIn (off := 71) (tgt := 72) hx hb dX10_count_1 (by rw [z1_3]; decide) (by rw [z1_3]; decide) (by rw [z1_3]; rfl) (by decide) ?_
    refine lv_aload_n hx hb dX10_count_72 rfl (lv_at hl 0 rfl) ?_
    refine va_get (D := (dC, dI)) (ci := 10) (v := .ref th) (C := RX10) (T := TX10) (N := 7) hx hb ht inX10 hown hK hP 0 rfl rfl 1 (by decide) (ht _ kw_406) (fun _ h9 => h9) hfx_1 dX10_count_73 ?_
    refine va_get (D := (dC, dI)) (ci := 8) (v := .int 0) (C := RX8) (T := TX8) (N := 14) hx hb ht inX8 hown hK hP 1 rfl rfl 12 (by decide) (ht _ kw_104) (fun _ h9 => h9) hfth_12 dX10_count_76 ?_
    exact W.iret hx hb hr (fun t ht9 hW => ⟨⟨_, (), rfl, (by unfold sp_X10_count; rw [if_neg z1_0, if_neg z1_1, if_neg z1_2, if_pos z1_3]), trivial⟩, hS.F ht9⟩) hS.2.2 dX10_count_79
  by_cases z1_4 : na = 4
  · refine lv_tableIn (off := 79) (tgt := 80) hx hb dX10_count_1 (by rw [z1_4]; decide) (by rw [z1_4]; decide) (by rw [z1_4]; rfl) (by decide) ?_
    refine lv_aload_n hx hb dX10_count_80 rfl (lv_at hl 0 rfl) ?_
    refine va_get (D := (dC, dI)) (ci := 10) (v := .ref se) (C := RX10) (T := TX10) (N := 7) hx hb ht inX10 hown hK hP 0 rfl rfl 2 (by decide) (ht _ kw_407) (fun _ h9 => h9) hfx_2 dX10_count_81 ?_
    refine va_get (D := (dC, dI)) (ci := 6) (v := .int 0) (C := RX6) (T := TX6) (N := 16) hx hb ht inX6 hown hK hP 2 rfl rfl 2 (by decide) (ht _ kw_149) (fun _ h9 => h9) hfse_2 dX10_count_84 ?_
    exact W.iret hx hb hr (fun t ht9 hW => ⟨⟨_, (), rfl, (by unfold sp_X10_count; rw [if_neg z1_0, if_neg z1_1, if_neg z1_2, if_neg z1_3, if_pos z1_4]), trivial⟩, hS.F ht9⟩) hS.2.2 dX10_count_87
  by_cases z1_5 : na = 5
  · refine lv_tableIn (off := 87) (tgt := 88) hx hb dX10_count_1 (by rw [z1_5]; decide) (by rw [z1_5]; decide) (by rw [z1_5]; rfl) (by decide) ?_
    refine lv_aload_n hx hb dX10_count_88 rfl (lv_at hl 0 rfl) ?_
    refine va_get (D := (dC, dI)) (ci := 10) (v := .ref se) (C := RX10) (T := TX10) (N := 7) hx hb ht inX10 hown hK hP 0 rfl rfl 2 (by decide) (ht _ kw_407) (fun _ h9 => h9) hfx_2 dX10_count_89 ?_
    refine va_get (D := (dC, dI)) (ci := 6) (v := .int 0) (C := RX6) (T := TX6) (N := 16) hx hb ht inX6 hown hK hP 2 rfl rfl 4 (by decide) (ht _ kw_157) (fun _ h9 => h9) hfse_4 dX10_count_92 ?_
    exact W.iret hx hb hr (fun t ht9 hW => ⟨⟨_, (), rfl, (by unfold sp_X10_count; rw [if_neg z1_0, if_neg z1_1, if_neg z1_2, if_neg z1_3, if_neg z1_4, if_pos z1_5]), trivial⟩, hS.F ht9⟩) hS.2.2 dX10_count_95
  by_cases z1_6 : na = 6
  · refine lv_tableIn (off := 95) (tgt := 96) hx hb dX10_count_1 (by rw [z1_6]; decide) (by rw [z1_6]; decide) (by rw [z1_6]; rfl) (by decide) ?_
    refine lv_aload_n hx hb dX10_count_96 rfl (lv_at hl 0 rfl) ?_
    refine va_get (D := (dC, dI)) (ci := 10) (v := .ref se) (C := RX10) (T := TX10) (N := 7) hx hb ht inX10 hown hK hP 0 rfl rfl 2 (by decide) (ht _ kw_407) (fun _ h9 => h9) hfx_2 dX10_count_97 ?_
    refine va_get (D := (dC, dI)) (ci := 6) (v := .int 0) (C := RX6) (T := TX6) (N := 16) hx hb ht inX6 hown hK hP 2 rfl rfl 5 (by decide) (ht _ kw_158) (fun _ h9 => h9) hfse_5 dX10_count_100 ?_
    exact W.iret hx hb hr (fun t ht9 hW => ⟨⟨_, (), rfl, (by unfold sp_X10_count; rw [if_neg z1_0, if_neg z1_1, if_neg z1_2, if_neg z1_3, if_neg z1_4, if_neg z1_5, if_pos z1_6]), trivial⟩, hS.F ht9⟩) hS.2.2 dX10_count_103
  by_cases z1_7 : na = 7
  · refine lv_tableIn (off := 103) (tgt := 104) hx hb dX10_count_1 (by rw [z1_7]; decide) (by rw [z1_7]; decide) (by rw [z1_7]; rfl) (by decide) ?_
    refine lv_aload_n hx hb dX10_count_104 rfl (lv_at hl 0 rfl) ?_
    refine va_get (D := (dC, dI)) (ci := 10) (v := .ref th) (C := RX10) (T := TX10) (N := 7) hx hb ht inX10 hown hK hP 0 rfl rfl 1 (by decide) (ht _ kw_406) (fun _ h9 => h9) hfx_1 dX10_count_105 ?_
    refine va_get (D := (dC, dI)) (ci := 8) (v := .int 0) (C := RX8) (T := TX8) (N := 14) hx hb ht inX8 hown hK hP 1 rfl rfl 13 (by decide) (ht _ kw_105) (fun _ h9 => h9) hfth_13 dX10_count_108 ?_
    exact W.iret hx hb hr (fun t ht9 hW => ⟨⟨_, (), rfl, (by unfold sp_X10_count; rw [if_neg z1_0, if_neg z1_1, if_neg z1_2, if_neg z1_3, if_neg z1_4, if_neg z1_5, if_neg z1_6, if_pos z1_7]), trivial⟩, hS.F ht9⟩) hS.2.2 dX10_count_111
  have z1o : na.toInt < 0 ∨ 7 < na.toInt := by
    have t_0 := lv_neT (a := 0) z1_0 rfl
    have t_1 := lv_neT (a := 1) z1_1 rfl
    have t_2 := lv_neT (a := 2) z1_2 rfl
    have t_3 := lv_neT (a := 3) z1_3 rfl
    have t_4 := lv_neT (a := 4) z1_4 rfl
    have t_5 := lv_neT (a := 5) z1_5 rfl
    have t_6 := lv_neT (a := 6) z1_6 rfl
    have t_7 := lv_neT (a := 7) z1_7 rfl
    omega
  refine lv_tableOut (tgt := 112) hx hb dX10_count_1 z1o (by decide) ?_
  refine lv_bipush (v := (-3)) hx hb dX10_count_112 (by decide) ?_
  exact W.iret hx hb hr (fun t ht9 hW => ⟨⟨_, (), rfl, (by unfold sp_X10_count; rw [if_neg z1_0, if_neg z1_1, if_neg z1_2, if_neg z1_3, if_neg z1_4, if_neg z1_5, if_neg z1_6, if_neg z1_7]), trivial⟩, hS.F ht9⟩) hS.2.2 dX10_count_114
end
section
abbrev cX11_in : ByteArray := prog_13_method_3_code
def yX11_in : MethodName := ⟨RX11, "in", "(III)Z"⟩
theorem dX11_in_0 : decode cX11_in 0 = .ok (.iload_n 0, 1) := by decide +kernel
theorem dX11_in_1 : decode cX11_in 1 = .ok (.iload_n 1, 1) := by decide +kernel
theorem dX11_in_2 : decode cX11_in 2 = .ok (.if_icmp .lt 12, 3) := by decide +kernel
theorem dX11_in_14 : decode cX11_in 14 = .ok (.iconst 0, 1) := by decide +kernel
theorem dX11_in_15 : decode cX11_in 15 = .ok (.ireturn, 1) := by decide +kernel
theorem dX11_in_5 : decode cX11_in 5 = .ok (.iload_n 0, 1) := by decide +kernel
theorem dX11_in_6 : decode cX11_in 6 = .ok (.iload_n 2, 1) := by decide +kernel
theorem dX11_in_7 : decode cX11_in 7 = .ok (.if_icmp .gt 7, 3) := by decide +kernel
theorem dX11_in_10 : decode cX11_in 10 = .ok (.iconst 1, 1) := by decide +kernel
theorem dX11_in_11 : decode cX11_in 11 = .ok (.goto 4, 3) := by decide +kernel
def sp_X11_in (na : Int32) (nb : Int32) (nc : Int32) : Int32 := if na < nb then 0 else if nc < na then 0 else 1
set_option maxHeartbeats 4000000 in
set_option maxRecDepth 100000 in
theorem ct_X11_in (l : Launch) (dC : Nat → ClassId) (dI : Nat → Nat → Nat)  (sz : Nat) (na : Int32) (nb : Int32) (nc : Int32) : Met l yX11_in (.code yX11_in cX11_in 3 (some .boolean) :: lw_g) ({ frames := 0, cells := 0, slots := 0, locals := 0 }) (ro_P dC dI [] [] sz [.int na, .int nb, .int nc]) (ri_Q (sp_X11_in na nb nc) (va_A [] sz)) 0 0 (va_A [] sz) := by
  refine ro_entry (by decide) (Nat.le_of_ble_eq_true rfl) ?_
  intro p e s m below meth c ls hx hb hr hlocks ht hown hin hml hsz hP hK hD hE hl
  subst hsz
  have hS : va_S (va_A [] s.heap.size) s.heap s.heap [] := va_S.rf
  have hA : ∀ q, s.heap.size ≤ q → va_A [] s.heap.size q := fun q h => Or.inr h
  have hl : lv_has ls 3 [(0, .int na), (1, .int nb), (2, .int nc)] := hl
  have hown : s.vm.findClass RX11 = some m.cls := hown
  refine lv_iload_n hx hb dX11_in_0 rfl (lv_at hl 0 rfl) ?_
  refine lv_iload_n hx hb dX11_in_1 rfl (lv_at hl 1 rfl) ?_
  refine lv_icmp_lt (tgt := 14) hx hb dX11_in_2 (by decide) (fun c1 => ?_) (fun c1 => ?_)
  · refine lv_iconst (v := 0) hx hb dX11_in_14 (by decide) ?_
    exact W.zret (ty := .boolean) hx hb hr (by decide) (fun t ht9 hW => ⟨⟨_, (), rfl, (by unfold sp_X11_in; rw [if_pos c1]), trivial⟩, hS.F ht9⟩) hS.2.2 dX11_in_15
  · refine lv_iload_n hx hb dX11_in_5 rfl (lv_at hl 0 rfl) ?_
    refine lv_iload_n hx hb dX11_in_6 rfl (lv_at hl 2 rfl) ?_
    refine lv_icmp_gt (tgt := 14) hx hb dX11_in_7 (by decide) (fun c2 => ?_) (fun c2 => ?_)
    · refine lv_iconst (v := 0) hx hb dX11_in_14 (by decide) ?_
      exact W.zret (ty := .boolean) hx hb hr (by decide) (fun t ht9 hW => ⟨⟨_, (), rfl, (by unfold sp_X11_in; rw [if_neg c1, if_pos c2]), trivial⟩, hS.F ht9⟩) hS.2.2 dX11_in_15
    · refine lv_iconst (v := 1) hx hb dX11_in_10 (by decide) ?_
      refine lv_goto (tgt := 15) hx hb dX11_in_11 (by decide) ?_
      exact W.zret (ty := .boolean) hx hb hr (by decide) (fun t ht9 hW => ⟨⟨_, (), rfl, (by unfold sp_X11_in; rw [if_neg c1, if_neg c2]), trivial⟩, hS.F ht9⟩) hS.2.2 dX11_in_15
theorem sp_in0 (x : Int32) : sp_X11_in x 0 (-1) = 0 := by
  unfold sp_X11_in
  split
  · rfl
  · rename_i h
    rw [if_pos (Int32.lt_iff_toInt_lt.mpr (by
      have h3 : ¬ x.toInt < (0 : Int32).toInt := fun q => h (Int32.lt_iff_toInt_lt.mpr q)
      have e0 : (0 : Int32).toInt = 0 := by decide
      have e1 : (-1 : Int32).toInt = -1 := by decide
      omega))]
abbrev cX11_isOf : ByteArray := prog_13_method_4_code
def yX11_isOf : MethodName := ⟨RX11, "isOf", "(II)Z"⟩
theorem dX11_isOf_0 : decode cX11_isOf 0 = .ok (.iload_n 0, 1) := by decide +kernel
theorem dX11_isOf_1 : decode cX11_isOf 1 = .ok (.iconst 0, 1) := by decide +kernel
theorem dX11_isOf_2 : decode cX11_isOf 2 = .ok (.iload_n 1, 1) := by decide +kernel
theorem dX11_isOf_3 : decode cX11_isOf 3 = .ok (.iconst 1, 1) := by decide +kernel
theorem dX11_isOf_4 : decode cX11_isOf 4 = .ok (.isub, 1) := by decide +kernel
theorem dX11_isOf_5 : decode cX11_isOf 5 = .ok (.invokestatic 255, 3) := by decide +kernel
theorem kw_1775 : Cond.methodLink RX11 255 yX11_in ∈ lw_g := lw_at 1775 (by decide +kernel) rfl
theorem kw_1776 : Cond.static yX11_in ∈ lw_g := lw_at 1776 (by decide +kernel) rfl
theorem kw_10 : Cond.initialized RX11 ∈ lw_g := lw_at 10 (by decide +kernel) rfl
theorem kw_1777 : Cond.code yX11_in cX11_in 3 (some .boolean) ∈ lw_g := lw_at 1777 (by decide +kernel) rfl
theorem gv_X11_255 : GoodIn lw_g (va_wsS RX11 255 yX11_in (.code yX11_in cX11_in 3 (some .boolean) :: lw_g)) := gi_S kw_1775 kw_1776 kw_10 kw_1777
theorem dX11_isOf_8 : decode cX11_isOf 8 = .ok (.ireturn, 1) := by decide +kernel
set_option maxHeartbeats 4000000 in
set_option maxRecDepth 100000 in
theorem ct_X11_isOf (l : Launch) (dC : Nat → ClassId) (dI : Nat → Nat → Nat)  (sz : Nat) (na : Int32) : Met l yX11_isOf (.code yX11_isOf cX11_isOf 2 (some .boolean) :: lw_g) ({ frames := 1, cells := 0, slots := 0, locals := 60 }) (ro_P dC dI [] [] sz [.int na, .int 0]) (ri_Q 0 (va_A [] sz)) 0 0 (va_A [] sz) := by
  refine ro_entry (by decide) (Nat.le_of_ble_eq_true rfl) ?_
  intro p e s m below meth c ls hx hb hr hlocks ht hown hin hml hsz hP hK hD hE hl
  subst hsz
  have hS : va_S (va_A [] s.heap.size) s.heap s.heap [] := va_S.rf
  have hA : ∀ q, s.heap.size ≤ q → va_A [] s.heap.size q := fun q h => Or.inr h
  have hl : lv_has ls 2 [(0, .int na), (1, .int 0)] := hl
  have hown : s.vm.findClass RX11 = some m.cls := hown
  refine lv_iload_n hx hb dX11_isOf_0 rfl (lv_at hl 0 rfl) ?_
  refine lv_iconst (v := 0) hx hb dX11_isOf_1 (by decide) ?_
  refine lv_iload_n hx hb dX11_isOf_2 rfl (lv_at hl 1 rfl) ?_
  refine lv_iconst (v := 1) hx hb dX11_isOf_3 (by decide) ?_
  refine lv_isub hx hb dX11_isOf_4 ?_
  refine lv_topi (fun r1 er1 => ?_)
  have er1 : r1 = (-1) := er1.trans (by decide)
  subst er1
  refine ro_callS (n := 3) (As := [.int na, .int 0, .int (-1)]) (rest := []) hx hb hml hown ht hK hP hS hA hE (ct_X11_in l dC dI  _ na 0 (-1)) gv_X11_255 rfl rfl (by decide +kernel) ⟨Nat.le_of_ble_eq_true rfl, Nat.le_of_ble_eq_true rfl⟩ rfl hl.1 (Nat.le_of_ble_eq_true rfl) ⟨Nat.le_of_ble_eq_true rfl, Nat.le_of_ble_eq_true rfl⟩ rfl dX11_isOf_5 (fun H locs hP hS => ?_)
  refine lv_topi (fun r2 er2 => ?_)
  have er2 : r2 = 0 := er2.trans (sp_in0 na)
  subst er2
  exact W.zret (ty := .boolean) hx hb hr (by decide) (fun t ht9 hW => ⟨⟨_, (), rfl, rfl, trivial⟩, hS.F ht9⟩) hS.2.2 dX11_isOf_8
abbrev cX11_fault : ByteArray := prog_13_method_19_code
def yX11_fault : MethodName := ⟨RX11, "fault", "()I"⟩
theorem dX11_fault_0 : decode cX11_fault 0 = .ok (.aload_n 0, 1) := by decide +kernel
theorem dX11_fault_1 : decode cX11_fault 1 = .ok (.getfield 13, 3) := by decide +kernel
theorem kw_1429 : Cond.fieldLink RX11 13 "SportsHouseModel" "faultAt" "I" ∈ lw_g := lw_at 1429 (by decide +kernel) rfl
theorem dX11_fault_4 : decode cX11_fault 4 = .ok (.ireturn, 1) := by decide +kernel
set_option maxHeartbeats 4000000 in
set_option maxRecDepth 100000 in
theorem ct_X11_fault (l : Launch) (dC : Nat → ClassId) (dI : Nat → Nat → Nat) (m0 : Nat) (fm : List Value) (hfm_2 : fm[2]? = some (.int (-1))) (sz : Nat)  : Met l yX11_fault (.code yX11_fault cX11_fault 1 (some .int) :: lw_g) ({ frames := 2, cells := 0, slots := 0, locals := 120 }) (ro_P dC dI [(m0, .inr (11, fm))] [] sz [.ref m0]) (ri_Q (-1) (va_A [] sz)) 0 0 (va_A [] sz) := by
  refine ro_entry (by decide) (Nat.le_of_ble_eq_true rfl) ?_
  intro p e s m below meth c ls hx hb hr hlocks ht hown hin hml hsz hP hK hD hE hl
  subst hsz
  have hS : va_S (va_A [] s.heap.size) s.heap s.heap [] := va_S.rf
  have hA : ∀ q, s.heap.size ≤ q → va_A [] s.heap.size q := fun q h => Or.inr h
  have hl : lv_has ls 1 [(0, .ref m0)] := hl
  have hown : s.vm.findClass RX11 = some m.cls := hown
  refine lv_aload_n hx hb dX11_fault_0 rfl (lv_at hl 0 rfl) ?_
  refine va_get (D := (dC, dI)) (ci := 11) (v := .int (-1)) (C := RX11) (T := TX11) (N := 114) hx hb ht inX11 hown hK hP 0 rfl rfl 2 (by decide) (ht _ kw_1429) (fun _ h9 => h9) hfm_2 dX11_fault_1 ?_
  exact W.iret hx hb hr (fun t ht9 hW => ⟨⟨_, (), rfl, rfl, trivial⟩, hS.F ht9⟩) hS.2.2 dX11_fault_4
abbrev cX11_rule : ByteArray := prog_13_method_20_code
def yX11_rule : MethodName := ⟨RX11, "rule", "(II)I"⟩
theorem dX11_rule_0 : decode cX11_rule 0 = .ok (.iload_n 1, 1) := by decide +kernel
theorem dX11_rule_1 : decode cX11_rule 1 = .ok (.aload_n 0, 1) := by decide +kernel
theorem dX11_rule_2 : decode cX11_rule 2 = .ok (.getfield 308, 3) := by decide +kernel
theorem kw_1433 : Cond.fieldLink RX11 308 "SportsHouseModel" "competitions" "I" ∈ lw_g := lw_at 1433 (by decide +kernel) rfl
theorem dX11_rule_5 : decode cX11_rule 5 = .ok (.invokestatic 317, 3) := by decide +kernel
theorem kw_1832 : Cond.methodLink RX11 317 yX11_isOf ∈ lw_g := lw_at 1832 (by decide +kernel) rfl
theorem kw_1833 : Cond.static yX11_isOf ∈ lw_g := lw_at 1833 (by decide +kernel) rfl
theorem kw_1834 : Cond.code yX11_isOf cX11_isOf 2 (some .boolean) ∈ lw_g := lw_at 1834 (by decide +kernel) rfl
theorem gv_X11_317 : GoodIn lw_g (va_wsS RX11 317 yX11_isOf (.code yX11_isOf cX11_isOf 2 (some .boolean) :: lw_g)) := gi_S kw_1832 kw_1833 kw_10 kw_1834
theorem dX11_rule_8 : decode cX11_rule 8 = .ok (.ifCond .ne 6, 3) := by decide +kernel
theorem dX11_rule_11 : decode cX11_rule 11 = .ok (.bipush (-2), 2) := by decide +kernel
theorem dX11_rule_13 : decode cX11_rule 13 = .ok (.ireturn, 1) := by decide +kernel
set_option maxHeartbeats 4000000 in
set_option maxRecDepth 100000 in
theorem ct_X11_rule (l : Launch) (dC : Nat → ClassId) (dI : Nat → Nat → Nat) (m0 : Nat) (fm : List Value) (hfm_6 : fm[6]? = some (.int 0)) (sz : Nat) (na : Int32) (nb : Int32) : Met l yX11_rule (.code yX11_rule cX11_rule 3 (some .int) :: lw_g) ({ frames := 2, cells := 0, slots := 0, locals := 120 }) (ro_P dC dI [(m0, .inr (11, fm))] [] sz [.ref m0, .int na, .int nb]) (ri_Q (-2) (va_A [] sz)) 0 0 (va_A [] sz) := by
  refine ro_entry (by decide) (Nat.le_of_ble_eq_true rfl) ?_
  intro p e s m below meth c ls hx hb hr hlocks ht hown hin hml hsz hP hK hD hE hl
  subst hsz
  have hS : va_S (va_A [] s.heap.size) s.heap s.heap [] := va_S.rf
  have hA : ∀ q, s.heap.size ≤ q → va_A [] s.heap.size q := fun q h => Or.inr h
  have hl : lv_has ls 3 [(0, .ref m0), (1, .int na), (2, .int nb)] := hl
  have hown : s.vm.findClass RX11 = some m.cls := hown
  refine lv_iload_n hx hb dX11_rule_0 rfl (lv_at hl 1 rfl) ?_
  refine lv_aload_n hx hb dX11_rule_1 rfl (lv_at hl 0 rfl) ?_
  refine va_get (D := (dC, dI)) (ci := 11) (v := .int 0) (C := RX11) (T := TX11) (N := 114) hx hb ht inX11 hown hK hP 0 rfl rfl 6 (by decide) (ht _ kw_1433) (fun _ h9 => h9) hfm_6 dX11_rule_2 ?_
  refine ro_callS (n := 2) (As := [.int na, .int 0]) (rest := []) hx hb hml hown ht hK hP hS hA hE (ct_X11_isOf l dC dI  _ na) gv_X11_317 rfl rfl (by decide +kernel) ⟨Nat.le_of_ble_eq_true rfl, Nat.le_of_ble_eq_true rfl⟩ rfl hl.1 (Nat.le_of_ble_eq_true rfl) ⟨Nat.le_of_ble_eq_true rfl, Nat.le_of_ble_eq_true rfl⟩ rfl dX11_rule_5 (fun H locs hP hS => ?_)
  refine lv_if_ne (tgt := 14) hx hb dX11_rule_8 (by decide) (fun c1 => ?_) (fun c1 => ?_)
  · exact absurd (by decide) c1
  refine lv_bipush (v := (-2)) hx hb dX11_rule_11 (by decide) ?_
  exact W.iret hx hb hr (fun t ht9 hW => ⟨⟨_, (), rfl, rfl, trivial⟩, hS.F ht9⟩) hS.2.2 dX11_rule_13
abbrev cX11_register : ByteArray := prog_13_method_24_code
def yX11_register : MethodName := ⟨RX11, "register", "(IIII)I"⟩
theorem dX11_register_0 : decode cX11_register 0 = .ok (.iload_n 1, 1) := by decide +kernel
theorem dX11_register_1 : decode cX11_register 1 = .ok (.aload_n 0, 1) := by decide +kernel
theorem dX11_register_2 : decode cX11_register 2 = .ok (.getfield 328, 3) := by decide +kernel
theorem kw_1442 : Cond.fieldLink RX11 328 "SportsHouseModel" "persons" "I" ∈ lw_g := lw_at 1442 (by decide +kernel) rfl
theorem dX11_register_5 : decode cX11_register 5 = .ok (.invokestatic 317, 3) := by decide +kernel
theorem dX11_register_8 : decode cX11_register 8 = .ok (.ifCond .eq 14, 3) := by decide +kernel
theorem dX11_register_22 : decode cX11_register 22 = .ok (.bipush (-2), 2) := by decide +kernel
theorem dX11_register_24 : decode cX11_register 24 = .ok (.ireturn, 1) := by decide +kernel
set_option maxHeartbeats 4000000 in
set_option maxRecDepth 100000 in
theorem ct_X11_register (l : Launch) (dC : Nat → ClassId) (dI : Nat → Nat → Nat) (m0 : Nat) (fm : List Value) (hfm_15 : fm[15]? = some (.int 0)) (sz : Nat) (na : Int32) (nb : Int32) (nc : Int32) (nd : Int32) : Met l yX11_register (.code yX11_register cX11_register 6 (some .int) :: lw_g) ({ frames := 2, cells := 0, slots := 0, locals := 120 }) (ro_P dC dI [(m0, .inr (11, fm))] [] sz [.ref m0, .int na, .int nb, .int nc, .int nd]) (ri_Q (-2) (va_A [] sz)) 0 0 (va_A [] sz) := by
  refine ro_entry (by decide) (Nat.le_of_ble_eq_true rfl) ?_
  intro p e s m below meth c ls hx hb hr hlocks ht hown hin hml hsz hP hK hD hE hl
  subst hsz
  have hS : va_S (va_A [] s.heap.size) s.heap s.heap [] := va_S.rf
  have hA : ∀ q, s.heap.size ≤ q → va_A [] s.heap.size q := fun q h => Or.inr h
  have hl : lv_has ls 6 [(0, .ref m0), (1, .int na), (2, .int nb), (3, .int nc), (4, .int nd)] := hl
  have hown : s.vm.findClass RX11 = some m.cls := hown
  refine lv_iload_n hx hb dX11_register_0 rfl (lv_at hl 1 rfl) ?_
  refine lv_aload_n hx hb dX11_register_1 rfl (lv_at hl 0 rfl) ?_
  refine va_get (D := (dC, dI)) (ci := 11) (v := .int 0) (C := RX11) (T := TX11) (N := 114) hx hb ht inX11 hown hK hP 0 rfl rfl 15 (by decide) (ht _ kw_1442) (fun _ h9 => h9) hfm_15 dX11_register_2 ?_
  refine ro_callS (n := 2) (As := [.int na, .int 0]) (rest := []) hx hb hml hown ht hK hP hS hA hE (ct_X11_isOf l dC dI  _ na) gv_X11_317 rfl rfl (by decide +kernel) ⟨Nat.le_of_ble_eq_true rfl, Nat.le_of_ble_eq_true rfl⟩ rfl hl.1 (Nat.le_of_ble_eq_true rfl) ⟨Nat.le_of_ble_eq_true rfl, Nat.le_of_ble_eq_true rfl⟩ rfl dX11_register_5 (fun H locs hP hS => ?_)
  refine lv_if_eq (tgt := 22) hx hb dX11_register_8 (by decide) (fun c1 => ?_) (fun c1 => ?_)
  rotate_left
  · exact absurd (by decide) c1
  refine lv_bipush (v := (-2)) hx hb dX11_register_22 (by decide) ?_
  exact W.iret hx hb hr (fun t ht9 hW => ⟨⟨_, (), rfl, rfl, trivial⟩, hS.F ht9⟩) hS.2.2 dX11_register_24
abbrev cX11_enter : ByteArray := prog_13_method_28_code
def yX11_enter : MethodName := ⟨RX11, "enter", "(II)I"⟩
theorem dX11_enter_0 : decode cX11_enter 0 = .ok (.iload_n 1, 1) := by decide +kernel
theorem dX11_enter_1 : decode cX11_enter 1 = .ok (.aload_n 0, 1) := by decide +kernel
theorem dX11_enter_2 : decode cX11_enter 2 = .ok (.getfield 308, 3) := by decide +kernel
theorem dX11_enter_5 : decode cX11_enter 5 = .ok (.invokestatic 317, 3) := by decide +kernel
theorem dX11_enter_8 : decode cX11_enter 8 = .ok (.ifCond .eq 14, 3) := by decide +kernel
theorem dX11_enter_22 : decode cX11_enter 22 = .ok (.bipush (-2), 2) := by decide +kernel
theorem dX11_enter_24 : decode cX11_enter 24 = .ok (.ireturn, 1) := by decide +kernel
set_option maxHeartbeats 4000000 in
set_option maxRecDepth 100000 in
theorem ct_X11_enter (l : Launch) (dC : Nat → ClassId) (dI : Nat → Nat → Nat) (m0 : Nat) (fm : List Value) (hfm_6 : fm[6]? = some (.int 0)) (sz : Nat) (na : Int32) (nb : Int32) : Met l yX11_enter (.code yX11_enter cX11_enter 3 (some .int) :: lw_g) ({ frames := 2, cells := 0, slots := 0, locals := 120 }) (ro_P dC dI [(m0, .inr (11, fm))] [] sz [.ref m0, .int na, .int nb]) (ri_Q (-2) (va_A [] sz)) 0 0 (va_A [] sz) := by
  refine ro_entry (by decide) (Nat.le_of_ble_eq_true rfl) ?_
  intro p e s m below meth c ls hx hb hr hlocks ht hown hin hml hsz hP hK hD hE hl
  subst hsz
  have hS : va_S (va_A [] s.heap.size) s.heap s.heap [] := va_S.rf
  have hA : ∀ q, s.heap.size ≤ q → va_A [] s.heap.size q := fun q h => Or.inr h
  have hl : lv_has ls 3 [(0, .ref m0), (1, .int na), (2, .int nb)] := hl
  have hown : s.vm.findClass RX11 = some m.cls := hown
  refine lv_iload_n hx hb dX11_enter_0 rfl (lv_at hl 1 rfl) ?_
  refine lv_aload_n hx hb dX11_enter_1 rfl (lv_at hl 0 rfl) ?_
  refine va_get (D := (dC, dI)) (ci := 11) (v := .int 0) (C := RX11) (T := TX11) (N := 114) hx hb ht inX11 hown hK hP 0 rfl rfl 6 (by decide) (ht _ kw_1433) (fun _ h9 => h9) hfm_6 dX11_enter_2 ?_
  refine ro_callS (n := 2) (As := [.int na, .int 0]) (rest := []) hx hb hml hown ht hK hP hS hA hE (ct_X11_isOf l dC dI  _ na) gv_X11_317 rfl rfl (by decide +kernel) ⟨Nat.le_of_ble_eq_true rfl, Nat.le_of_ble_eq_true rfl⟩ rfl hl.1 (Nat.le_of_ble_eq_true rfl) ⟨Nat.le_of_ble_eq_true rfl, Nat.le_of_ble_eq_true rfl⟩ rfl dX11_enter_5 (fun H locs hP hS => ?_)
  refine lv_if_eq (tgt := 22) hx hb dX11_enter_8 (by decide) (fun c1 => ?_) (fun c1 => ?_)
  rotate_left
  · exact absurd (by decide) c1
  refine lv_bipush (v := (-2)) hx hb dX11_enter_22 (by decide) ?_
  exact W.iret hx hb hr (fun t ht9 hW => ⟨⟨_, (), rfl, rfl, trivial⟩, hS.F ht9⟩) hS.2.2 dX11_enter_24
abbrev cX11_plan : ByteArray := prog_13_method_30_code
def yX11_plan : MethodName := ⟨RX11, "plan", "(II)I"⟩
theorem dX11_plan_0 : decode cX11_plan 0 = .ok (.iload_n 1, 1) := by decide +kernel
theorem dX11_plan_1 : decode cX11_plan 1 = .ok (.aload_n 0, 1) := by decide +kernel
theorem dX11_plan_2 : decode cX11_plan 2 = .ok (.getfield 308, 3) := by decide +kernel
theorem dX11_plan_5 : decode cX11_plan 5 = .ok (.invokestatic 317, 3) := by decide +kernel
theorem dX11_plan_8 : decode cX11_plan 8 = .ok (.ifCond .ne 6, 3) := by decide +kernel
theorem dX11_plan_11 : decode cX11_plan 11 = .ok (.bipush (-2), 2) := by decide +kernel
theorem dX11_plan_13 : decode cX11_plan 13 = .ok (.ireturn, 1) := by decide +kernel
set_option maxHeartbeats 4000000 in
set_option maxRecDepth 100000 in
theorem ct_X11_plan (l : Launch) (dC : Nat → ClassId) (dI : Nat → Nat → Nat) (m0 : Nat) (fm : List Value) (hfm_6 : fm[6]? = some (.int 0)) (sz : Nat) (na : Int32) (nb : Int32) : Met l yX11_plan (.code yX11_plan cX11_plan 15 (some .int) :: lw_g) ({ frames := 2, cells := 0, slots := 0, locals := 120 }) (ro_P dC dI [(m0, .inr (11, fm))] [] sz [.ref m0, .int na, .int nb]) (ri_Q (-2) (va_A [] sz)) 0 0 (va_A [] sz) := by
  refine ro_entry (by decide) (Nat.le_of_ble_eq_true rfl) ?_
  intro p e s m below meth c ls hx hb hr hlocks ht hown hin hml hsz hP hK hD hE hl
  subst hsz
  have hS : va_S (va_A [] s.heap.size) s.heap s.heap [] := va_S.rf
  have hA : ∀ q, s.heap.size ≤ q → va_A [] s.heap.size q := fun q h => Or.inr h
  have hl : lv_has ls 15 [(0, .ref m0), (1, .int na), (2, .int nb)] := hl
  have hown : s.vm.findClass RX11 = some m.cls := hown
  refine lv_iload_n hx hb dX11_plan_0 rfl (lv_at hl 1 rfl) ?_
  refine lv_aload_n hx hb dX11_plan_1 rfl (lv_at hl 0 rfl) ?_
  refine va_get (D := (dC, dI)) (ci := 11) (v := .int 0) (C := RX11) (T := TX11) (N := 114) hx hb ht inX11 hown hK hP 0 rfl rfl 6 (by decide) (ht _ kw_1433) (fun _ h9 => h9) hfm_6 dX11_plan_2 ?_
  refine ro_callS (n := 2) (As := [.int na, .int 0]) (rest := []) hx hb hml hown ht hK hP hS hA hE (ct_X11_isOf l dC dI  _ na) gv_X11_317 rfl rfl (by decide +kernel) ⟨Nat.le_of_ble_eq_true rfl, Nat.le_of_ble_eq_true rfl⟩ rfl hl.1 (Nat.le_of_ble_eq_true rfl) ⟨Nat.le_of_ble_eq_true rfl, Nat.le_of_ble_eq_true rfl⟩ rfl dX11_plan_5 (fun H locs hP hS => ?_)
  refine lv_if_ne (tgt := 14) hx hb dX11_plan_8 (by decide) (fun c1 => ?_) (fun c1 => ?_)
  · exact absurd (by decide) c1
  refine lv_bipush (v := (-2)) hx hb dX11_plan_11 (by decide) ?_
  exact W.iret hx hb hr (fun t ht9 hW => ⟨⟨_, (), rfl, rfl, trivial⟩, hS.F ht9⟩) hS.2.2 dX11_plan_13
abbrev cX11_match : ByteArray := prog_13_method_31_code
def yX11_match : MethodName := ⟨RX11, "match", "(II)I"⟩
theorem dX11_match_0 : decode cX11_match 0 = .ok (.iload_n 1, 1) := by decide +kernel
theorem dX11_match_1 : decode cX11_match 1 = .ok (.aload_n 0, 1) := by decide +kernel
theorem dX11_match_2 : decode cX11_match 2 = .ok (.getfield 343, 3) := by decide +kernel
theorem kw_1456 : Cond.fieldLink RX11 343 "SportsHouseModel" "matches" "I" ∈ lw_g := lw_at 1456 (by decide +kernel) rfl
theorem dX11_match_5 : decode cX11_match 5 = .ok (.invokestatic 317, 3) := by decide +kernel
theorem dX11_match_8 : decode cX11_match 8 = .ok (.ifCond .ne 6, 3) := by decide +kernel
theorem dX11_match_11 : decode cX11_match 11 = .ok (.bipush (-2), 2) := by decide +kernel
theorem dX11_match_13 : decode cX11_match 13 = .ok (.ireturn, 1) := by decide +kernel
set_option maxHeartbeats 4000000 in
set_option maxRecDepth 100000 in
theorem ct_X11_match (l : Launch) (dC : Nat → ClassId) (dI : Nat → Nat → Nat) (m0 : Nat) (fm : List Value) (hfm_29 : fm[29]? = some (.int 0)) (sz : Nat) (na : Int32) (nb : Int32) : Met l yX11_match (.code yX11_match cX11_match 3 (some .int) :: lw_g) ({ frames := 2, cells := 0, slots := 0, locals := 120 }) (ro_P dC dI [(m0, .inr (11, fm))] [] sz [.ref m0, .int na, .int nb]) (ri_Q (-2) (va_A [] sz)) 0 0 (va_A [] sz) := by
  refine ro_entry (by decide) (Nat.le_of_ble_eq_true rfl) ?_
  intro p e s m below meth c ls hx hb hr hlocks ht hown hin hml hsz hP hK hD hE hl
  subst hsz
  have hS : va_S (va_A [] s.heap.size) s.heap s.heap [] := va_S.rf
  have hA : ∀ q, s.heap.size ≤ q → va_A [] s.heap.size q := fun q h => Or.inr h
  have hl : lv_has ls 3 [(0, .ref m0), (1, .int na), (2, .int nb)] := hl
  have hown : s.vm.findClass RX11 = some m.cls := hown
  refine lv_iload_n hx hb dX11_match_0 rfl (lv_at hl 1 rfl) ?_
  refine lv_aload_n hx hb dX11_match_1 rfl (lv_at hl 0 rfl) ?_
  refine va_get (D := (dC, dI)) (ci := 11) (v := .int 0) (C := RX11) (T := TX11) (N := 114) hx hb ht inX11 hown hK hP 0 rfl rfl 29 (by decide) (ht _ kw_1456) (fun _ h9 => h9) hfm_29 dX11_match_2 ?_
  refine ro_callS (n := 2) (As := [.int na, .int 0]) (rest := []) hx hb hml hown ht hK hP hS hA hE (ct_X11_isOf l dC dI  _ na) gv_X11_317 rfl rfl (by decide +kernel) ⟨Nat.le_of_ble_eq_true rfl, Nat.le_of_ble_eq_true rfl⟩ rfl hl.1 (Nat.le_of_ble_eq_true rfl) ⟨Nat.le_of_ble_eq_true rfl, Nat.le_of_ble_eq_true rfl⟩ rfl dX11_match_5 (fun H locs hP hS => ?_)
  refine lv_if_ne (tgt := 14) hx hb dX11_match_8 (by decide) (fun c1 => ?_) (fun c1 => ?_)
  · exact absurd (by decide) c1
  refine lv_bipush (v := (-2)) hx hb dX11_match_11 (by decide) ?_
  exact W.iret hx hb hr (fun t ht9 hW => ⟨⟨_, (), rfl, rfl, trivial⟩, hS.F ht9⟩) hS.2.2 dX11_match_13
abbrev cX11_breaks : ByteArray := prog_13_method_32_code
def yX11_breaks : MethodName := ⟨RX11, "breaks", "(II)I"⟩
theorem dX11_breaks_0 : decode cX11_breaks 0 = .ok (.iload_n 1, 1) := by decide +kernel
theorem dX11_breaks_1 : decode cX11_breaks 1 = .ok (.aload_n 0, 1) := by decide +kernel
theorem dX11_breaks_2 : decode cX11_breaks 2 = .ok (.getfield 308, 3) := by decide +kernel
theorem dX11_breaks_5 : decode cX11_breaks 5 = .ok (.invokestatic 317, 3) := by decide +kernel
theorem dX11_breaks_8 : decode cX11_breaks 8 = .ok (.ifCond .eq 14, 3) := by decide +kernel
theorem dX11_breaks_22 : decode cX11_breaks 22 = .ok (.bipush (-2), 2) := by decide +kernel
theorem dX11_breaks_24 : decode cX11_breaks 24 = .ok (.ireturn, 1) := by decide +kernel
set_option maxHeartbeats 4000000 in
set_option maxRecDepth 100000 in
theorem ct_X11_breaks (l : Launch) (dC : Nat → ClassId) (dI : Nat → Nat → Nat) (m0 : Nat) (fm : List Value) (hfm_6 : fm[6]? = some (.int 0)) (sz : Nat) (na : Int32) (nb : Int32) : Met l yX11_breaks (.code yX11_breaks cX11_breaks 7 (some .int) :: lw_g) ({ frames := 2, cells := 0, slots := 0, locals := 120 }) (ro_P dC dI [(m0, .inr (11, fm))] [] sz [.ref m0, .int na, .int nb]) (ri_Q (-2) (va_A [] sz)) 0 0 (va_A [] sz) := by
  refine ro_entry (by decide) (Nat.le_of_ble_eq_true rfl) ?_
  intro p e s m below meth c ls hx hb hr hlocks ht hown hin hml hsz hP hK hD hE hl
  subst hsz
  have hS : va_S (va_A [] s.heap.size) s.heap s.heap [] := va_S.rf
  have hA : ∀ q, s.heap.size ≤ q → va_A [] s.heap.size q := fun q h => Or.inr h
  have hl : lv_has ls 7 [(0, .ref m0), (1, .int na), (2, .int nb)] := hl
  have hown : s.vm.findClass RX11 = some m.cls := hown
  refine lv_iload_n hx hb dX11_breaks_0 rfl (lv_at hl 1 rfl) ?_
  refine lv_aload_n hx hb dX11_breaks_1 rfl (lv_at hl 0 rfl) ?_
  refine va_get (D := (dC, dI)) (ci := 11) (v := .int 0) (C := RX11) (T := TX11) (N := 114) hx hb ht inX11 hown hK hP 0 rfl rfl 6 (by decide) (ht _ kw_1433) (fun _ h9 => h9) hfm_6 dX11_breaks_2 ?_
  refine ro_callS (n := 2) (As := [.int na, .int 0]) (rest := []) hx hb hml hown ht hK hP hS hA hE (ct_X11_isOf l dC dI  _ na) gv_X11_317 rfl rfl (by decide +kernel) ⟨Nat.le_of_ble_eq_true rfl, Nat.le_of_ble_eq_true rfl⟩ rfl hl.1 (Nat.le_of_ble_eq_true rfl) ⟨Nat.le_of_ble_eq_true rfl, Nat.le_of_ble_eq_true rfl⟩ rfl dX11_breaks_5 (fun H locs hP hS => ?_)
  refine lv_if_eq (tgt := 22) hx hb dX11_breaks_8 (by decide) (fun c1 => ?_) (fun c1 => ?_)
  rotate_left
  · exact absurd (by decide) c1
  refine lv_bipush (v := (-2)) hx hb dX11_breaks_22 (by decide) ?_
  exact W.iret hx hb hr (fun t ht9 hW => ⟨⟨_, (), rfl, rfl, trivial⟩, hS.F ht9⟩) hS.2.2 dX11_breaks_24
abbrev cX11_postpone : ByteArray := prog_13_method_36_code
def yX11_postpone : MethodName := ⟨RX11, "postpone", "(II)I"⟩
theorem dX11_postpone_0 : decode cX11_postpone 0 = .ok (.iload_n 1, 1) := by decide +kernel
theorem dX11_postpone_1 : decode cX11_postpone 1 = .ok (.aload_n 0, 1) := by decide +kernel
theorem dX11_postpone_2 : decode cX11_postpone 2 = .ok (.getfield 343, 3) := by decide +kernel
theorem dX11_postpone_5 : decode cX11_postpone 5 = .ok (.invokestatic 317, 3) := by decide +kernel
theorem dX11_postpone_8 : decode cX11_postpone 8 = .ok (.ifCond .ne 6, 3) := by decide +kernel
theorem dX11_postpone_11 : decode cX11_postpone 11 = .ok (.bipush (-2), 2) := by decide +kernel
theorem dX11_postpone_13 : decode cX11_postpone 13 = .ok (.ireturn, 1) := by decide +kernel
set_option maxHeartbeats 4000000 in
set_option maxRecDepth 100000 in
theorem ct_X11_postpone (l : Launch) (dC : Nat → ClassId) (dI : Nat → Nat → Nat) (m0 : Nat) (fm : List Value) (hfm_29 : fm[29]? = some (.int 0)) (sz : Nat) (na : Int32) (nb : Int32) : Met l yX11_postpone (.code yX11_postpone cX11_postpone 9 (some .int) :: lw_g) ({ frames := 2, cells := 0, slots := 0, locals := 120 }) (ro_P dC dI [(m0, .inr (11, fm))] [] sz [.ref m0, .int na, .int nb]) (ri_Q (-2) (va_A [] sz)) 0 0 (va_A [] sz) := by
  refine ro_entry (by decide) (Nat.le_of_ble_eq_true rfl) ?_
  intro p e s m below meth c ls hx hb hr hlocks ht hown hin hml hsz hP hK hD hE hl
  subst hsz
  have hS : va_S (va_A [] s.heap.size) s.heap s.heap [] := va_S.rf
  have hA : ∀ q, s.heap.size ≤ q → va_A [] s.heap.size q := fun q h => Or.inr h
  have hl : lv_has ls 9 [(0, .ref m0), (1, .int na), (2, .int nb)] := hl
  have hown : s.vm.findClass RX11 = some m.cls := hown
  refine lv_iload_n hx hb dX11_postpone_0 rfl (lv_at hl 1 rfl) ?_
  refine lv_aload_n hx hb dX11_postpone_1 rfl (lv_at hl 0 rfl) ?_
  refine va_get (D := (dC, dI)) (ci := 11) (v := .int 0) (C := RX11) (T := TX11) (N := 114) hx hb ht inX11 hown hK hP 0 rfl rfl 29 (by decide) (ht _ kw_1456) (fun _ h9 => h9) hfm_29 dX11_postpone_2 ?_
  refine ro_callS (n := 2) (As := [.int na, .int 0]) (rest := []) hx hb hml hown ht hK hP hS hA hE (ct_X11_isOf l dC dI  _ na) gv_X11_317 rfl rfl (by decide +kernel) ⟨Nat.le_of_ble_eq_true rfl, Nat.le_of_ble_eq_true rfl⟩ rfl hl.1 (Nat.le_of_ble_eq_true rfl) ⟨Nat.le_of_ble_eq_true rfl, Nat.le_of_ble_eq_true rfl⟩ rfl dX11_postpone_5 (fun H locs hP hS => ?_)
  refine lv_if_ne (tgt := 14) hx hb dX11_postpone_8 (by decide) (fun c1 => ?_) (fun c1 => ?_)
  · exact absurd (by decide) c1
  refine lv_bipush (v := (-2)) hx hb dX11_postpone_11 (by decide) ?_
  exact W.iret hx hb hr (fun t ht9 hW => ⟨⟨_, (), rfl, rfl, trivial⟩, hS.F ht9⟩) hS.2.2 dX11_postpone_13
abbrev cX11_moved : ByteArray := prog_13_method_37_code
def yX11_moved : MethodName := ⟨RX11, "moved", "(I)I"⟩
theorem dX11_moved_0 : decode cX11_moved 0 = .ok (.iload_n 1, 1) := by decide +kernel
theorem dX11_moved_1 : decode cX11_moved 1 = .ok (.aload_n 0, 1) := by decide +kernel
theorem dX11_moved_2 : decode cX11_moved 2 = .ok (.getfield 362, 3) := by decide +kernel
theorem kw_1502 : Cond.fieldLink RX11 362 "SportsHouseModel" "movedMany" "I" ∈ lw_g := lw_at 1502 (by decide +kernel) rfl
theorem dX11_moved_5 : decode cX11_moved 5 = .ok (.invokestatic 317, 3) := by decide +kernel
theorem dX11_moved_8 : decode cX11_moved 8 = .ok (.ifCond .eq 12, 3) := by decide +kernel
theorem dX11_moved_20 : decode cX11_moved 20 = .ok (.iconst (-1), 1) := by decide +kernel
theorem dX11_moved_21 : decode cX11_moved 21 = .ok (.ireturn, 1) := by decide +kernel
set_option maxHeartbeats 4000000 in
set_option maxRecDepth 100000 in
theorem ct_X11_moved (l : Launch) (dC : Nat → ClassId) (dI : Nat → Nat → Nat) (m0 : Nat) (fm : List Value) (hfm_75 : fm[75]? = some (.int 0)) (sz : Nat) (na : Int32) : Met l yX11_moved (.code yX11_moved cX11_moved 2 (some .int) :: lw_g) ({ frames := 2, cells := 0, slots := 0, locals := 120 }) (ro_P dC dI [(m0, .inr (11, fm))] [] sz [.ref m0, .int na]) (ri_Q (-1) (va_A [] sz)) 0 0 (va_A [] sz) := by
  refine ro_entry (by decide) (Nat.le_of_ble_eq_true rfl) ?_
  intro p e s m below meth c ls hx hb hr hlocks ht hown hin hml hsz hP hK hD hE hl
  subst hsz
  have hS : va_S (va_A [] s.heap.size) s.heap s.heap [] := va_S.rf
  have hA : ∀ q, s.heap.size ≤ q → va_A [] s.heap.size q := fun q h => Or.inr h
  have hl : lv_has ls 2 [(0, .ref m0), (1, .int na)] := hl
  have hown : s.vm.findClass RX11 = some m.cls := hown
  refine lv_iload_n hx hb dX11_moved_0 rfl (lv_at hl 1 rfl) ?_
  refine lv_aload_n hx hb dX11_moved_1 rfl (lv_at hl 0 rfl) ?_
  refine va_get (D := (dC, dI)) (ci := 11) (v := .int 0) (C := RX11) (T := TX11) (N := 114) hx hb ht inX11 hown hK hP 0 rfl rfl 75 (by decide) (ht _ kw_1502) (fun _ h9 => h9) hfm_75 dX11_moved_2 ?_
  refine ro_callS (n := 2) (As := [.int na, .int 0]) (rest := []) hx hb hml hown ht hK hP hS hA hE (ct_X11_isOf l dC dI  _ na) gv_X11_317 rfl rfl (by decide +kernel) ⟨Nat.le_of_ble_eq_true rfl, Nat.le_of_ble_eq_true rfl⟩ rfl hl.1 (Nat.le_of_ble_eq_true rfl) ⟨Nat.le_of_ble_eq_true rfl, Nat.le_of_ble_eq_true rfl⟩ rfl dX11_moved_5 (fun H locs hP hS => ?_)
  refine lv_if_eq (tgt := 20) hx hb dX11_moved_8 (by decide) (fun c1 => ?_) (fun c1 => ?_)
  rotate_left
  · exact absurd (by decide) c1
  refine lv_iconst (v := (-1)) hx hb dX11_moved_20 (by decide) ?_
  exact W.iret hx hb hr (fun t ht9 hW => ⟨⟨_, (), rfl, rfl, trivial⟩, hS.F ht9⟩) hS.2.2 dX11_moved_21
abbrev cX11_deduct : ByteArray := prog_13_method_38_code
def yX11_deduct : MethodName := ⟨RX11, "deduct", "(III)I"⟩
theorem dX11_deduct_0 : decode cX11_deduct 0 = .ok (.iload_n 1, 1) := by decide +kernel
theorem dX11_deduct_1 : decode cX11_deduct 1 = .ok (.aload_n 0, 1) := by decide +kernel
theorem dX11_deduct_2 : decode cX11_deduct 2 = .ok (.getfield 308, 3) := by decide +kernel
theorem dX11_deduct_5 : decode cX11_deduct 5 = .ok (.invokestatic 317, 3) := by decide +kernel
theorem dX11_deduct_8 : decode cX11_deduct 8 = .ok (.ifCond .eq 14, 3) := by decide +kernel
theorem dX11_deduct_22 : decode cX11_deduct 22 = .ok (.bipush (-2), 2) := by decide +kernel
theorem dX11_deduct_24 : decode cX11_deduct 24 = .ok (.ireturn, 1) := by decide +kernel
set_option maxHeartbeats 4000000 in
set_option maxRecDepth 100000 in
theorem ct_X11_deduct (l : Launch) (dC : Nat → ClassId) (dI : Nat → Nat → Nat) (m0 : Nat) (fm : List Value) (hfm_6 : fm[6]? = some (.int 0)) (sz : Nat) (na : Int32) (nb : Int32) (nc : Int32) : Met l yX11_deduct (.code yX11_deduct cX11_deduct 4 (some .int) :: lw_g) ({ frames := 2, cells := 0, slots := 0, locals := 120 }) (ro_P dC dI [(m0, .inr (11, fm))] [] sz [.ref m0, .int na, .int nb, .int nc]) (ri_Q (-2) (va_A [] sz)) 0 0 (va_A [] sz) := by
  refine ro_entry (by decide) (Nat.le_of_ble_eq_true rfl) ?_
  intro p e s m below meth c ls hx hb hr hlocks ht hown hin hml hsz hP hK hD hE hl
  subst hsz
  have hS : va_S (va_A [] s.heap.size) s.heap s.heap [] := va_S.rf
  have hA : ∀ q, s.heap.size ≤ q → va_A [] s.heap.size q := fun q h => Or.inr h
  have hl : lv_has ls 4 [(0, .ref m0), (1, .int na), (2, .int nb), (3, .int nc)] := hl
  have hown : s.vm.findClass RX11 = some m.cls := hown
  refine lv_iload_n hx hb dX11_deduct_0 rfl (lv_at hl 1 rfl) ?_
  refine lv_aload_n hx hb dX11_deduct_1 rfl (lv_at hl 0 rfl) ?_
  refine va_get (D := (dC, dI)) (ci := 11) (v := .int 0) (C := RX11) (T := TX11) (N := 114) hx hb ht inX11 hown hK hP 0 rfl rfl 6 (by decide) (ht _ kw_1433) (fun _ h9 => h9) hfm_6 dX11_deduct_2 ?_
  refine ro_callS (n := 2) (As := [.int na, .int 0]) (rest := []) hx hb hml hown ht hK hP hS hA hE (ct_X11_isOf l dC dI  _ na) gv_X11_317 rfl rfl (by decide +kernel) ⟨Nat.le_of_ble_eq_true rfl, Nat.le_of_ble_eq_true rfl⟩ rfl hl.1 (Nat.le_of_ble_eq_true rfl) ⟨Nat.le_of_ble_eq_true rfl, Nat.le_of_ble_eq_true rfl⟩ rfl dX11_deduct_5 (fun H locs hP hS => ?_)
  refine lv_if_eq (tgt := 22) hx hb dX11_deduct_8 (by decide) (fun c1 => ?_) (fun c1 => ?_)
  rotate_left
  · exact absurd (by decide) c1
  refine lv_bipush (v := (-2)) hx hb dX11_deduct_22 (by decide) ?_
  exact W.iret hx hb hr (fun t ht9 hW => ⟨⟨_, (), rfl, rfl, trivial⟩, hS.F ht9⟩) hS.2.2 dX11_deduct_24
abbrev cX11_eligible : ByteArray := prog_13_method_45_code
def yX11_eligible : MethodName := ⟨RX11, "eligible", "(III)I"⟩
theorem dX11_eligible_0 : decode cX11_eligible 0 = .ok (.iload_n 1, 1) := by decide +kernel
theorem dX11_eligible_1 : decode cX11_eligible 1 = .ok (.aload_n 0, 1) := by decide +kernel
theorem dX11_eligible_2 : decode cX11_eligible 2 = .ok (.getfield 328, 3) := by decide +kernel
theorem dX11_eligible_5 : decode cX11_eligible 5 = .ok (.invokestatic 317, 3) := by decide +kernel
theorem dX11_eligible_8 : decode cX11_eligible 8 = .ok (.ifCond .eq 14, 3) := by decide +kernel
theorem dX11_eligible_22 : decode cX11_eligible 22 = .ok (.bipush (-2), 2) := by decide +kernel
theorem dX11_eligible_24 : decode cX11_eligible 24 = .ok (.ireturn, 1) := by decide +kernel
set_option maxHeartbeats 4000000 in
set_option maxRecDepth 100000 in
theorem ct_X11_eligible (l : Launch) (dC : Nat → ClassId) (dI : Nat → Nat → Nat) (m0 : Nat) (fm : List Value) (hfm_15 : fm[15]? = some (.int 0)) (sz : Nat) (na : Int32) (nb : Int32) (nc : Int32) : Met l yX11_eligible (.code yX11_eligible cX11_eligible 4 (some .int) :: lw_g) ({ frames := 2, cells := 0, slots := 0, locals := 120 }) (ro_P dC dI [(m0, .inr (11, fm))] [] sz [.ref m0, .int na, .int nb, .int nc]) (ri_Q (-2) (va_A [] sz)) 0 0 (va_A [] sz) := by
  refine ro_entry (by decide) (Nat.le_of_ble_eq_true rfl) ?_
  intro p e s m below meth c ls hx hb hr hlocks ht hown hin hml hsz hP hK hD hE hl
  subst hsz
  have hS : va_S (va_A [] s.heap.size) s.heap s.heap [] := va_S.rf
  have hA : ∀ q, s.heap.size ≤ q → va_A [] s.heap.size q := fun q h => Or.inr h
  have hl : lv_has ls 4 [(0, .ref m0), (1, .int na), (2, .int nb), (3, .int nc)] := hl
  have hown : s.vm.findClass RX11 = some m.cls := hown
  refine lv_iload_n hx hb dX11_eligible_0 rfl (lv_at hl 1 rfl) ?_
  refine lv_aload_n hx hb dX11_eligible_1 rfl (lv_at hl 0 rfl) ?_
  refine va_get (D := (dC, dI)) (ci := 11) (v := .int 0) (C := RX11) (T := TX11) (N := 114) hx hb ht inX11 hown hK hP 0 rfl rfl 15 (by decide) (ht _ kw_1442) (fun _ h9 => h9) hfm_15 dX11_eligible_2 ?_
  refine ro_callS (n := 2) (As := [.int na, .int 0]) (rest := []) hx hb hml hown ht hK hP hS hA hE (ct_X11_isOf l dC dI  _ na) gv_X11_317 rfl rfl (by decide +kernel) ⟨Nat.le_of_ble_eq_true rfl, Nat.le_of_ble_eq_true rfl⟩ rfl hl.1 (Nat.le_of_ble_eq_true rfl) ⟨Nat.le_of_ble_eq_true rfl, Nat.le_of_ble_eq_true rfl⟩ rfl dX11_eligible_5 (fun H locs hP hS => ?_)
  refine lv_if_eq (tgt := 22) hx hb dX11_eligible_8 (by decide) (fun c1 => ?_) (fun c1 => ?_)
  rotate_left
  · exact absurd (by decide) c1
  refine lv_bipush (v := (-2)) hx hb dX11_eligible_22 (by decide) ?_
  exact W.iret hx hb hr (fun t ht9 hW => ⟨⟨_, (), rfl, rfl, trivial⟩, hS.F ht9⟩) hS.2.2 dX11_eligible_24
abbrev cX11_lineUp : ByteArray := prog_13_method_46_code
def yX11_lineUp : MethodName := ⟨RX11, "lineUp", "(III)I"⟩
theorem dX11_lineUp_0 : decode cX11_lineUp 0 = .ok (.iload_n 1, 1) := by decide +kernel
theorem dX11_lineUp_1 : decode cX11_lineUp 1 = .ok (.aload_n 0, 1) := by decide +kernel
theorem dX11_lineUp_2 : decode cX11_lineUp 2 = .ok (.getfield 328, 3) := by decide +kernel
theorem dX11_lineUp_5 : decode cX11_lineUp 5 = .ok (.invokestatic 317, 3) := by decide +kernel
theorem dX11_lineUp_8 : decode cX11_lineUp 8 = .ok (.ifCond .eq 14, 3) := by decide +kernel
theorem dX11_lineUp_22 : decode cX11_lineUp 22 = .ok (.bipush (-2), 2) := by decide +kernel
theorem dX11_lineUp_24 : decode cX11_lineUp 24 = .ok (.ireturn, 1) := by decide +kernel
set_option maxHeartbeats 4000000 in
set_option maxRecDepth 100000 in
theorem ct_X11_lineUp (l : Launch) (dC : Nat → ClassId) (dI : Nat → Nat → Nat) (m0 : Nat) (fm : List Value) (hfm_15 : fm[15]? = some (.int 0)) (sz : Nat) (na : Int32) (nb : Int32) (nc : Int32) : Met l yX11_lineUp (.code yX11_lineUp cX11_lineUp 6 (some .int) :: lw_g) ({ frames := 2, cells := 0, slots := 0, locals := 120 }) (ro_P dC dI [(m0, .inr (11, fm))] [] sz [.ref m0, .int na, .int nb, .int nc]) (ri_Q (-2) (va_A [] sz)) 0 0 (va_A [] sz) := by
  refine ro_entry (by decide) (Nat.le_of_ble_eq_true rfl) ?_
  intro p e s m below meth c ls hx hb hr hlocks ht hown hin hml hsz hP hK hD hE hl
  subst hsz
  have hS : va_S (va_A [] s.heap.size) s.heap s.heap [] := va_S.rf
  have hA : ∀ q, s.heap.size ≤ q → va_A [] s.heap.size q := fun q h => Or.inr h
  have hl : lv_has ls 6 [(0, .ref m0), (1, .int na), (2, .int nb), (3, .int nc)] := hl
  have hown : s.vm.findClass RX11 = some m.cls := hown
  refine lv_iload_n hx hb dX11_lineUp_0 rfl (lv_at hl 1 rfl) ?_
  refine lv_aload_n hx hb dX11_lineUp_1 rfl (lv_at hl 0 rfl) ?_
  refine va_get (D := (dC, dI)) (ci := 11) (v := .int 0) (C := RX11) (T := TX11) (N := 114) hx hb ht inX11 hown hK hP 0 rfl rfl 15 (by decide) (ht _ kw_1442) (fun _ h9 => h9) hfm_15 dX11_lineUp_2 ?_
  refine ro_callS (n := 2) (As := [.int na, .int 0]) (rest := []) hx hb hml hown ht hK hP hS hA hE (ct_X11_isOf l dC dI  _ na) gv_X11_317 rfl rfl (by decide +kernel) ⟨Nat.le_of_ble_eq_true rfl, Nat.le_of_ble_eq_true rfl⟩ rfl hl.1 (Nat.le_of_ble_eq_true rfl) ⟨Nat.le_of_ble_eq_true rfl, Nat.le_of_ble_eq_true rfl⟩ rfl dX11_lineUp_5 (fun H locs hP hS => ?_)
  refine lv_if_eq (tgt := 22) hx hb dX11_lineUp_8 (by decide) (fun c1 => ?_) (fun c1 => ?_)
  rotate_left
  · exact absurd (by decide) c1
  refine lv_bipush (v := (-2)) hx hb dX11_lineUp_22 (by decide) ?_
  exact W.iret hx hb hr (fun t ht9 hW => ⟨⟨_, (), rfl, rfl, trivial⟩, hS.F ht9⟩) hS.2.2 dX11_lineUp_24
abbrev cX11_start : ByteArray := prog_13_method_48_code
def yX11_start : MethodName := ⟨RX11, "start", "(I)I"⟩
theorem dX11_start_0 : decode cX11_start 0 = .ok (.iload_n 1, 1) := by decide +kernel
theorem dX11_start_1 : decode cX11_start 1 = .ok (.aload_n 0, 1) := by decide +kernel
theorem dX11_start_2 : decode cX11_start 2 = .ok (.getfield 343, 3) := by decide +kernel
theorem dX11_start_5 : decode cX11_start 5 = .ok (.invokestatic 317, 3) := by decide +kernel
theorem dX11_start_8 : decode cX11_start 8 = .ok (.ifCond .ne 6, 3) := by decide +kernel
theorem dX11_start_11 : decode cX11_start 11 = .ok (.bipush (-2), 2) := by decide +kernel
theorem dX11_start_13 : decode cX11_start 13 = .ok (.ireturn, 1) := by decide +kernel
set_option maxHeartbeats 4000000 in
set_option maxRecDepth 100000 in
theorem ct_X11_start (l : Launch) (dC : Nat → ClassId) (dI : Nat → Nat → Nat) (m0 : Nat) (fm : List Value) (hfm_29 : fm[29]? = some (.int 0)) (sz : Nat) (na : Int32) : Met l yX11_start (.code yX11_start cX11_start 3 (some .int) :: lw_g) ({ frames := 2, cells := 0, slots := 0, locals := 120 }) (ro_P dC dI [(m0, .inr (11, fm))] [] sz [.ref m0, .int na]) (ri_Q (-2) (va_A [] sz)) 0 0 (va_A [] sz) := by
  refine ro_entry (by decide) (Nat.le_of_ble_eq_true rfl) ?_
  intro p e s m below meth c ls hx hb hr hlocks ht hown hin hml hsz hP hK hD hE hl
  subst hsz
  have hS : va_S (va_A [] s.heap.size) s.heap s.heap [] := va_S.rf
  have hA : ∀ q, s.heap.size ≤ q → va_A [] s.heap.size q := fun q h => Or.inr h
  have hl : lv_has ls 3 [(0, .ref m0), (1, .int na)] := hl
  have hown : s.vm.findClass RX11 = some m.cls := hown
  refine lv_iload_n hx hb dX11_start_0 rfl (lv_at hl 1 rfl) ?_
  refine lv_aload_n hx hb dX11_start_1 rfl (lv_at hl 0 rfl) ?_
  refine va_get (D := (dC, dI)) (ci := 11) (v := .int 0) (C := RX11) (T := TX11) (N := 114) hx hb ht inX11 hown hK hP 0 rfl rfl 29 (by decide) (ht _ kw_1456) (fun _ h9 => h9) hfm_29 dX11_start_2 ?_
  refine ro_callS (n := 2) (As := [.int na, .int 0]) (rest := []) hx hb hml hown ht hK hP hS hA hE (ct_X11_isOf l dC dI  _ na) gv_X11_317 rfl rfl (by decide +kernel) ⟨Nat.le_of_ble_eq_true rfl, Nat.le_of_ble_eq_true rfl⟩ rfl hl.1 (Nat.le_of_ble_eq_true rfl) ⟨Nat.le_of_ble_eq_true rfl, Nat.le_of_ble_eq_true rfl⟩ rfl dX11_start_5 (fun H locs hP hS => ?_)
  refine lv_if_ne (tgt := 14) hx hb dX11_start_8 (by decide) (fun c1 => ?_) (fun c1 => ?_)
  · exact absurd (by decide) c1
  refine lv_bipush (v := (-2)) hx hb dX11_start_11 (by decide) ?_
  exact W.iret hx hb hr (fun t ht9 hW => ⟨⟨_, (), rfl, rfl, trivial⟩, hS.F ht9⟩) hS.2.2 dX11_start_13
abbrev cX11_walkOver : ByteArray := prog_13_method_49_code
def yX11_walkOver : MethodName := ⟨RX11, "walkOver", "(II)I"⟩
theorem dX11_walkOver_0 : decode cX11_walkOver 0 = .ok (.iload_n 1, 1) := by decide +kernel
theorem dX11_walkOver_1 : decode cX11_walkOver 1 = .ok (.aload_n 0, 1) := by decide +kernel
theorem dX11_walkOver_2 : decode cX11_walkOver 2 = .ok (.getfield 343, 3) := by decide +kernel
theorem dX11_walkOver_5 : decode cX11_walkOver 5 = .ok (.invokestatic 317, 3) := by decide +kernel
theorem dX11_walkOver_8 : decode cX11_walkOver 8 = .ok (.ifCond .ne 6, 3) := by decide +kernel
theorem dX11_walkOver_11 : decode cX11_walkOver 11 = .ok (.bipush (-2), 2) := by decide +kernel
theorem dX11_walkOver_13 : decode cX11_walkOver 13 = .ok (.ireturn, 1) := by decide +kernel
set_option maxHeartbeats 4000000 in
set_option maxRecDepth 100000 in
theorem ct_X11_walkOver (l : Launch) (dC : Nat → ClassId) (dI : Nat → Nat → Nat) (m0 : Nat) (fm : List Value) (hfm_29 : fm[29]? = some (.int 0)) (sz : Nat) (na : Int32) (nb : Int32) : Met l yX11_walkOver (.code yX11_walkOver cX11_walkOver 3 (some .int) :: lw_g) ({ frames := 2, cells := 0, slots := 0, locals := 120 }) (ro_P dC dI [(m0, .inr (11, fm))] [] sz [.ref m0, .int na, .int nb]) (ri_Q (-2) (va_A [] sz)) 0 0 (va_A [] sz) := by
  refine ro_entry (by decide) (Nat.le_of_ble_eq_true rfl) ?_
  intro p e s m below meth c ls hx hb hr hlocks ht hown hin hml hsz hP hK hD hE hl
  subst hsz
  have hS : va_S (va_A [] s.heap.size) s.heap s.heap [] := va_S.rf
  have hA : ∀ q, s.heap.size ≤ q → va_A [] s.heap.size q := fun q h => Or.inr h
  have hl : lv_has ls 3 [(0, .ref m0), (1, .int na), (2, .int nb)] := hl
  have hown : s.vm.findClass RX11 = some m.cls := hown
  refine lv_iload_n hx hb dX11_walkOver_0 rfl (lv_at hl 1 rfl) ?_
  refine lv_aload_n hx hb dX11_walkOver_1 rfl (lv_at hl 0 rfl) ?_
  refine va_get (D := (dC, dI)) (ci := 11) (v := .int 0) (C := RX11) (T := TX11) (N := 114) hx hb ht inX11 hown hK hP 0 rfl rfl 29 (by decide) (ht _ kw_1456) (fun _ h9 => h9) hfm_29 dX11_walkOver_2 ?_
  refine ro_callS (n := 2) (As := [.int na, .int 0]) (rest := []) hx hb hml hown ht hK hP hS hA hE (ct_X11_isOf l dC dI  _ na) gv_X11_317 rfl rfl (by decide +kernel) ⟨Nat.le_of_ble_eq_true rfl, Nat.le_of_ble_eq_true rfl⟩ rfl hl.1 (Nat.le_of_ble_eq_true rfl) ⟨Nat.le_of_ble_eq_true rfl, Nat.le_of_ble_eq_true rfl⟩ rfl dX11_walkOver_5 (fun H locs hP hS => ?_)
  refine lv_if_ne (tgt := 14) hx hb dX11_walkOver_8 (by decide) (fun c1 => ?_) (fun c1 => ?_)
  · exact absurd (by decide) c1
  refine lv_bipush (v := (-2)) hx hb dX11_walkOver_11 (by decide) ?_
  exact W.iret hx hb hr (fun t ht9 hW => ⟨⟨_, (), rfl, rfl, trivial⟩, hS.F ht9⟩) hS.2.2 dX11_walkOver_13
abbrev cX11_event : ByteArray := prog_13_method_74_code
def yX11_event : MethodName := ⟨RX11, "event", "(IIIII)I"⟩
theorem dX11_event_0 : decode cX11_event 0 = .ok (.iload_n 1, 1) := by decide +kernel
theorem dX11_event_1 : decode cX11_event 1 = .ok (.aload_n 0, 1) := by decide +kernel
theorem dX11_event_2 : decode cX11_event 2 = .ok (.getfield 343, 3) := by decide +kernel
theorem dX11_event_5 : decode cX11_event 5 = .ok (.invokestatic 317, 3) := by decide +kernel
theorem dX11_event_8 : decode cX11_event 8 = .ok (.ifCond .ne 6, 3) := by decide +kernel
theorem dX11_event_11 : decode cX11_event 11 = .ok (.bipush (-2), 2) := by decide +kernel
theorem dX11_event_13 : decode cX11_event 13 = .ok (.ireturn, 1) := by decide +kernel
set_option maxHeartbeats 4000000 in
set_option maxRecDepth 100000 in
theorem ct_X11_event (l : Launch) (dC : Nat → ClassId) (dI : Nat → Nat → Nat) (m0 : Nat) (fm : List Value) (hfm_29 : fm[29]? = some (.int 0)) (sz : Nat) (na : Int32) (nb : Int32) (nc : Int32) (nd : Int32) (ne : Int32) : Met l yX11_event (.code yX11_event cX11_event 8 (some .int) :: lw_g) ({ frames := 2, cells := 0, slots := 0, locals := 120 }) (ro_P dC dI [(m0, .inr (11, fm))] [] sz [.ref m0, .int na, .int nb, .int nc, .int nd, .int ne]) (ri_Q (-2) (va_A [] sz)) 0 0 (va_A [] sz) := by
  refine ro_entry (by decide) (Nat.le_of_ble_eq_true rfl) ?_
  intro p e s m below meth c ls hx hb hr hlocks ht hown hin hml hsz hP hK hD hE hl
  subst hsz
  have hS : va_S (va_A [] s.heap.size) s.heap s.heap [] := va_S.rf
  have hA : ∀ q, s.heap.size ≤ q → va_A [] s.heap.size q := fun q h => Or.inr h
  have hl : lv_has ls 8 [(0, .ref m0), (1, .int na), (2, .int nb), (3, .int nc), (4, .int nd), (5, .int ne)] := hl
  have hown : s.vm.findClass RX11 = some m.cls := hown
  refine lv_iload_n hx hb dX11_event_0 rfl (lv_at hl 1 rfl) ?_
  refine lv_aload_n hx hb dX11_event_1 rfl (lv_at hl 0 rfl) ?_
  refine va_get (D := (dC, dI)) (ci := 11) (v := .int 0) (C := RX11) (T := TX11) (N := 114) hx hb ht inX11 hown hK hP 0 rfl rfl 29 (by decide) (ht _ kw_1456) (fun _ h9 => h9) hfm_29 dX11_event_2 ?_
  refine ro_callS (n := 2) (As := [.int na, .int 0]) (rest := []) hx hb hml hown ht hK hP hS hA hE (ct_X11_isOf l dC dI  _ na) gv_X11_317 rfl rfl (by decide +kernel) ⟨Nat.le_of_ble_eq_true rfl, Nat.le_of_ble_eq_true rfl⟩ rfl hl.1 (Nat.le_of_ble_eq_true rfl) ⟨Nat.le_of_ble_eq_true rfl, Nat.le_of_ble_eq_true rfl⟩ rfl dX11_event_5 (fun H locs hP hS => ?_)
  refine lv_if_ne (tgt := 14) hx hb dX11_event_8 (by decide) (fun c1 => ?_) (fun c1 => ?_)
  · exact absurd (by decide) c1
  refine lv_bipush (v := (-2)) hx hb dX11_event_11 (by decide) ?_
  exact W.iret hx hb hr (fun t ht9 hW => ⟨⟨_, (), rfl, rfl, trivial⟩, hS.F ht9⟩) hS.2.2 dX11_event_13
abbrev cX11_review : ByteArray := prog_13_method_76_code
def yX11_review : MethodName := ⟨RX11, "review", "(IIIIII)I"⟩
theorem dX11_review_0 : decode cX11_review 0 = .ok (.iload_n 1, 1) := by decide +kernel
theorem dX11_review_1 : decode cX11_review 1 = .ok (.aload_n 0, 1) := by decide +kernel
theorem dX11_review_2 : decode cX11_review 2 = .ok (.getfield 343, 3) := by decide +kernel
theorem dX11_review_5 : decode cX11_review 5 = .ok (.invokestatic 317, 3) := by decide +kernel
theorem dX11_review_8 : decode cX11_review 8 = .ok (.ifCond .eq 16, 3) := by decide +kernel
theorem dX11_review_24 : decode cX11_review 24 = .ok (.bipush (-2), 2) := by decide +kernel
theorem dX11_review_26 : decode cX11_review 26 = .ok (.ireturn, 1) := by decide +kernel
set_option maxHeartbeats 4000000 in
set_option maxRecDepth 100000 in
theorem ct_X11_review (l : Launch) (dC : Nat → ClassId) (dI : Nat → Nat → Nat) (m0 : Nat) (fm : List Value) (hfm_29 : fm[29]? = some (.int 0)) (sz : Nat) (na : Int32) (nb : Int32) (nc : Int32) (nd : Int32) (ne : Int32) (nf : Int32) : Met l yX11_review (.code yX11_review cX11_review 9 (some .int) :: lw_g) ({ frames := 2, cells := 0, slots := 0, locals := 120 }) (ro_P dC dI [(m0, .inr (11, fm))] [] sz [.ref m0, .int na, .int nb, .int nc, .int nd, .int ne, .int nf]) (ri_Q (-2) (va_A [] sz)) 0 0 (va_A [] sz) := by
  refine ro_entry (by decide) (Nat.le_of_ble_eq_true rfl) ?_
  intro p e s m below meth c ls hx hb hr hlocks ht hown hin hml hsz hP hK hD hE hl
  subst hsz
  have hS : va_S (va_A [] s.heap.size) s.heap s.heap [] := va_S.rf
  have hA : ∀ q, s.heap.size ≤ q → va_A [] s.heap.size q := fun q h => Or.inr h
  have hl : lv_has ls 9 [(0, .ref m0), (1, .int na), (2, .int nb), (3, .int nc), (4, .int nd), (5, .int ne), (6, .int nf)] := hl
  have hown : s.vm.findClass RX11 = some m.cls := hown
  refine lv_iload_n hx hb dX11_review_0 rfl (lv_at hl 1 rfl) ?_
  refine lv_aload_n hx hb dX11_review_1 rfl (lv_at hl 0 rfl) ?_
  refine va_get (D := (dC, dI)) (ci := 11) (v := .int 0) (C := RX11) (T := TX11) (N := 114) hx hb ht inX11 hown hK hP 0 rfl rfl 29 (by decide) (ht _ kw_1456) (fun _ h9 => h9) hfm_29 dX11_review_2 ?_
  refine ro_callS (n := 2) (As := [.int na, .int 0]) (rest := []) hx hb hml hown ht hK hP hS hA hE (ct_X11_isOf l dC dI  _ na) gv_X11_317 rfl rfl (by decide +kernel) ⟨Nat.le_of_ble_eq_true rfl, Nat.le_of_ble_eq_true rfl⟩ rfl hl.1 (Nat.le_of_ble_eq_true rfl) ⟨Nat.le_of_ble_eq_true rfl, Nat.le_of_ble_eq_true rfl⟩ rfl dX11_review_5 (fun H locs hP hS => ?_)
  refine lv_if_eq (tgt := 24) hx hb dX11_review_8 (by decide) (fun c1 => ?_) (fun c1 => ?_)
  rotate_left
  · exact absurd (by decide) c1
  refine lv_bipush (v := (-2)) hx hb dX11_review_24 (by decide) ?_
  exact W.iret hx hb hr (fun t ht9 hW => ⟨⟨_, (), rfl, rfl, trivial⟩, hS.F ht9⟩) hS.2.2 dX11_review_26
abbrev cX11_rows : ByteArray := prog_13_method_77_code
def yX11_rows : MethodName := ⟨RX11, "rows", "(II)I"⟩
theorem dX11_rows_0 : decode cX11_rows 0 = .ok (.iload_n 1, 1) := by decide +kernel
theorem dX11_rows_1 : decode cX11_rows 1 = .ok (.aload_n 0, 1) := by decide +kernel
theorem dX11_rows_2 : decode cX11_rows 2 = .ok (.getfield 343, 3) := by decide +kernel
theorem dX11_rows_5 : decode cX11_rows 5 = .ok (.invokestatic 317, 3) := by decide +kernel
theorem dX11_rows_8 : decode cX11_rows 8 = .ok (.ifCond .ne 6, 3) := by decide +kernel
theorem dX11_rows_11 : decode cX11_rows 11 = .ok (.bipush (-2), 2) := by decide +kernel
theorem dX11_rows_13 : decode cX11_rows 13 = .ok (.ireturn, 1) := by decide +kernel
set_option maxHeartbeats 4000000 in
set_option maxRecDepth 100000 in
theorem ct_X11_rows (l : Launch) (dC : Nat → ClassId) (dI : Nat → Nat → Nat) (m0 : Nat) (fm : List Value) (hfm_29 : fm[29]? = some (.int 0)) (sz : Nat) (na : Int32) (nb : Int32) : Met l yX11_rows (.code yX11_rows cX11_rows 3 (some .int) :: lw_g) ({ frames := 2, cells := 0, slots := 0, locals := 120 }) (ro_P dC dI [(m0, .inr (11, fm))] [] sz [.ref m0, .int na, .int nb]) (ri_Q (-2) (va_A [] sz)) 0 0 (va_A [] sz) := by
  refine ro_entry (by decide) (Nat.le_of_ble_eq_true rfl) ?_
  intro p e s m below meth c ls hx hb hr hlocks ht hown hin hml hsz hP hK hD hE hl
  subst hsz
  have hS : va_S (va_A [] s.heap.size) s.heap s.heap [] := va_S.rf
  have hA : ∀ q, s.heap.size ≤ q → va_A [] s.heap.size q := fun q h => Or.inr h
  have hl : lv_has ls 3 [(0, .ref m0), (1, .int na), (2, .int nb)] := hl
  have hown : s.vm.findClass RX11 = some m.cls := hown
  refine lv_iload_n hx hb dX11_rows_0 rfl (lv_at hl 1 rfl) ?_
  refine lv_aload_n hx hb dX11_rows_1 rfl (lv_at hl 0 rfl) ?_
  refine va_get (D := (dC, dI)) (ci := 11) (v := .int 0) (C := RX11) (T := TX11) (N := 114) hx hb ht inX11 hown hK hP 0 rfl rfl 29 (by decide) (ht _ kw_1456) (fun _ h9 => h9) hfm_29 dX11_rows_2 ?_
  refine ro_callS (n := 2) (As := [.int na, .int 0]) (rest := []) hx hb hml hown ht hK hP hS hA hE (ct_X11_isOf l dC dI  _ na) gv_X11_317 rfl rfl (by decide +kernel) ⟨Nat.le_of_ble_eq_true rfl, Nat.le_of_ble_eq_true rfl⟩ rfl hl.1 (Nat.le_of_ble_eq_true rfl) ⟨Nat.le_of_ble_eq_true rfl, Nat.le_of_ble_eq_true rfl⟩ rfl dX11_rows_5 (fun H locs hP hS => ?_)
  refine lv_if_ne (tgt := 14) hx hb dX11_rows_8 (by decide) (fun c1 => ?_) (fun c1 => ?_)
  · exact absurd (by decide) c1
  refine lv_bipush (v := (-2)) hx hb dX11_rows_11 (by decide) ?_
  exact W.iret hx hb hr (fun t ht9 hW => ⟨⟨_, (), rfl, rfl, trivial⟩, hS.F ht9⟩) hS.2.2 dX11_rows_13
abbrev cX11_row : ByteArray := prog_13_method_78_code
def yX11_row : MethodName := ⟨RX11, "row", "(III)I"⟩
theorem dX11_row_0 : decode cX11_row 0 = .ok (.iload_n 1, 1) := by decide +kernel
theorem dX11_row_1 : decode cX11_row 1 = .ok (.aload_n 0, 1) := by decide +kernel
theorem dX11_row_2 : decode cX11_row 2 = .ok (.getfield 343, 3) := by decide +kernel
theorem dX11_row_5 : decode cX11_row 5 = .ok (.invokestatic 317, 3) := by decide +kernel
theorem dX11_row_8 : decode cX11_row 8 = .ok (.ifCond .ne 6, 3) := by decide +kernel
theorem dX11_row_11 : decode cX11_row 11 = .ok (.bipush (-2), 2) := by decide +kernel
theorem dX11_row_13 : decode cX11_row 13 = .ok (.ireturn, 1) := by decide +kernel
set_option maxHeartbeats 4000000 in
set_option maxRecDepth 100000 in
theorem ct_X11_row (l : Launch) (dC : Nat → ClassId) (dI : Nat → Nat → Nat) (m0 : Nat) (fm : List Value) (hfm_29 : fm[29]? = some (.int 0)) (sz : Nat) (na : Int32) (nb : Int32) (nc : Int32) : Met l yX11_row (.code yX11_row cX11_row 5 (some .int) :: lw_g) ({ frames := 2, cells := 0, slots := 0, locals := 120 }) (ro_P dC dI [(m0, .inr (11, fm))] [] sz [.ref m0, .int na, .int nb, .int nc]) (ri_Q (-2) (va_A [] sz)) 0 0 (va_A [] sz) := by
  refine ro_entry (by decide) (Nat.le_of_ble_eq_true rfl) ?_
  intro p e s m below meth c ls hx hb hr hlocks ht hown hin hml hsz hP hK hD hE hl
  subst hsz
  have hS : va_S (va_A [] s.heap.size) s.heap s.heap [] := va_S.rf
  have hA : ∀ q, s.heap.size ≤ q → va_A [] s.heap.size q := fun q h => Or.inr h
  have hl : lv_has ls 5 [(0, .ref m0), (1, .int na), (2, .int nb), (3, .int nc)] := hl
  have hown : s.vm.findClass RX11 = some m.cls := hown
  refine lv_iload_n hx hb dX11_row_0 rfl (lv_at hl 1 rfl) ?_
  refine lv_aload_n hx hb dX11_row_1 rfl (lv_at hl 0 rfl) ?_
  refine va_get (D := (dC, dI)) (ci := 11) (v := .int 0) (C := RX11) (T := TX11) (N := 114) hx hb ht inX11 hown hK hP 0 rfl rfl 29 (by decide) (ht _ kw_1456) (fun _ h9 => h9) hfm_29 dX11_row_2 ?_
  refine ro_callS (n := 2) (As := [.int na, .int 0]) (rest := []) hx hb hml hown ht hK hP hS hA hE (ct_X11_isOf l dC dI  _ na) gv_X11_317 rfl rfl (by decide +kernel) ⟨Nat.le_of_ble_eq_true rfl, Nat.le_of_ble_eq_true rfl⟩ rfl hl.1 (Nat.le_of_ble_eq_true rfl) ⟨Nat.le_of_ble_eq_true rfl, Nat.le_of_ble_eq_true rfl⟩ rfl dX11_row_5 (fun H locs hP hS => ?_)
  refine lv_if_ne (tgt := 14) hx hb dX11_row_8 (by decide) (fun c1 => ?_) (fun c1 => ?_)
  · exact absurd (by decide) c1
  refine lv_bipush (v := (-2)) hx hb dX11_row_11 (by decide) ?_
  exact W.iret hx hb hr (fun t ht9 hW => ⟨⟨_, (), rfl, rfl, trivial⟩, hS.F ht9⟩) hS.2.2 dX11_row_13
abbrev cX11_state : ByteArray := prog_13_method_79_code
def yX11_state : MethodName := ⟨RX11, "state", "(II)I"⟩
theorem dX11_state_0 : decode cX11_state 0 = .ok (.iload_n 1, 1) := by decide +kernel
theorem dX11_state_1 : decode cX11_state 1 = .ok (.aload_n 0, 1) := by decide +kernel
theorem dX11_state_2 : decode cX11_state 2 = .ok (.getfield 343, 3) := by decide +kernel
theorem dX11_state_5 : decode cX11_state 5 = .ok (.invokestatic 317, 3) := by decide +kernel
theorem dX11_state_8 : decode cX11_state 8 = .ok (.ifCond .ne 6, 3) := by decide +kernel
theorem dX11_state_11 : decode cX11_state 11 = .ok (.bipush (-2), 2) := by decide +kernel
theorem dX11_state_13 : decode cX11_state 13 = .ok (.ireturn, 1) := by decide +kernel
set_option maxHeartbeats 4000000 in
set_option maxRecDepth 100000 in
theorem ct_X11_state (l : Launch) (dC : Nat → ClassId) (dI : Nat → Nat → Nat) (m0 : Nat) (fm : List Value) (hfm_29 : fm[29]? = some (.int 0)) (sz : Nat) (na : Int32) (nb : Int32) : Met l yX11_state (.code yX11_state cX11_state 3 (some .int) :: lw_g) ({ frames := 2, cells := 0, slots := 0, locals := 120 }) (ro_P dC dI [(m0, .inr (11, fm))] [] sz [.ref m0, .int na, .int nb]) (ri_Q (-2) (va_A [] sz)) 0 0 (va_A [] sz) := by
  refine ro_entry (by decide) (Nat.le_of_ble_eq_true rfl) ?_
  intro p e s m below meth c ls hx hb hr hlocks ht hown hin hml hsz hP hK hD hE hl
  subst hsz
  have hS : va_S (va_A [] s.heap.size) s.heap s.heap [] := va_S.rf
  have hA : ∀ q, s.heap.size ≤ q → va_A [] s.heap.size q := fun q h => Or.inr h
  have hl : lv_has ls 3 [(0, .ref m0), (1, .int na), (2, .int nb)] := hl
  have hown : s.vm.findClass RX11 = some m.cls := hown
  refine lv_iload_n hx hb dX11_state_0 rfl (lv_at hl 1 rfl) ?_
  refine lv_aload_n hx hb dX11_state_1 rfl (lv_at hl 0 rfl) ?_
  refine va_get (D := (dC, dI)) (ci := 11) (v := .int 0) (C := RX11) (T := TX11) (N := 114) hx hb ht inX11 hown hK hP 0 rfl rfl 29 (by decide) (ht _ kw_1456) (fun _ h9 => h9) hfm_29 dX11_state_2 ?_
  refine ro_callS (n := 2) (As := [.int na, .int 0]) (rest := []) hx hb hml hown ht hK hP hS hA hE (ct_X11_isOf l dC dI  _ na) gv_X11_317 rfl rfl (by decide +kernel) ⟨Nat.le_of_ble_eq_true rfl, Nat.le_of_ble_eq_true rfl⟩ rfl hl.1 (Nat.le_of_ble_eq_true rfl) ⟨Nat.le_of_ble_eq_true rfl, Nat.le_of_ble_eq_true rfl⟩ rfl dX11_state_5 (fun H locs hP hS => ?_)
  refine lv_if_ne (tgt := 14) hx hb dX11_state_8 (by decide) (fun c1 => ?_) (fun c1 => ?_)
  · exact absurd (by decide) c1
  refine lv_bipush (v := (-2)) hx hb dX11_state_11 (by decide) ?_
  exact W.iret hx hb hr (fun t ht9 hW => ⟨⟨_, (), rfl, rfl, trivial⟩, hS.F ht9⟩) hS.2.2 dX11_state_13
abbrev cX11_onField : ByteArray := prog_13_method_80_code
def yX11_onField : MethodName := ⟨RX11, "onField", "(III)I"⟩
theorem dX11_onField_0 : decode cX11_onField 0 = .ok (.iload_n 1, 1) := by decide +kernel
theorem dX11_onField_1 : decode cX11_onField 1 = .ok (.aload_n 0, 1) := by decide +kernel
theorem dX11_onField_2 : decode cX11_onField 2 = .ok (.getfield 343, 3) := by decide +kernel
theorem dX11_onField_5 : decode cX11_onField 5 = .ok (.invokestatic 317, 3) := by decide +kernel
theorem dX11_onField_8 : decode cX11_onField 8 = .ok (.ifCond .ne 6, 3) := by decide +kernel
theorem dX11_onField_11 : decode cX11_onField 11 = .ok (.bipush (-2), 2) := by decide +kernel
theorem dX11_onField_13 : decode cX11_onField 13 = .ok (.ireturn, 1) := by decide +kernel
set_option maxHeartbeats 4000000 in
set_option maxRecDepth 100000 in
theorem ct_X11_onField (l : Launch) (dC : Nat → ClassId) (dI : Nat → Nat → Nat) (m0 : Nat) (fm : List Value) (hfm_29 : fm[29]? = some (.int 0)) (sz : Nat) (na : Int32) (nb : Int32) (nc : Int32) : Met l yX11_onField (.code yX11_onField cX11_onField 5 (some .int) :: lw_g) ({ frames := 2, cells := 0, slots := 0, locals := 120 }) (ro_P dC dI [(m0, .inr (11, fm))] [] sz [.ref m0, .int na, .int nb, .int nc]) (ri_Q (-2) (va_A [] sz)) 0 0 (va_A [] sz) := by
  refine ro_entry (by decide) (Nat.le_of_ble_eq_true rfl) ?_
  intro p e s m below meth c ls hx hb hr hlocks ht hown hin hml hsz hP hK hD hE hl
  subst hsz
  have hS : va_S (va_A [] s.heap.size) s.heap s.heap [] := va_S.rf
  have hA : ∀ q, s.heap.size ≤ q → va_A [] s.heap.size q := fun q h => Or.inr h
  have hl : lv_has ls 5 [(0, .ref m0), (1, .int na), (2, .int nb), (3, .int nc)] := hl
  have hown : s.vm.findClass RX11 = some m.cls := hown
  refine lv_iload_n hx hb dX11_onField_0 rfl (lv_at hl 1 rfl) ?_
  refine lv_aload_n hx hb dX11_onField_1 rfl (lv_at hl 0 rfl) ?_
  refine va_get (D := (dC, dI)) (ci := 11) (v := .int 0) (C := RX11) (T := TX11) (N := 114) hx hb ht inX11 hown hK hP 0 rfl rfl 29 (by decide) (ht _ kw_1456) (fun _ h9 => h9) hfm_29 dX11_onField_2 ?_
  refine ro_callS (n := 2) (As := [.int na, .int 0]) (rest := []) hx hb hml hown ht hK hP hS hA hE (ct_X11_isOf l dC dI  _ na) gv_X11_317 rfl rfl (by decide +kernel) ⟨Nat.le_of_ble_eq_true rfl, Nat.le_of_ble_eq_true rfl⟩ rfl hl.1 (Nat.le_of_ble_eq_true rfl) ⟨Nat.le_of_ble_eq_true rfl, Nat.le_of_ble_eq_true rfl⟩ rfl dX11_onField_5 (fun H locs hP hS => ?_)
  refine lv_if_ne (tgt := 14) hx hb dX11_onField_8 (by decide) (fun c1 => ?_) (fun c1 => ?_)
  · exact absurd (by decide) c1
  refine lv_bipush (v := (-2)) hx hb dX11_onField_11 (by decide) ?_
  exact W.iret hx hb hr (fun t ht9 hW => ⟨⟨_, (), rfl, rfl, trivial⟩, hS.F ht9⟩) hS.2.2 dX11_onField_13
abbrev cX11_table : ByteArray := prog_13_method_94_code
def yX11_table : MethodName := ⟨RX11, "table", "(IIII)I"⟩
theorem dX11_table_0 : decode cX11_table 0 = .ok (.iload_n 1, 1) := by decide +kernel
theorem dX11_table_1 : decode cX11_table 1 = .ok (.aload_n 0, 1) := by decide +kernel
theorem dX11_table_2 : decode cX11_table 2 = .ok (.getfield 308, 3) := by decide +kernel
theorem dX11_table_5 : decode cX11_table 5 = .ok (.invokestatic 317, 3) := by decide +kernel
theorem dX11_table_8 : decode cX11_table 8 = .ok (.ifCond .eq 14, 3) := by decide +kernel
theorem dX11_table_22 : decode cX11_table 22 = .ok (.bipush (-2), 2) := by decide +kernel
theorem dX11_table_24 : decode cX11_table 24 = .ok (.ireturn, 1) := by decide +kernel
set_option maxHeartbeats 4000000 in
set_option maxRecDepth 100000 in
theorem ct_X11_table (l : Launch) (dC : Nat → ClassId) (dI : Nat → Nat → Nat) (m0 : Nat) (fm : List Value) (hfm_6 : fm[6]? = some (.int 0)) (sz : Nat) (na : Int32) (nb : Int32) (nc : Int32) (nd : Int32) : Met l yX11_table (.code yX11_table cX11_table 5 (some .int) :: lw_g) ({ frames := 2, cells := 0, slots := 0, locals := 120 }) (ro_P dC dI [(m0, .inr (11, fm))] [] sz [.ref m0, .int na, .int nb, .int nc, .int nd]) (ri_Q (-2) (va_A [] sz)) 0 0 (va_A [] sz) := by
  refine ro_entry (by decide) (Nat.le_of_ble_eq_true rfl) ?_
  intro p e s m below meth c ls hx hb hr hlocks ht hown hin hml hsz hP hK hD hE hl
  subst hsz
  have hS : va_S (va_A [] s.heap.size) s.heap s.heap [] := va_S.rf
  have hA : ∀ q, s.heap.size ≤ q → va_A [] s.heap.size q := fun q h => Or.inr h
  have hl : lv_has ls 5 [(0, .ref m0), (1, .int na), (2, .int nb), (3, .int nc), (4, .int nd)] := hl
  have hown : s.vm.findClass RX11 = some m.cls := hown
  refine lv_iload_n hx hb dX11_table_0 rfl (lv_at hl 1 rfl) ?_
  refine lv_aload_n hx hb dX11_table_1 rfl (lv_at hl 0 rfl) ?_
  refine va_get (D := (dC, dI)) (ci := 11) (v := .int 0) (C := RX11) (T := TX11) (N := 114) hx hb ht inX11 hown hK hP 0 rfl rfl 6 (by decide) (ht _ kw_1433) (fun _ h9 => h9) hfm_6 dX11_table_2 ?_
  refine ro_callS (n := 2) (As := [.int na, .int 0]) (rest := []) hx hb hml hown ht hK hP hS hA hE (ct_X11_isOf l dC dI  _ na) gv_X11_317 rfl rfl (by decide +kernel) ⟨Nat.le_of_ble_eq_true rfl, Nat.le_of_ble_eq_true rfl⟩ rfl hl.1 (Nat.le_of_ble_eq_true rfl) ⟨Nat.le_of_ble_eq_true rfl, Nat.le_of_ble_eq_true rfl⟩ rfl dX11_table_5 (fun H locs hP hS => ?_)
  refine lv_if_eq (tgt := 22) hx hb dX11_table_8 (by decide) (fun c1 => ?_) (fun c1 => ?_)
  rotate_left
  · exact absurd (by decide) c1
  refine lv_bipush (v := (-2)) hx hb dX11_table_22 (by decide) ?_
  exact W.iret hx hb hr (fun t ht9 hW => ⟨⟨_, (), rfl, rfl, trivial⟩, hS.F ht9⟩) hS.2.2 dX11_table_24
abbrev cX11_standing : ByteArray := prog_13_method_95_code
def yX11_standing : MethodName := ⟨RX11, "standing", "(III)I"⟩
theorem dX11_standing_0 : decode cX11_standing 0 = .ok (.iload_n 1, 1) := by decide +kernel
theorem dX11_standing_1 : decode cX11_standing 1 = .ok (.aload_n 0, 1) := by decide +kernel
theorem dX11_standing_2 : decode cX11_standing 2 = .ok (.getfield 308, 3) := by decide +kernel
theorem dX11_standing_5 : decode cX11_standing 5 = .ok (.invokestatic 317, 3) := by decide +kernel
theorem dX11_standing_8 : decode cX11_standing 8 = .ok (.ifCond .ne 6, 3) := by decide +kernel
theorem dX11_standing_11 : decode cX11_standing 11 = .ok (.bipush (-2), 2) := by decide +kernel
theorem dX11_standing_13 : decode cX11_standing 13 = .ok (.ireturn, 1) := by decide +kernel
set_option maxHeartbeats 4000000 in
set_option maxRecDepth 100000 in
theorem ct_X11_standing (l : Launch) (dC : Nat → ClassId) (dI : Nat → Nat → Nat) (m0 : Nat) (fm : List Value) (hfm_6 : fm[6]? = some (.int 0)) (sz : Nat) (na : Int32) (nb : Int32) (nc : Int32) : Met l yX11_standing (.code yX11_standing cX11_standing 4 (some .int) :: lw_g) ({ frames := 2, cells := 0, slots := 0, locals := 120 }) (ro_P dC dI [(m0, .inr (11, fm))] [] sz [.ref m0, .int na, .int nb, .int nc]) (ri_Q (-2) (va_A [] sz)) 0 0 (va_A [] sz) := by
  refine ro_entry (by decide) (Nat.le_of_ble_eq_true rfl) ?_
  intro p e s m below meth c ls hx hb hr hlocks ht hown hin hml hsz hP hK hD hE hl
  subst hsz
  have hS : va_S (va_A [] s.heap.size) s.heap s.heap [] := va_S.rf
  have hA : ∀ q, s.heap.size ≤ q → va_A [] s.heap.size q := fun q h => Or.inr h
  have hl : lv_has ls 4 [(0, .ref m0), (1, .int na), (2, .int nb), (3, .int nc)] := hl
  have hown : s.vm.findClass RX11 = some m.cls := hown
  refine lv_iload_n hx hb dX11_standing_0 rfl (lv_at hl 1 rfl) ?_
  refine lv_aload_n hx hb dX11_standing_1 rfl (lv_at hl 0 rfl) ?_
  refine va_get (D := (dC, dI)) (ci := 11) (v := .int 0) (C := RX11) (T := TX11) (N := 114) hx hb ht inX11 hown hK hP 0 rfl rfl 6 (by decide) (ht _ kw_1433) (fun _ h9 => h9) hfm_6 dX11_standing_2 ?_
  refine ro_callS (n := 2) (As := [.int na, .int 0]) (rest := []) hx hb hml hown ht hK hP hS hA hE (ct_X11_isOf l dC dI  _ na) gv_X11_317 rfl rfl (by decide +kernel) ⟨Nat.le_of_ble_eq_true rfl, Nat.le_of_ble_eq_true rfl⟩ rfl hl.1 (Nat.le_of_ble_eq_true rfl) ⟨Nat.le_of_ble_eq_true rfl, Nat.le_of_ble_eq_true rfl⟩ rfl dX11_standing_5 (fun H locs hP hS => ?_)
  refine lv_if_ne (tgt := 14) hx hb dX11_standing_8 (by decide) (fun c1 => ?_) (fun c1 => ?_)
  · exact absurd (by decide) c1
  refine lv_bipush (v := (-2)) hx hb dX11_standing_11 (by decide) ?_
  exact W.iret hx hb hr (fun t ht9 hW => ⟨⟨_, (), rfl, rfl, trivial⟩, hS.F ht9⟩) hS.2.2 dX11_standing_13
abbrev cX11_parted : ByteArray := prog_13_method_96_code
def yX11_parted : MethodName := ⟨RX11, "parted", "(III)I"⟩
theorem dX11_parted_0 : decode cX11_parted 0 = .ok (.iload_n 1, 1) := by decide +kernel
theorem dX11_parted_1 : decode cX11_parted 1 = .ok (.aload_n 0, 1) := by decide +kernel
theorem dX11_parted_2 : decode cX11_parted 2 = .ok (.getfield 308, 3) := by decide +kernel
theorem dX11_parted_5 : decode cX11_parted 5 = .ok (.invokestatic 317, 3) := by decide +kernel
theorem dX11_parted_8 : decode cX11_parted 8 = .ok (.ifCond .ne 6, 3) := by decide +kernel
theorem dX11_parted_11 : decode cX11_parted 11 = .ok (.bipush (-2), 2) := by decide +kernel
theorem dX11_parted_13 : decode cX11_parted 13 = .ok (.ireturn, 1) := by decide +kernel
set_option maxHeartbeats 4000000 in
set_option maxRecDepth 100000 in
theorem ct_X11_parted (l : Launch) (dC : Nat → ClassId) (dI : Nat → Nat → Nat) (m0 : Nat) (fm : List Value) (hfm_6 : fm[6]? = some (.int 0)) (sz : Nat) (na : Int32) (nb : Int32) (nc : Int32) : Met l yX11_parted (.code yX11_parted cX11_parted 4 (some .int) :: lw_g) ({ frames := 2, cells := 0, slots := 0, locals := 120 }) (ro_P dC dI [(m0, .inr (11, fm))] [] sz [.ref m0, .int na, .int nb, .int nc]) (ri_Q (-2) (va_A [] sz)) 0 0 (va_A [] sz) := by
  refine ro_entry (by decide) (Nat.le_of_ble_eq_true rfl) ?_
  intro p e s m below meth c ls hx hb hr hlocks ht hown hin hml hsz hP hK hD hE hl
  subst hsz
  have hS : va_S (va_A [] s.heap.size) s.heap s.heap [] := va_S.rf
  have hA : ∀ q, s.heap.size ≤ q → va_A [] s.heap.size q := fun q h => Or.inr h
  have hl : lv_has ls 4 [(0, .ref m0), (1, .int na), (2, .int nb), (3, .int nc)] := hl
  have hown : s.vm.findClass RX11 = some m.cls := hown
  refine lv_iload_n hx hb dX11_parted_0 rfl (lv_at hl 1 rfl) ?_
  refine lv_aload_n hx hb dX11_parted_1 rfl (lv_at hl 0 rfl) ?_
  refine va_get (D := (dC, dI)) (ci := 11) (v := .int 0) (C := RX11) (T := TX11) (N := 114) hx hb ht inX11 hown hK hP 0 rfl rfl 6 (by decide) (ht _ kw_1433) (fun _ h9 => h9) hfm_6 dX11_parted_2 ?_
  refine ro_callS (n := 2) (As := [.int na, .int 0]) (rest := []) hx hb hml hown ht hK hP hS hA hE (ct_X11_isOf l dC dI  _ na) gv_X11_317 rfl rfl (by decide +kernel) ⟨Nat.le_of_ble_eq_true rfl, Nat.le_of_ble_eq_true rfl⟩ rfl hl.1 (Nat.le_of_ble_eq_true rfl) ⟨Nat.le_of_ble_eq_true rfl, Nat.le_of_ble_eq_true rfl⟩ rfl dX11_parted_5 (fun H locs hP hS => ?_)
  refine lv_if_ne (tgt := 14) hx hb dX11_parted_8 (by decide) (fun c1 => ?_) (fun c1 => ?_)
  · exact absurd (by decide) c1
  refine lv_bipush (v := (-2)) hx hb dX11_parted_11 (by decide) ?_
  exact W.iret hx hb hr (fun t ht9 hW => ⟨⟨_, (), rfl, rfl, trivial⟩, hS.F ht9⟩) hS.2.2 dX11_parted_13
abbrev cX11_can : ByteArray := prog_13_method_107_code
def yX11_can : MethodName := ⟨RX11, "can", "(II)I"⟩
theorem dX11_can_0 : decode cX11_can 0 = .ok (.iload_n 1, 1) := by decide +kernel
theorem dX11_can_1 : decode cX11_can 1 = .ok (.aload_n 0, 1) := by decide +kernel
theorem dX11_can_2 : decode cX11_can 2 = .ok (.getfield 308, 3) := by decide +kernel
theorem dX11_can_5 : decode cX11_can 5 = .ok (.invokestatic 317, 3) := by decide +kernel
theorem dX11_can_8 : decode cX11_can 8 = .ok (.ifCond .eq 14, 3) := by decide +kernel
theorem dX11_can_22 : decode cX11_can 22 = .ok (.bipush (-2), 2) := by decide +kernel
theorem dX11_can_24 : decode cX11_can 24 = .ok (.ireturn, 1) := by decide +kernel
set_option maxHeartbeats 4000000 in
set_option maxRecDepth 100000 in
theorem ct_X11_can (l : Launch) (dC : Nat → ClassId) (dI : Nat → Nat → Nat) (m0 : Nat) (fm : List Value) (hfm_6 : fm[6]? = some (.int 0)) (sz : Nat) (na : Int32) (nb : Int32) : Met l yX11_can (.code yX11_can cX11_can 5 (some .int) :: lw_g) ({ frames := 2, cells := 0, slots := 0, locals := 120 }) (ro_P dC dI [(m0, .inr (11, fm))] [] sz [.ref m0, .int na, .int nb]) (ri_Q (-2) (va_A [] sz)) 0 0 (va_A [] sz) := by
  refine ro_entry (by decide) (Nat.le_of_ble_eq_true rfl) ?_
  intro p e s m below meth c ls hx hb hr hlocks ht hown hin hml hsz hP hK hD hE hl
  subst hsz
  have hS : va_S (va_A [] s.heap.size) s.heap s.heap [] := va_S.rf
  have hA : ∀ q, s.heap.size ≤ q → va_A [] s.heap.size q := fun q h => Or.inr h
  have hl : lv_has ls 5 [(0, .ref m0), (1, .int na), (2, .int nb)] := hl
  have hown : s.vm.findClass RX11 = some m.cls := hown
  refine lv_iload_n hx hb dX11_can_0 rfl (lv_at hl 1 rfl) ?_
  refine lv_aload_n hx hb dX11_can_1 rfl (lv_at hl 0 rfl) ?_
  refine va_get (D := (dC, dI)) (ci := 11) (v := .int 0) (C := RX11) (T := TX11) (N := 114) hx hb ht inX11 hown hK hP 0 rfl rfl 6 (by decide) (ht _ kw_1433) (fun _ h9 => h9) hfm_6 dX11_can_2 ?_
  refine ro_callS (n := 2) (As := [.int na, .int 0]) (rest := []) hx hb hml hown ht hK hP hS hA hE (ct_X11_isOf l dC dI  _ na) gv_X11_317 rfl rfl (by decide +kernel) ⟨Nat.le_of_ble_eq_true rfl, Nat.le_of_ble_eq_true rfl⟩ rfl hl.1 (Nat.le_of_ble_eq_true rfl) ⟨Nat.le_of_ble_eq_true rfl, Nat.le_of_ble_eq_true rfl⟩ rfl dX11_can_5 (fun H locs hP hS => ?_)
  refine lv_if_eq (tgt := 22) hx hb dX11_can_8 (by decide) (fun c1 => ?_) (fun c1 => ?_)
  rotate_left
  · exact absurd (by decide) c1
  refine lv_bipush (v := (-2)) hx hb dX11_can_22 (by decide) ?_
  exact W.iret hx hb hr (fun t ht9 hW => ⟨⟨_, (), rfl, rfl, trivial⟩, hS.F ht9⟩) hS.2.2 dX11_can_24
abbrev cX11_witness : ByteArray := prog_13_method_108_code
def yX11_witness : MethodName := ⟨RX11, "witness", "(I)I"⟩
theorem dX11_witness_0 : decode cX11_witness 0 = .ok (.iload_n 1, 1) := by decide +kernel
theorem dX11_witness_1 : decode cX11_witness 1 = .ok (.aload_n 0, 1) := by decide +kernel
theorem dX11_witness_2 : decode cX11_witness 2 = .ok (.getfield 343, 3) := by decide +kernel
theorem dX11_witness_5 : decode cX11_witness 5 = .ok (.invokestatic 317, 3) := by decide +kernel
theorem dX11_witness_8 : decode cX11_witness 8 = .ok (.ifCond .ne 6, 3) := by decide +kernel
theorem dX11_witness_11 : decode cX11_witness 11 = .ok (.bipush (-2), 2) := by decide +kernel
theorem dX11_witness_13 : decode cX11_witness 13 = .ok (.ireturn, 1) := by decide +kernel
set_option maxHeartbeats 4000000 in
set_option maxRecDepth 100000 in
theorem ct_X11_witness (l : Launch) (dC : Nat → ClassId) (dI : Nat → Nat → Nat) (m0 : Nat) (fm : List Value) (hfm_29 : fm[29]? = some (.int 0)) (sz : Nat) (na : Int32) : Met l yX11_witness (.code yX11_witness cX11_witness 2 (some .int) :: lw_g) ({ frames := 2, cells := 0, slots := 0, locals := 120 }) (ro_P dC dI [(m0, .inr (11, fm))] [] sz [.ref m0, .int na]) (ri_Q (-2) (va_A [] sz)) 0 0 (va_A [] sz) := by
  refine ro_entry (by decide) (Nat.le_of_ble_eq_true rfl) ?_
  intro p e s m below meth c ls hx hb hr hlocks ht hown hin hml hsz hP hK hD hE hl
  subst hsz
  have hS : va_S (va_A [] s.heap.size) s.heap s.heap [] := va_S.rf
  have hA : ∀ q, s.heap.size ≤ q → va_A [] s.heap.size q := fun q h => Or.inr h
  have hl : lv_has ls 2 [(0, .ref m0), (1, .int na)] := hl
  have hown : s.vm.findClass RX11 = some m.cls := hown
  refine lv_iload_n hx hb dX11_witness_0 rfl (lv_at hl 1 rfl) ?_
  refine lv_aload_n hx hb dX11_witness_1 rfl (lv_at hl 0 rfl) ?_
  refine va_get (D := (dC, dI)) (ci := 11) (v := .int 0) (C := RX11) (T := TX11) (N := 114) hx hb ht inX11 hown hK hP 0 rfl rfl 29 (by decide) (ht _ kw_1456) (fun _ h9 => h9) hfm_29 dX11_witness_2 ?_
  refine ro_callS (n := 2) (As := [.int na, .int 0]) (rest := []) hx hb hml hown ht hK hP hS hA hE (ct_X11_isOf l dC dI  _ na) gv_X11_317 rfl rfl (by decide +kernel) ⟨Nat.le_of_ble_eq_true rfl, Nat.le_of_ble_eq_true rfl⟩ rfl hl.1 (Nat.le_of_ble_eq_true rfl) ⟨Nat.le_of_ble_eq_true rfl, Nat.le_of_ble_eq_true rfl⟩ rfl dX11_witness_5 (fun H locs hP hS => ?_)
  refine lv_if_ne (tgt := 14) hx hb dX11_witness_8 (by decide) (fun c1 => ?_) (fun c1 => ?_)
  · exact absurd (by decide) c1
  refine lv_bipush (v := (-2)) hx hb dX11_witness_11 (by decide) ?_
  exact W.iret hx hb hr (fun t ht9 hW => ⟨⟨_, (), rfl, rfl, trivial⟩, hS.F ht9⟩) hS.2.2 dX11_witness_13
abbrev cX11_cut : ByteArray := prog_13_method_109_code
def yX11_cut : MethodName := ⟨RX11, "cut", "()I"⟩
theorem dX11_cut_0 : decode cX11_cut 0 = .ok (.aload_n 0, 1) := by decide +kernel
theorem dX11_cut_1 : decode cX11_cut 1 = .ok (.getfield 554, 3) := by decide +kernel
theorem kw_1517 : Cond.fieldLink RX11 554 "SportsHouseModel" "cutBits" "I" ∈ lw_g := lw_at 1517 (by decide +kernel) rfl
theorem dX11_cut_4 : decode cX11_cut 4 = .ok (.ireturn, 1) := by decide +kernel
set_option maxHeartbeats 4000000 in
set_option maxRecDepth 100000 in
theorem ct_X11_cut (l : Launch) (dC : Nat → ClassId) (dI : Nat → Nat → Nat) (m0 : Nat) (fm : List Value) (hfm_90 : fm[90]? = some (.int 0)) (sz : Nat)  : Met l yX11_cut (.code yX11_cut cX11_cut 1 (some .int) :: lw_g) ({ frames := 2, cells := 0, slots := 0, locals := 120 }) (ro_P dC dI [(m0, .inr (11, fm))] [] sz [.ref m0]) (ri_Q 0 (va_A [] sz)) 0 0 (va_A [] sz) := by
  refine ro_entry (by decide) (Nat.le_of_ble_eq_true rfl) ?_
  intro p e s m below meth c ls hx hb hr hlocks ht hown hin hml hsz hP hK hD hE hl
  subst hsz
  have hS : va_S (va_A [] s.heap.size) s.heap s.heap [] := va_S.rf
  have hA : ∀ q, s.heap.size ≤ q → va_A [] s.heap.size q := fun q h => Or.inr h
  have hl : lv_has ls 1 [(0, .ref m0)] := hl
  have hown : s.vm.findClass RX11 = some m.cls := hown
  refine lv_aload_n hx hb dX11_cut_0 rfl (lv_at hl 0 rfl) ?_
  refine va_get (D := (dC, dI)) (ci := 11) (v := .int 0) (C := RX11) (T := TX11) (N := 114) hx hb ht inX11 hown hK hP 0 rfl rfl 90 (by decide) (ht _ kw_1517) (fun _ h9 => h9) hfm_90 dX11_cut_1 ?_
  exact W.iret hx hb hr (fun t ht9 hW => ⟨⟨_, (), rfl, rfl, trivial⟩, hS.F ht9⟩) hS.2.2 dX11_cut_4
abbrev cX11_firsts : ByteArray := prog_13_method_110_code
def yX11_firsts : MethodName := ⟨RX11, "firsts", "(II)I"⟩
theorem dX11_firsts_0 : decode cX11_firsts 0 = .ok (.iload_n 1, 1) := by decide +kernel
theorem dX11_firsts_1 : decode cX11_firsts 1 = .ok (.aload_n 0, 1) := by decide +kernel
theorem dX11_firsts_2 : decode cX11_firsts 2 = .ok (.getfield 308, 3) := by decide +kernel
theorem dX11_firsts_5 : decode cX11_firsts 5 = .ok (.invokestatic 317, 3) := by decide +kernel
theorem dX11_firsts_8 : decode cX11_firsts 8 = .ok (.ifCond .eq 14, 3) := by decide +kernel
theorem dX11_firsts_22 : decode cX11_firsts 22 = .ok (.bipush (-2), 2) := by decide +kernel
theorem dX11_firsts_24 : decode cX11_firsts 24 = .ok (.ireturn, 1) := by decide +kernel
set_option maxHeartbeats 4000000 in
set_option maxRecDepth 100000 in
theorem ct_X11_firsts (l : Launch) (dC : Nat → ClassId) (dI : Nat → Nat → Nat) (m0 : Nat) (fm : List Value) (hfm_6 : fm[6]? = some (.int 0)) (sz : Nat) (na : Int32) (nb : Int32) : Met l yX11_firsts (.code yX11_firsts cX11_firsts 9 (some .int) :: lw_g) ({ frames := 2, cells := 0, slots := 0, locals := 120 }) (ro_P dC dI [(m0, .inr (11, fm))] [] sz [.ref m0, .int na, .int nb]) (ri_Q (-2) (va_A [] sz)) 0 0 (va_A [] sz) := by
  refine ro_entry (by decide) (Nat.le_of_ble_eq_true rfl) ?_
  intro p e s m below meth c ls hx hb hr hlocks ht hown hin hml hsz hP hK hD hE hl
  subst hsz
  have hS : va_S (va_A [] s.heap.size) s.heap s.heap [] := va_S.rf
  have hA : ∀ q, s.heap.size ≤ q → va_A [] s.heap.size q := fun q h => Or.inr h
  have hl : lv_has ls 9 [(0, .ref m0), (1, .int na), (2, .int nb)] := hl
  have hown : s.vm.findClass RX11 = some m.cls := hown
  refine lv_iload_n hx hb dX11_firsts_0 rfl (lv_at hl 1 rfl) ?_
  refine lv_aload_n hx hb dX11_firsts_1 rfl (lv_at hl 0 rfl) ?_
  refine va_get (D := (dC, dI)) (ci := 11) (v := .int 0) (C := RX11) (T := TX11) (N := 114) hx hb ht inX11 hown hK hP 0 rfl rfl 6 (by decide) (ht _ kw_1433) (fun _ h9 => h9) hfm_6 dX11_firsts_2 ?_
  refine ro_callS (n := 2) (As := [.int na, .int 0]) (rest := []) hx hb hml hown ht hK hP hS hA hE (ct_X11_isOf l dC dI  _ na) gv_X11_317 rfl rfl (by decide +kernel) ⟨Nat.le_of_ble_eq_true rfl, Nat.le_of_ble_eq_true rfl⟩ rfl hl.1 (Nat.le_of_ble_eq_true rfl) ⟨Nat.le_of_ble_eq_true rfl, Nat.le_of_ble_eq_true rfl⟩ rfl dX11_firsts_5 (fun H locs hP hS => ?_)
  refine lv_if_eq (tgt := 22) hx hb dX11_firsts_8 (by decide) (fun c1 => ?_) (fun c1 => ?_)
  rotate_left
  · exact absurd (by decide) c1
  refine lv_bipush (v := (-2)) hx hb dX11_firsts_22 (by decide) ?_
  exact W.iret hx hb hr (fun t ht9 hW => ⟨⟨_, (), rfl, rfl, trivial⟩, hS.F ht9⟩) hS.2.2 dX11_firsts_24
abbrev cX11_pot : ByteArray := prog_13_method_113_code
def yX11_pot : MethodName := ⟨RX11, "pot", "(II)I"⟩
theorem dX11_pot_0 : decode cX11_pot 0 = .ok (.iload_n 1, 1) := by decide +kernel
theorem dX11_pot_1 : decode cX11_pot 1 = .ok (.aload_n 0, 1) := by decide +kernel
theorem dX11_pot_2 : decode cX11_pot 2 = .ok (.getfield 325, 3) := by decide +kernel
theorem kw_1439 : Cond.fieldLink RX11 325 "SportsHouseModel" "clubs" "I" ∈ lw_g := lw_at 1439 (by decide +kernel) rfl
theorem dX11_pot_5 : decode cX11_pot 5 = .ok (.invokestatic 317, 3) := by decide +kernel
theorem dX11_pot_8 : decode cX11_pot 8 = .ok (.ifCond .ne 6, 3) := by decide +kernel
theorem dX11_pot_11 : decode cX11_pot 11 = .ok (.bipush (-2), 2) := by decide +kernel
theorem dX11_pot_13 : decode cX11_pot 13 = .ok (.ireturn, 1) := by decide +kernel
set_option maxHeartbeats 4000000 in
set_option maxRecDepth 100000 in
theorem ct_X11_pot (l : Launch) (dC : Nat → ClassId) (dI : Nat → Nat → Nat) (m0 : Nat) (fm : List Value) (hfm_12 : fm[12]? = some (.int 0)) (sz : Nat) (na : Int32) (nb : Int32) : Met l yX11_pot (.code yX11_pot cX11_pot 6 (some .int) :: lw_g) ({ frames := 2, cells := 0, slots := 0, locals := 120 }) (ro_P dC dI [(m0, .inr (11, fm))] [] sz [.ref m0, .int na, .int nb]) (ri_Q (-2) (va_A [] sz)) 0 0 (va_A [] sz) := by
  refine ro_entry (by decide) (Nat.le_of_ble_eq_true rfl) ?_
  intro p e s m below meth c ls hx hb hr hlocks ht hown hin hml hsz hP hK hD hE hl
  subst hsz
  have hS : va_S (va_A [] s.heap.size) s.heap s.heap [] := va_S.rf
  have hA : ∀ q, s.heap.size ≤ q → va_A [] s.heap.size q := fun q h => Or.inr h
  have hl : lv_has ls 6 [(0, .ref m0), (1, .int na), (2, .int nb)] := hl
  have hown : s.vm.findClass RX11 = some m.cls := hown
  refine lv_iload_n hx hb dX11_pot_0 rfl (lv_at hl 1 rfl) ?_
  refine lv_aload_n hx hb dX11_pot_1 rfl (lv_at hl 0 rfl) ?_
  refine va_get (D := (dC, dI)) (ci := 11) (v := .int 0) (C := RX11) (T := TX11) (N := 114) hx hb ht inX11 hown hK hP 0 rfl rfl 12 (by decide) (ht _ kw_1439) (fun _ h9 => h9) hfm_12 dX11_pot_2 ?_
  refine ro_callS (n := 2) (As := [.int na, .int 0]) (rest := []) hx hb hml hown ht hK hP hS hA hE (ct_X11_isOf l dC dI  _ na) gv_X11_317 rfl rfl (by decide +kernel) ⟨Nat.le_of_ble_eq_true rfl, Nat.le_of_ble_eq_true rfl⟩ rfl hl.1 (Nat.le_of_ble_eq_true rfl) ⟨Nat.le_of_ble_eq_true rfl, Nat.le_of_ble_eq_true rfl⟩ rfl dX11_pot_5 (fun H locs hP hS => ?_)
  refine lv_if_ne (tgt := 14) hx hb dX11_pot_8 (by decide) (fun c1 => ?_) (fun c1 => ?_)
  · exact absurd (by decide) c1
  refine lv_bipush (v := (-2)) hx hb dX11_pot_11 (by decide) ?_
  exact W.iret hx hb hr (fun t ht9 hW => ⟨⟨_, (), rfl, rfl, trivial⟩, hS.F ht9⟩) hS.2.2 dX11_pot_13
abbrev cX11_ways : ByteArray := prog_13_method_116_code
def yX11_ways : MethodName := ⟨RX11, "ways", "()I"⟩
theorem dX11_ways_0 : decode cX11_ways 0 = .ok (.aload_n 0, 1) := by decide +kernel
theorem dX11_ways_1 : decode cX11_ways 1 = .ok (.getfield 576, 3) := by decide +kernel
theorem kw_1525 : Cond.fieldLink RX11 576 "SportsHouseModel" "isDraw" "Z" ∈ lw_g := lw_at 1525 (by decide +kernel) rfl
theorem dX11_ways_4 : decode cX11_ways 4 = .ok (.ifCond .eq 12, 3) := by decide +kernel
theorem dX11_ways_16 : decode cX11_ways 16 = .ok (.bipush (-4), 2) := by decide +kernel
theorem dX11_ways_18 : decode cX11_ways 18 = .ok (.ireturn, 1) := by decide +kernel
set_option maxHeartbeats 4000000 in
set_option maxRecDepth 100000 in
theorem ct_X11_ways (l : Launch) (dC : Nat → ClassId) (dI : Nat → Nat → Nat) (m0 : Nat) (fm : List Value) (hfm_98 : fm[98]? = some (.int 0)) (sz : Nat)  : Met l yX11_ways (.code yX11_ways cX11_ways 1 (some .int) :: lw_g) ({ frames := 2, cells := 0, slots := 0, locals := 120 }) (ro_P dC dI [(m0, .inr (11, fm))] [] sz [.ref m0]) (ri_Q (-4) (va_A [] sz)) 0 0 (va_A [] sz) := by
  refine ro_entry (by decide) (Nat.le_of_ble_eq_true rfl) ?_
  intro p e s m below meth c ls hx hb hr hlocks ht hown hin hml hsz hP hK hD hE hl
  subst hsz
  have hS : va_S (va_A [] s.heap.size) s.heap s.heap [] := va_S.rf
  have hA : ∀ q, s.heap.size ≤ q → va_A [] s.heap.size q := fun q h => Or.inr h
  have hl : lv_has ls 1 [(0, .ref m0)] := hl
  have hown : s.vm.findClass RX11 = some m.cls := hown
  refine lv_aload_n hx hb dX11_ways_0 rfl (lv_at hl 0 rfl) ?_
  refine va_get (D := (dC, dI)) (ci := 11) (v := .int 0) (C := RX11) (T := TX11) (N := 114) hx hb ht inX11 hown hK hP 0 rfl rfl 98 (by decide) (ht _ kw_1525) (fun _ h9 => h9) hfm_98 dX11_ways_1 ?_
  refine lv_if_eq (tgt := 16) hx hb dX11_ways_4 (by decide) (fun c1 => ?_) (fun c1 => ?_)
  rotate_left
  · exact absurd (by decide) c1
  refine lv_bipush (v := (-4)) hx hb dX11_ways_16 (by decide) ?_
  exact W.iret hx hb hr (fun t ht9 hW => ⟨⟨_, (), rfl, rfl, trivial⟩, hS.F ht9⟩) hS.2.2 dX11_ways_18
abbrev cX11_chance : ByteArray := prog_13_method_118_code
def yX11_chance : MethodName := ⟨RX11, "chance", "(II)I"⟩
theorem dX11_chance_0 : decode cX11_chance 0 = .ok (.iload_n 1, 1) := by decide +kernel
theorem dX11_chance_1 : decode cX11_chance 1 = .ok (.aload_n 0, 1) := by decide +kernel
theorem dX11_chance_2 : decode cX11_chance 2 = .ok (.getfield 325, 3) := by decide +kernel
theorem dX11_chance_5 : decode cX11_chance 5 = .ok (.invokestatic 317, 3) := by decide +kernel
theorem dX11_chance_8 : decode cX11_chance 8 = .ok (.ifCond .eq 11, 3) := by decide +kernel
theorem dX11_chance_19 : decode cX11_chance 19 = .ok (.bipush (-2), 2) := by decide +kernel
theorem dX11_chance_21 : decode cX11_chance 21 = .ok (.ireturn, 1) := by decide +kernel
set_option maxHeartbeats 4000000 in
set_option maxRecDepth 100000 in
theorem ct_X11_chance (l : Launch) (dC : Nat → ClassId) (dI : Nat → Nat → Nat) (m0 : Nat) (fm : List Value) (hfm_12 : fm[12]? = some (.int 0)) (sz : Nat) (na : Int32) (nb : Int32) : Met l yX11_chance (.code yX11_chance cX11_chance 3 (some .int) :: lw_g) ({ frames := 2, cells := 0, slots := 0, locals := 120 }) (ro_P dC dI [(m0, .inr (11, fm))] [] sz [.ref m0, .int na, .int nb]) (ri_Q (-2) (va_A [] sz)) 0 0 (va_A [] sz) := by
  refine ro_entry (by decide) (Nat.le_of_ble_eq_true rfl) ?_
  intro p e s m below meth c ls hx hb hr hlocks ht hown hin hml hsz hP hK hD hE hl
  subst hsz
  have hS : va_S (va_A [] s.heap.size) s.heap s.heap [] := va_S.rf
  have hA : ∀ q, s.heap.size ≤ q → va_A [] s.heap.size q := fun q h => Or.inr h
  have hl : lv_has ls 3 [(0, .ref m0), (1, .int na), (2, .int nb)] := hl
  have hown : s.vm.findClass RX11 = some m.cls := hown
  refine lv_iload_n hx hb dX11_chance_0 rfl (lv_at hl 1 rfl) ?_
  refine lv_aload_n hx hb dX11_chance_1 rfl (lv_at hl 0 rfl) ?_
  refine va_get (D := (dC, dI)) (ci := 11) (v := .int 0) (C := RX11) (T := TX11) (N := 114) hx hb ht inX11 hown hK hP 0 rfl rfl 12 (by decide) (ht _ kw_1439) (fun _ h9 => h9) hfm_12 dX11_chance_2 ?_
  refine ro_callS (n := 2) (As := [.int na, .int 0]) (rest := []) hx hb hml hown ht hK hP hS hA hE (ct_X11_isOf l dC dI  _ na) gv_X11_317 rfl rfl (by decide +kernel) ⟨Nat.le_of_ble_eq_true rfl, Nat.le_of_ble_eq_true rfl⟩ rfl hl.1 (Nat.le_of_ble_eq_true rfl) ⟨Nat.le_of_ble_eq_true rfl, Nat.le_of_ble_eq_true rfl⟩ rfl dX11_chance_5 (fun H locs hP hS => ?_)
  refine lv_if_eq (tgt := 19) hx hb dX11_chance_8 (by decide) (fun c1 => ?_) (fun c1 => ?_)
  rotate_left
  · exact absurd (by decide) c1
  refine lv_bipush (v := (-2)) hx hb dX11_chance_19 (by decide) ?_
  exact W.iret hx hb hr (fun t ht9 hW => ⟨⟨_, (), rfl, rfl, trivial⟩, hS.F ht9⟩) hS.2.2 dX11_chance_21
abbrev cX11_ball : ByteArray := prog_13_method_120_code
def yX11_ball : MethodName := ⟨RX11, "ball", "(IZ)I"⟩
theorem dX11_ball_0 : decode cX11_ball 0 = .ok (.iconst 0, 1) := by decide +kernel
theorem dX11_ball_1 : decode cX11_ball 1 = .ok (.istore_n 3, 1) := by decide +kernel
theorem dX11_ball_2 : decode cX11_ball 2 = .ok (.iconst 3, 1) := by decide +kernel
theorem dX11_ball_3 : decode cX11_ball 3 = .ok (.istore 4, 2) := by decide +kernel
theorem dX11_ball_5 : decode cX11_ball 5 = .ok (.iconst 0, 1) := by decide +kernel
theorem dX11_ball_6 : decode cX11_ball 6 = .ok (.istore 5, 2) := by decide +kernel
theorem dX11_ball_8 : decode cX11_ball 8 = .ok (.iload 5, 2) := by decide +kernel
theorem dX11_ball_10 : decode cX11_ball 10 = .ok (.aload_n 0, 1) := by decide +kernel
theorem dX11_ball_11 : decode cX11_ball 11 = .ok (.getfield 325, 3) := by decide +kernel
theorem dX11_ball_14 : decode cX11_ball 14 = .ok (.if_icmp .ge 67, 3) := by decide +kernel
theorem dX11_ball_81 : decode cX11_ball 81 = .ok (.aload_n 0, 1) := by decide +kernel
theorem dX11_ball_82 : decode cX11_ball 82 = .ok (.getfield 576, 3) := by decide +kernel
theorem dX11_ball_85 : decode cX11_ball 85 = .ok (.ifCond .eq 16, 3) := by decide +kernel
theorem dX11_ball_101 : decode cX11_ball 101 = .ok (.iconst 0, 1) := by decide +kernel
theorem dX11_ball_102 : decode cX11_ball 102 = .ok (.istore 5, 2) := by decide +kernel
theorem dX11_ball_104 : decode cX11_ball 104 = .ok (.iload 5, 2) := by decide +kernel
theorem dX11_ball_106 : decode cX11_ball 106 = .ok (.ifCond .ne 6, 3) := by decide +kernel
theorem dX11_ball_109 : decode cX11_ball 109 = .ok (.bipush (-4), 2) := by decide +kernel
theorem dX11_ball_111 : decode cX11_ball 111 = .ok (.ireturn, 1) := by decide +kernel
set_option maxHeartbeats 4000000 in
set_option maxRecDepth 100000 in
theorem ct_X11_ball (l : Launch) (dC : Nat → ClassId) (dI : Nat → Nat → Nat) (m0 : Nat) (fm : List Value) (hfm_12 : fm[12]? = some (.int 0)) (hfm_98 : fm[98]? = some (.int 0)) (sz : Nat) (na : Int32) (nb : Int32) : Met l yX11_ball (.code yX11_ball cX11_ball 12 (some .int) :: lw_g) ({ frames := 2, cells := 0, slots := 0, locals := 120 }) (ro_P dC dI [(m0, .inr (11, fm))] [] sz [.ref m0, .int na, .int nb]) (ri_Q (-4) (va_A [] sz)) 0 0 (va_A [] sz) := by
  refine ro_entry (by decide) (Nat.le_of_ble_eq_true rfl) ?_
  intro p e s m below meth c ls hx hb hr hlocks ht hown hin hml hsz hP hK hD hE hl
  subst hsz
  have hS : va_S (va_A [] s.heap.size) s.heap s.heap [] := va_S.rf
  have hA : ∀ q, s.heap.size ≤ q → va_A [] s.heap.size q := fun q h => Or.inr h
  have hl : lv_has ls 12 [(0, .ref m0), (1, .int na), (2, .int nb)] := hl
  have hown : s.vm.findClass RX11 = some m.cls := hown
  refine lv_iconst (v := 0) hx hb dX11_ball_0 (by decide) ?_
  refine lv_istore_n (lv' := [(3, .int 0), (0, .ref m0), (1, .int na), (2, .int nb)]) hx hb dX11_ball_1 rfl hl (by decide) rfl (fun ls hl => ?_)
  refine lv_iconst (v := 3) hx hb dX11_ball_2 (by decide) ?_
  refine lv_istore (lv' := [(4, .int 3), (3, .int 0), (0, .ref m0), (1, .int na), (2, .int nb)]) hx hb dX11_ball_3 hl (by decide) rfl (fun ls hl => ?_)
  refine lv_iconst (v := 0) hx hb dX11_ball_5 (by decide) ?_
  refine lv_istore (lv' := [(5, .int 0), (4, .int 3), (3, .int 0), (0, .ref m0), (1, .int na), (2, .int nb)]) hx hb dX11_ball_6 hl (by decide) rfl (fun ls hl => ?_)
  refine lv_iload hx hb dX11_ball_8 (lv_at hl 0 rfl) ?_
  refine lv_aload_n hx hb dX11_ball_10 rfl (lv_at hl 3 rfl) ?_
  refine va_get (D := (dC, dI)) (ci := 11) (v := .int 0) (C := RX11) (T := TX11) (N := 114) hx hb ht inX11 hown hK hP 0 rfl rfl 12 (by decide) (ht _ kw_1439) (fun _ h9 => h9) hfm_12 dX11_ball_11 ?_
  refine lv_icmp_ge (tgt := 81) hx hb dX11_ball_14 (by decide) (fun c1 => ?_) (fun c1 => ?_)
  rotate_left
  · exact absurd (by decide) c1
  refine lv_aload_n hx hb dX11_ball_81 rfl (lv_at hl 3 rfl) ?_
  refine va_get (D := (dC, dI)) (ci := 11) (v := .int 0) (C := RX11) (T := TX11) (N := 114) hx hb ht inX11 hown hK hP 0 rfl rfl 98 (by decide) (ht _ kw_1525) (fun _ h9 => h9) hfm_98 dX11_ball_82 ?_
  refine lv_if_eq (tgt := 101) hx hb dX11_ball_85 (by decide) (fun c2 => ?_) (fun c2 => ?_)
  rotate_left
  · exact absurd (by decide) c2
  refine lv_iconst (v := 0) hx hb dX11_ball_101 (by decide) ?_
  refine lv_istore (lv' := [(5, .int 0), (4, .int 3), (3, .int 0), (0, .ref m0), (1, .int na), (2, .int nb)]) hx hb dX11_ball_102 hl (by decide) rfl (fun ls hl => ?_)
  refine lv_iload hx hb dX11_ball_104 (lv_at hl 0 rfl) ?_
  refine lv_if_ne (tgt := 112) hx hb dX11_ball_106 (by decide) (fun c3 => ?_) (fun c3 => ?_)
  · exact absurd (by decide) c3
  refine lv_bipush (v := (-4)) hx hb dX11_ball_109 (by decide) ?_
  exact W.iret hx hb hr (fun t ht9 hW => ⟨⟨_, (), rfl, rfl, trivial⟩, hS.F ht9⟩) hS.2.2 dX11_ball_111
abbrev cX11_drawn : ByteArray := prog_13_method_121_code
def yX11_drawn : MethodName := ⟨RX11, "drawn", "(I)I"⟩
theorem dX11_drawn_0 : decode cX11_drawn 0 = .ok (.iload_n 1, 1) := by decide +kernel
theorem dX11_drawn_1 : decode cX11_drawn 1 = .ok (.aload_n 0, 1) := by decide +kernel
theorem dX11_drawn_2 : decode cX11_drawn 2 = .ok (.getfield 325, 3) := by decide +kernel
theorem dX11_drawn_5 : decode cX11_drawn 5 = .ok (.invokestatic 317, 3) := by decide +kernel
theorem dX11_drawn_8 : decode cX11_drawn 8 = .ok (.ifCond .ne 6, 3) := by decide +kernel
theorem dX11_drawn_11 : decode cX11_drawn 11 = .ok (.bipush (-2), 2) := by decide +kernel
theorem dX11_drawn_13 : decode cX11_drawn 13 = .ok (.ireturn, 1) := by decide +kernel
set_option maxHeartbeats 4000000 in
set_option maxRecDepth 100000 in
theorem ct_X11_drawn (l : Launch) (dC : Nat → ClassId) (dI : Nat → Nat → Nat) (m0 : Nat) (fm : List Value) (hfm_12 : fm[12]? = some (.int 0)) (sz : Nat) (na : Int32) : Met l yX11_drawn (.code yX11_drawn cX11_drawn 2 (some .int) :: lw_g) ({ frames := 2, cells := 0, slots := 0, locals := 120 }) (ro_P dC dI [(m0, .inr (11, fm))] [] sz [.ref m0, .int na]) (ri_Q (-2) (va_A [] sz)) 0 0 (va_A [] sz) := by
  refine ro_entry (by decide) (Nat.le_of_ble_eq_true rfl) ?_
  intro p e s m below meth c ls hx hb hr hlocks ht hown hin hml hsz hP hK hD hE hl
  subst hsz
  have hS : va_S (va_A [] s.heap.size) s.heap s.heap [] := va_S.rf
  have hA : ∀ q, s.heap.size ≤ q → va_A [] s.heap.size q := fun q h => Or.inr h
  have hl : lv_has ls 2 [(0, .ref m0), (1, .int na)] := hl
  have hown : s.vm.findClass RX11 = some m.cls := hown
  refine lv_iload_n hx hb dX11_drawn_0 rfl (lv_at hl 1 rfl) ?_
  refine lv_aload_n hx hb dX11_drawn_1 rfl (lv_at hl 0 rfl) ?_
  refine va_get (D := (dC, dI)) (ci := 11) (v := .int 0) (C := RX11) (T := TX11) (N := 114) hx hb ht inX11 hown hK hP 0 rfl rfl 12 (by decide) (ht _ kw_1439) (fun _ h9 => h9) hfm_12 dX11_drawn_2 ?_
  refine ro_callS (n := 2) (As := [.int na, .int 0]) (rest := []) hx hb hml hown ht hK hP hS hA hE (ct_X11_isOf l dC dI  _ na) gv_X11_317 rfl rfl (by decide +kernel) ⟨Nat.le_of_ble_eq_true rfl, Nat.le_of_ble_eq_true rfl⟩ rfl hl.1 (Nat.le_of_ble_eq_true rfl) ⟨Nat.le_of_ble_eq_true rfl, Nat.le_of_ble_eq_true rfl⟩ rfl dX11_drawn_5 (fun H locs hP hS => ?_)
  refine lv_if_ne (tgt := 14) hx hb dX11_drawn_8 (by decide) (fun c1 => ?_) (fun c1 => ?_)
  · exact absurd (by decide) c1
  refine lv_bipush (v := (-2)) hx hb dX11_drawn_11 (by decide) ?_
  exact W.iret hx hb hr (fun t ht9 hW => ⟨⟨_, (), rfl, rfl, trivial⟩, hS.F ht9⟩) hS.2.2 dX11_drawn_13
abbrev cX11_officialOf : ByteArray := prog_13_method_128_code
def yX11_officialOf : MethodName := ⟨RX11, "officialOf", "(I)I"⟩
theorem dX11_officialOf_0 : decode cX11_officialOf 0 = .ok (.iload_n 1, 1) := by decide +kernel
theorem dX11_officialOf_1 : decode cX11_officialOf 1 = .ok (.aload_n 0, 1) := by decide +kernel
theorem dX11_officialOf_2 : decode cX11_officialOf 2 = .ok (.getfield 343, 3) := by decide +kernel
theorem dX11_officialOf_5 : decode cX11_officialOf 5 = .ok (.invokestatic 317, 3) := by decide +kernel
theorem dX11_officialOf_8 : decode cX11_officialOf 8 = .ok (.ifCond .eq 12, 3) := by decide +kernel
theorem dX11_officialOf_20 : decode cX11_officialOf 20 = .ok (.bipush (-2), 2) := by decide +kernel
theorem dX11_officialOf_22 : decode cX11_officialOf 22 = .ok (.ireturn, 1) := by decide +kernel
set_option maxHeartbeats 4000000 in
set_option maxRecDepth 100000 in
theorem ct_X11_officialOf (l : Launch) (dC : Nat → ClassId) (dI : Nat → Nat → Nat) (m0 : Nat) (fm : List Value) (hfm_29 : fm[29]? = some (.int 0)) (sz : Nat) (na : Int32) : Met l yX11_officialOf (.code yX11_officialOf cX11_officialOf 2 (some .int) :: lw_g) ({ frames := 2, cells := 0, slots := 0, locals := 120 }) (ro_P dC dI [(m0, .inr (11, fm))] [] sz [.ref m0, .int na]) (ri_Q (-2) (va_A [] sz)) 0 0 (va_A [] sz) := by
  refine ro_entry (by decide) (Nat.le_of_ble_eq_true rfl) ?_
  intro p e s m below meth c ls hx hb hr hlocks ht hown hin hml hsz hP hK hD hE hl
  subst hsz
  have hS : va_S (va_A [] s.heap.size) s.heap s.heap [] := va_S.rf
  have hA : ∀ q, s.heap.size ≤ q → va_A [] s.heap.size q := fun q h => Or.inr h
  have hl : lv_has ls 2 [(0, .ref m0), (1, .int na)] := hl
  have hown : s.vm.findClass RX11 = some m.cls := hown
  refine lv_iload_n hx hb dX11_officialOf_0 rfl (lv_at hl 1 rfl) ?_
  refine lv_aload_n hx hb dX11_officialOf_1 rfl (lv_at hl 0 rfl) ?_
  refine va_get (D := (dC, dI)) (ci := 11) (v := .int 0) (C := RX11) (T := TX11) (N := 114) hx hb ht inX11 hown hK hP 0 rfl rfl 29 (by decide) (ht _ kw_1456) (fun _ h9 => h9) hfm_29 dX11_officialOf_2 ?_
  refine ro_callS (n := 2) (As := [.int na, .int 0]) (rest := []) hx hb hml hown ht hK hP hS hA hE (ct_X11_isOf l dC dI  _ na) gv_X11_317 rfl rfl (by decide +kernel) ⟨Nat.le_of_ble_eq_true rfl, Nat.le_of_ble_eq_true rfl⟩ rfl hl.1 (Nat.le_of_ble_eq_true rfl) ⟨Nat.le_of_ble_eq_true rfl, Nat.le_of_ble_eq_true rfl⟩ rfl dX11_officialOf_5 (fun H locs hP hS => ?_)
  refine lv_if_eq (tgt := 20) hx hb dX11_officialOf_8 (by decide) (fun c1 => ?_) (fun c1 => ?_)
  rotate_left
  · exact absurd (by decide) c1
  refine lv_bipush (v := (-2)) hx hb dX11_officialOf_20 (by decide) ?_
  exact W.iret hx hb hr (fun t ht9 hW => ⟨⟨_, (), rfl, rfl, trivial⟩, hS.F ht9⟩) hS.2.2 dX11_officialOf_22
abbrev cX11_count : ByteArray := prog_13_method_129_code
def yX11_count : MethodName := ⟨RX11, "count", "(I)I"⟩
theorem dX11_count_0 : decode cX11_count 0 = .ok (.iload_n 1, 1) := by decide +kernel
theorem dX11_count_1 : decode cX11_count 1 = .ok (.tableswitch 78 0 6 #[43, 48, 53, 58, 63, 68, 73], 43) := by decide +kernel
theorem dX11_count_44 : decode cX11_count 44 = .ok (.aload_n 0, 1) := by decide +kernel
theorem dX11_count_45 : decode cX11_count 45 = .ok (.getfield 325, 3) := by decide +kernel
theorem dX11_count_48 : decode cX11_count 48 = .ok (.ireturn, 1) := by decide +kernel
theorem dX11_count_49 : decode cX11_count 49 = .ok (.aload_n 0, 1) := by decide +kernel
theorem dX11_count_50 : decode cX11_count 50 = .ok (.getfield 328, 3) := by decide +kernel
theorem dX11_count_53 : decode cX11_count 53 = .ok (.ireturn, 1) := by decide +kernel
theorem dX11_count_54 : decode cX11_count 54 = .ok (.aload_n 0, 1) := by decide +kernel
theorem dX11_count_55 : decode cX11_count 55 = .ok (.getfield 331, 3) := by decide +kernel
theorem kw_1443 : Cond.fieldLink RX11 331 "SportsHouseModel" "spans" "I" ∈ lw_g := lw_at 1443 (by decide +kernel) rfl
theorem dX11_count_58 : decode cX11_count 58 = .ok (.ireturn, 1) := by decide +kernel
theorem dX11_count_59 : decode cX11_count 59 = .ok (.aload_n 0, 1) := by decide +kernel
theorem dX11_count_60 : decode cX11_count 60 = .ok (.getfield 334, 3) := by decide +kernel
theorem kw_1448 : Cond.fieldLink RX11 334 "SportsHouseModel" "officials" "I" ∈ lw_g := lw_at 1448 (by decide +kernel) rfl
theorem dX11_count_63 : decode cX11_count 63 = .ok (.ireturn, 1) := by decide +kernel
theorem dX11_count_64 : decode cX11_count 64 = .ok (.aload_n 0, 1) := by decide +kernel
theorem dX11_count_65 : decode cX11_count 65 = .ok (.getfield 308, 3) := by decide +kernel
theorem dX11_count_68 : decode cX11_count 68 = .ok (.ireturn, 1) := by decide +kernel
theorem dX11_count_69 : decode cX11_count 69 = .ok (.aload_n 0, 1) := by decide +kernel
theorem dX11_count_70 : decode cX11_count 70 = .ok (.getfield 343, 3) := by decide +kernel
theorem dX11_count_73 : decode cX11_count 73 = .ok (.ireturn, 1) := by decide +kernel
theorem dX11_count_74 : decode cX11_count 74 = .ok (.aload_n 0, 1) := by decide +kernel
theorem dX11_count_75 : decode cX11_count 75 = .ok (.getfield 463, 3) := by decide +kernel
theorem kw_1474 : Cond.fieldLink RX11 463 "SportsHouseModel" "rowsMade" "I" ∈ lw_g := lw_at 1474 (by decide +kernel) rfl
theorem dX11_count_78 : decode cX11_count 78 = .ok (.ireturn, 1) := by decide +kernel
theorem dX11_count_79 : decode cX11_count 79 = .ok (.iload_n 1, 1) := by decide +kernel
theorem dX11_count_80 : decode cX11_count 80 = .ok (.bipush 7, 2) := by decide +kernel
theorem dX11_count_82 : decode cX11_count 82 = .ok (.if_icmp .ne 10, 3) := by decide +kernel
theorem dX11_count_92 : decode cX11_count 92 = .ok (.bipush (-3), 2) := by decide +kernel
theorem dX11_count_94 : decode cX11_count 94 = .ok (.ireturn, 1) := by decide +kernel
theorem dX11_count_85 : decode cX11_count 85 = .ok (.aload_n 0, 1) := by decide +kernel
theorem dX11_count_86 : decode cX11_count 86 = .ok (.getfield 337, 3) := by decide +kernel
theorem kw_1430 : Cond.fieldLink RX11 337 "SportsHouseModel" "today" "I" ∈ lw_g := lw_at 1430 (by decide +kernel) rfl
theorem dX11_count_89 : decode cX11_count 89 = .ok (.goto 5, 3) := by decide +kernel
def sp_X11_count (na : Int32) : Int32 := if na = 0 then 0 else if na = 1 then 0 else if na = 2 then 0 else if na = 3 then 0 else if na = 4 then 0 else if na = 5 then 0 else if na = 6 then 0 else if na = 7 then 0 else (-3)
set_option maxHeartbeats 4000000 in
set_option maxRecDepth 100000 in
theorem ct_X11_count (l : Launch) (dC : Nat → ClassId) (dI : Nat → Nat → Nat) (m0 : Nat) (fm : List Value) (hfm_3 : fm[3]? = some (.int 0)) (hfm_6 : fm[6]? = some (.int 0)) (hfm_12 : fm[12]? = some (.int 0)) (hfm_15 : fm[15]? = some (.int 0)) (hfm_16 : fm[16]? = some (.int 0)) (hfm_21 : fm[21]? = some (.int 0)) (hfm_29 : fm[29]? = some (.int 0)) (hfm_47 : fm[47]? = some (.int 0)) (sz : Nat) (na : Int32) : Met l yX11_count (.code yX11_count cX11_count 2 (some .int) :: lw_g) ({ frames := 2, cells := 0, slots := 0, locals := 120 }) (ro_P dC dI [(m0, .inr (11, fm))] [] sz [.ref m0, .int na]) (ri_Q (sp_X11_count na) (va_A [] sz)) 0 0 (va_A [] sz) := by
  refine ro_entry (by decide) (Nat.le_of_ble_eq_true rfl) ?_
  intro p e s m below meth c ls hx hb hr hlocks ht hown hin hml hsz hP hK hD hE hl
  subst hsz
  have hS : va_S (va_A [] s.heap.size) s.heap s.heap [] := va_S.rf
  have hA : ∀ q, s.heap.size ≤ q → va_A [] s.heap.size q := fun q h => Or.inr h
  have hl : lv_has ls 2 [(0, .ref m0), (1, .int na)] := hl
  have hown : s.vm.findClass RX11 = some m.cls := hown
  refine lv_iload_n hx hb dX11_count_0 rfl (lv_at hl 1 rfl) ?_
  by_cases z1_0 : na = 0
  · refine lv_tableIn (off := 43) (tgt := 44) hx hb dX11_count_1 (by rw [z1_0]; decide) (by rw [z1_0]; decide) (by rw [z1_0]; rfl) (by decide) ?_
    refine lv_aload_n hx hb dX11_count_44 rfl (lv_at hl 0 rfl) ?_
    refine va_get (D := (dC, dI)) (ci := 11) (v := .int 0) (C := RX11) (T := TX11) (N := 114) hx hb ht inX11 hown hK hP 0 rfl rfl 12 (by decide) (ht _ kw_1439) (fun _ h9 => h9) hfm_12 dX11_count_45 ?_
    exact W.iret hx hb hr (fun t ht9 hW => ⟨⟨_, (), rfl, (by unfold sp_X11_count; rw [if_pos z1_0]), trivial⟩, hS.F ht9⟩) hS.2.2 dX11_count_48
  by_cases z1_1 : na = 1
  · refine lv_tableIn (off := 48) (tgt := 49) hx hb dX11_count_1 (by rw [z1_1]; decide) (by rw [z1_1]; decide) (by rw [z1_1]; rfl) (by decide) ?_
    refine lv_aload_n hx hb dX11_count_49 rfl (lv_at hl 0 rfl) ?_
    refine va_get (D := (dC, dI)) (ci := 11) (v := .int 0) (C := RX11) (T := TX11) (N := 114) hx hb ht inX11 hown hK hP 0 rfl rfl 15 (by decide) (ht _ kw_1442) (fun _ h9 => h9) hfm_15 dX11_count_50 ?_
    exact W.iret hx hb hr (fun t ht9 hW => ⟨⟨_, (), rfl, (by unfold sp_X11_count; rw [if_neg z1_0, if_pos z1_1]), trivial⟩, hS.F ht9⟩) hS.2.2 dX11_count_53
  by_cases z1_2 : na = 2
  · refine lv_tableIn (off := 53) (tgt := 54) hx hb dX11_count_1 (by rw [z1_2]; decide) (by rw [z1_2]; decide) (by rw [z1_2]; rfl) (by decide) ?_
    refine lv_aload_n hx hb dX11_count_54 rfl (lv_at hl 0 rfl) ?_
    refine va_get (D := (dC, dI)) (ci := 11) (v := .int 0) (C := RX11) (T := TX11) (N := 114) hx hb ht inX11 hown hK hP 0 rfl rfl 16 (by decide) (ht _ kw_1443) (fun _ h9 => h9) hfm_16 dX11_count_55 ?_
    exact W.iret hx hb hr (fun t ht9 hW => ⟨⟨_, (), rfl, (by unfold sp_X11_count; rw [if_neg z1_0, if_neg z1_1, if_pos z1_2]), trivial⟩, hS.F ht9⟩) hS.2.2 dX11_count_58
  by_cases z1_3 : na = 3
  · refine lv_tableIn (off := 58) (tgt := 59) hx hb dX11_count_1 (by rw [z1_3]; decide) (by rw [z1_3]; decide) (by rw [z1_3]; rfl) (by decide) ?_
    refine lv_aload_n hx hb dX11_count_59 rfl (lv_at hl 0 rfl) ?_
    refine va_get (D := (dC, dI)) (ci := 11) (v := .int 0) (C := RX11) (T := TX11) (N := 114) hx hb ht inX11 hown hK hP 0 rfl rfl 21 (by decide) (ht _ kw_1448) (fun _ h9 => h9) hfm_21 dX11_count_60 ?_
    exact W.iret hx hb hr (fun t ht9 hW => ⟨⟨_, (), rfl, (by unfold sp_X11_count; rw [if_neg z1_0, if_neg z1_1, if_neg z1_2, if_pos z1_3]), trivial⟩, hS.F ht9⟩) hS.2.2 dX11_count_63
  by_cases z1_4 : na = 4
  · refine lv_tableIn (off := 63) (tgt := 64) hx hb dX11_count_1 (by rw [z1_4]; decide) (by rw [z1_4]; decide) (by rw [z1_4]; rfl) (by decide) ?_
    refine lv_aload_n hx hb dX11_count_64 rfl (lv_at hl 0 rfl) ?_
    refine va_get (D := (dC, dI)) (ci := 11) (v := .int 0) (C := RX11) (T := TX11) (N := 114) hx hb ht inX11 hown hK hP 0 rfl rfl 6 (by decide) (ht _ kw_1433) (fun _ h9 => h9) hfm_6 dX11_count_65 ?_
    exact W.iret hx hb hr (fun t ht9 hW => ⟨⟨_, (), rfl, (by unfold sp_X11_count; rw [if_neg z1_0, if_neg z1_1, if_neg z1_2, if_neg z1_3, if_pos z1_4]), trivial⟩, hS.F ht9⟩) hS.2.2 dX11_count_68
  by_cases z1_5 : na = 5
  · refine lv_tableIn (off := 68) (tgt := 69) hx hb dX11_count_1 (by rw [z1_5]; decide) (by rw [z1_5]; decide) (by rw [z1_5]; rfl) (by decide) ?_
    refine lv_aload_n hx hb dX11_count_69 rfl (lv_at hl 0 rfl) ?_
    refine va_get (D := (dC, dI)) (ci := 11) (v := .int 0) (C := RX11) (T := TX11) (N := 114) hx hb ht inX11 hown hK hP 0 rfl rfl 29 (by decide) (ht _ kw_1456) (fun _ h9 => h9) hfm_29 dX11_count_70 ?_
    exact W.iret hx hb hr (fun t ht9 hW => ⟨⟨_, (), rfl, (by unfold sp_X11_count; rw [if_neg z1_0, if_neg z1_1, if_neg z1_2, if_neg z1_3, if_neg z1_4, if_pos z1_5]), trivial⟩, hS.F ht9⟩) hS.2.2 dX11_count_73
  by_cases z1_6 : na = 6
  · refine lv_tableIn (off := 73) (tgt := 74) hx hb dX11_count_1 (by rw [z1_6]; decide) (by rw [z1_6]; decide) (by rw [z1_6]; rfl) (by decide) ?_
    refine lv_aload_n hx hb dX11_count_74 rfl (lv_at hl 0 rfl) ?_
    refine va_get (D := (dC, dI)) (ci := 11) (v := .int 0) (C := RX11) (T := TX11) (N := 114) hx hb ht inX11 hown hK hP 0 rfl rfl 47 (by decide) (ht _ kw_1474) (fun _ h9 => h9) hfm_47 dX11_count_75 ?_
    exact W.iret hx hb hr (fun t ht9 hW => ⟨⟨_, (), rfl, (by unfold sp_X11_count; rw [if_neg z1_0, if_neg z1_1, if_neg z1_2, if_neg z1_3, if_neg z1_4, if_neg z1_5, if_pos z1_6]), trivial⟩, hS.F ht9⟩) hS.2.2 dX11_count_78
  have z1o : na.toInt < 0 ∨ 6 < na.toInt := by
    have t_0 := lv_neT (a := 0) z1_0 rfl
    have t_1 := lv_neT (a := 1) z1_1 rfl
    have t_2 := lv_neT (a := 2) z1_2 rfl
    have t_3 := lv_neT (a := 3) z1_3 rfl
    have t_4 := lv_neT (a := 4) z1_4 rfl
    have t_5 := lv_neT (a := 5) z1_5 rfl
    have t_6 := lv_neT (a := 6) z1_6 rfl
    omega
  refine lv_tableOut (tgt := 79) hx hb dX11_count_1 z1o (by decide) ?_
  refine lv_iload_n hx hb dX11_count_79 rfl (lv_at hl 1 rfl) ?_
  refine lv_bipush (v := 7) hx hb dX11_count_80 (by decide) ?_
  refine lv_icmp_ne (tgt := 92) hx hb dX11_count_82 (by decide) (fun c2 => ?_) (fun c2 => ?_)
  · refine lv_bipush (v := (-3)) hx hb dX11_count_92 (by decide) ?_
    exact W.iret hx hb hr (fun t ht9 hW => ⟨⟨_, (), rfl, (by unfold sp_X11_count; rw [if_neg z1_0, if_neg z1_1, if_neg z1_2, if_neg z1_3, if_neg z1_4, if_neg z1_5, if_neg z1_6, if_neg c2]), trivial⟩, hS.F ht9⟩) hS.2.2 dX11_count_94
  · refine lv_aload_n hx hb dX11_count_85 rfl (lv_at hl 0 rfl) ?_
    refine va_get (D := (dC, dI)) (ci := 11) (v := .int 0) (C := RX11) (T := TX11) (N := 114) hx hb ht inX11 hown hK hP 0 rfl rfl 3 (by decide) (ht _ kw_1430) (fun _ h9 => h9) hfm_3 dX11_count_86 ?_
    refine lv_goto (tgt := 94) hx hb dX11_count_89 (by decide) ?_
    exact W.iret hx hb hr (fun t ht9 hW => ⟨⟨_, (), rfl, (by unfold sp_X11_count; rw [if_neg z1_0, if_neg z1_1, if_neg z1_2, if_neg z1_3, if_neg z1_4, if_neg z1_5, if_neg z1_6, if_pos c2]), trivial⟩, hS.F ht9⟩) hS.2.2 dX11_count_94
end
section
abbrev cX10_sign : ByteArray := prog_1_method_2_code
def yX10_sign : MethodName := ⟨RX10, "sign", "(I)I"⟩
theorem dX10_sign_0 : decode cX10_sign 0 = .ok (.iload_n 1, 1) := by decide +kernel
theorem dX10_sign_1 : decode cX10_sign 1 = .ok (.bipush 10, 2) := by decide +kernel
theorem dX10_sign_3 : decode cX10_sign 3 = .ok (.if_icmp .eq 18, 3) := by decide +kernel
theorem dX10_sign_21 : decode cX10_sign 21 = .ok (.aload_n 0, 1) := by decide +kernel
theorem dX10_sign_22 : decode cX10_sign 22 = .ok (.getfield 12, 3) := by decide +kernel
theorem dX10_sign_25 : decode cX10_sign 25 = .ok (.getfield 66, 3) := by decide +kernel
theorem kw_37 : Cond.fieldLink RX10 66 "SportsHouse$RuleText" "length" "I" ∈ lw_g := lw_at 37 (by decide +kernel) rfl
theorem dX10_sign_28 : decode cX10_sign 28 = .ok (.sipush 400, 3) := by decide +kernel
theorem dX10_sign_31 : decode cX10_sign 31 = .ok (.if_icmp .lt 6, 3) := by decide +kernel
theorem dX10_sign_37 : decode cX10_sign 37 = .ok (.aload_n 0, 1) := by decide +kernel
theorem dX10_sign_38 : decode cX10_sign 38 = .ok (.getfield 12, 3) := by decide +kernel
theorem dX10_sign_41 : decode cX10_sign 41 = .ok (.getfield 70, 3) := by decide +kernel
theorem kw_36 : Cond.fieldLink RX10 70 "SportsHouse$RuleText" "bytes" "[I" ∈ lw_g := lw_at 36 (by decide +kernel) rfl
theorem dX10_sign_44 : decode cX10_sign 44 = .ok (.aload_n 0, 1) := by decide +kernel
theorem dX10_sign_45 : decode cX10_sign 45 = .ok (.getfield 12, 3) := by decide +kernel
theorem dX10_sign_48 : decode cX10_sign 48 = .ok (.getfield 66, 3) := by decide +kernel
theorem dX10_sign_51 : decode cX10_sign 51 = .ok (.iload_n 1, 1) := by decide +kernel
theorem dX10_sign_52 : decode cX10_sign 52 = .ok (.iastore, 1) := by decide +kernel
theorem dX10_sign_53 : decode cX10_sign 53 = .ok (.aload_n 0, 1) := by decide +kernel
theorem dX10_sign_54 : decode cX10_sign 54 = .ok (.getfield 12, 3) := by decide +kernel
theorem dX10_sign_57 : decode cX10_sign 57 = .ok (.dup, 1) := by decide +kernel
theorem dX10_sign_58 : decode cX10_sign 58 = .ok (.getfield 66, 3) := by decide +kernel
theorem dX10_sign_61 : decode cX10_sign 61 = .ok (.iconst 1, 1) := by decide +kernel
theorem dX10_sign_62 : decode cX10_sign 62 = .ok (.iadd, 1) := by decide +kernel
theorem dX10_sign_63 : decode cX10_sign 63 = .ok (.putfield 66, 3) := by decide +kernel
theorem dX10_sign_66 : decode cX10_sign 66 = .ok (.aload_n 0, 1) := by decide +kernel
theorem dX10_sign_67 : decode cX10_sign 67 = .ok (.getfield 12, 3) := by decide +kernel
theorem dX10_sign_70 : decode cX10_sign 70 = .ok (.getfield 66, 3) := by decide +kernel
theorem dX10_sign_73 : decode cX10_sign 73 = .ok (.ireturn, 1) := by decide +kernel
theorem dX10_sign_6 : decode cX10_sign 6 = .ok (.iload_n 1, 1) := by decide +kernel
theorem dX10_sign_7 : decode cX10_sign 7 = .ok (.bipush 32, 2) := by decide +kernel
theorem dX10_sign_9 : decode cX10_sign 9 = .ok (.if_icmp .lt 9, 3) := by decide +kernel
theorem dX10_sign_18 : decode cX10_sign 18 = .ok (.bipush (-3), 2) := by decide +kernel
theorem dX10_sign_20 : decode cX10_sign 20 = .ok (.ireturn, 1) := by decide +kernel
theorem dX10_sign_12 : decode cX10_sign 12 = .ok (.iload_n 1, 1) := by decide +kernel
theorem dX10_sign_13 : decode cX10_sign 13 = .ok (.bipush 126, 2) := by decide +kernel
theorem dX10_sign_15 : decode cX10_sign 15 = .ok (.if_icmp .le 6, 3) := by decide +kernel
def sp_X10_sign (na : Int32) : Int32 := if na = 10 then 1 else if na < 32 then (-3) else if na ≤ 126 then 1 else (-3)
set_option maxHeartbeats 4000000 in
set_option maxRecDepth 100000 in
theorem ct_X10_sign (l : Launch) (dC : Nat → ClassId) (dI : Nat → Nat → Nat) (x0 : Nat) (rt : Nat) (ab : Nat) (fx : List Value) (frt : List Value) (kab : ClassId) (gab : Nat → Int32) (hfx_0 : fx[0]? = some (.ref rt)) (hn_frt : frt.length = 10) (hfrt_0 : frt[0]? = some (.ref ab)) (hfrt_1 : frt[1]? = some (.int 0)) (sz : Nat) (na : Int32) : Met l yX10_sign (.code yX10_sign cX10_sign 2 (some .int) :: lw_g) ({ frames := 2, cells := 0, slots := 0, locals := 120 }) (ro_P dC dI [(x0, .inr (10, fx)), (rt, .inr (5, frt)), (ab, .inl (kab, 400, .inl gab))] [(kab, .int)] sz [.ref x0, .int na]) (ri_Q (sp_X10_sign na) (va_A [(x0, .inr (10, fx)), (rt, .inr (5, frt)), (ab, .inl (kab, 400, .inl gab))] sz)) 0 0 (va_A [(x0, .inr (10, fx)), (rt, .inr (5, frt)), (ab, .inl (kab, 400, .inl gab))] sz) := by
  refine ro_entry (by decide) (Nat.le_of_ble_eq_true rfl) ?_
  intro p e s m below meth c ls hx hb hr hlocks ht hown hin hml hsz hP hK hD hE hl
  subst hsz
  have hD := hD.self (sz := s.heap.size)
  generalize hAe : va_A [(x0, .inr (10, fx)), (rt, .inr (5, frt)), (ab, .inl (kab, 400, .inl gab))] s.heap.size = A at hD ⊢
  have hA : ∀ q, s.heap.size ≤ q → A q := fun q h => by rw [← hAe]; exact Or.inr h
  have hS : va_S A s.heap s.heap [] := va_S.rf
  have hl : lv_has ls 2 [(0, .ref x0), (1, .int na)] := hl
  have hown : s.vm.findClass RX10 = some m.cls := hown
  refine lv_iload_n hx hb dX10_sign_0 rfl (lv_at hl 1 rfl) ?_
  refine lv_bipush (v := 10) hx hb dX10_sign_1 (by decide) ?_
  refine lv_icmp_eq (tgt := 21) hx hb dX10_sign_3 (by decide) (fun c1 => ?_) (fun c1 => ?_)
  · refine lv_aload_n hx hb dX10_sign_21 rfl (lv_at hl 0 rfl) ?_
    refine va_get (D := (dC, dI)) (ci := 10) (v := .ref rt) (C := RX10) (T := TX10) (N := 7) hx hb ht inX10 hown hK hP 0 rfl rfl 0 (by decide) (ht _ kw_405) (fun _ h9 => h9) hfx_0 dX10_sign_22 ?_
    refine va_get (D := (dC, dI)) (ci := 5) (v := .int 0) (C := RX5) (T := TX5) (N := 10) hx hb ht inX5 hown hK hP 1 rfl rfl 1 (by decide) (ht _ kw_37) (fun _ h9 => h9) hfrt_1 dX10_sign_25 ?_
    refine lv_sipush (v := 400) hx hb dX10_sign_28 (by decide) ?_
    refine lv_icmp_lt (tgt := 37) hx hb dX10_sign_31 (by decide) (fun c2 => ?_) (fun c2 => ?_)
    rotate_left
    · exact absurd (by decide) c2
    refine lv_aload_n hx hb dX10_sign_37 rfl (lv_at hl 0 rfl) ?_
    refine va_get (D := (dC, dI)) (ci := 10) (v := .ref rt) (C := RX10) (T := TX10) (N := 7) hx hb ht inX10 hown hK hP 0 rfl rfl 0 (by decide) (ht _ kw_405) (fun _ h9 => h9) hfx_0 dX10_sign_38 ?_
    refine va_get (D := (dC, dI)) (ci := 5) (v := .ref ab) (C := RX5) (T := TX5) (N := 10) hx hb ht inX5 hown hK hP 1 rfl rfl 0 (by decide) (ht _ kw_36) (fun _ h9 => h9) hfrt_0 dX10_sign_41 ?_
    refine lv_aload_n hx hb dX10_sign_44 rfl (lv_at hl 0 rfl) ?_
    refine va_get (D := (dC, dI)) (ci := 10) (v := .ref rt) (C := RX10) (T := TX10) (N := 7) hx hb ht inX10 hown hK hP 0 rfl rfl 0 (by decide) (ht _ kw_405) (fun _ h9 => h9) hfx_0 dX10_sign_45 ?_
    refine va_get (D := (dC, dI)) (ci := 5) (v := .int 0) (C := RX5) (T := TX5) (N := 10) hx hb ht inX5 hown hK hP 1 rfl rfl 1 (by decide) (ht _ kw_37) (fun _ h9 => h9) hfrt_1 dX10_sign_48 ?_
    refine lv_iload_n hx hb dX10_sign_51 rfl (lv_at hl 1 rfl) ?_
    refine va_iast hx hb hK hP hD hS 2 0 rfl rfl (by unfold vp_in; decide) dX10_sign_52 (fun H locs hP hD hS => ?_)
    generalize upd gab (0 : Int32).toNatClampNeg na = g3 at hP hD
    have hP : va_P (dC, dI) vwCl [(x0, .inr (10, fx)), (rt, .inr (5, frt)), (ab, .inl (kab, 400, .inl g3))] H := hP
    have hD : va_D A [(x0, .inr (10, fx)), (rt, .inr (5, frt)), (ab, .inl (kab, 400, .inl g3))] := hD
    refine lv_aload_n hx hb dX10_sign_53 rfl (lv_at hl 0 rfl) ?_
    refine va_get (D := (dC, dI)) (ci := 10) (v := .ref rt) (C := RX10) (T := TX10) (N := 7) hx hb ht inX10 hown hK hP 0 rfl rfl 0 (by decide) (ht _ kw_405) (fun _ h9 => h9) hfx_0 dX10_sign_54 ?_
    refine lv_dup hx hb dX10_sign_57 rfl ?_
    refine va_get (D := (dC, dI)) (ci := 5) (v := .int 0) (C := RX5) (T := TX5) (N := 10) hx hb ht inX5 hown hK hP 1 rfl rfl 1 (by decide) (ht _ kw_37) (fun _ h9 => h9) hfrt_1 dX10_sign_58 ?_
    refine lv_iconst (v := 1) hx hb dX10_sign_61 (by decide) ?_
    refine lv_iadd hx hb dX10_sign_62 ?_
    refine lv_topi (fun r4 er4 => ?_)
    have er4 : r4 = 1 := er4.trans (by decide)
    subst er4
    refine va_put (D := (dC, dI)) (ci := 5) (v := .int 1) (ty := .int) (C := RX5) (T := TX5) (N := 10) hx hb ht inX5 tyX5 tyX5_ok nmX5 hown hK hP hD hS 1 rfl rfl 1 (by decide) (ht _ kw_37) (fun _ h9 => h9) rfl (by decide +kernel) rfl rfl (gs_lt hn_frt (by decide)) dX10_sign_63 (fun H locs hP hD hS => ?_)
    have hP : va_P (dC, dI) vwCl [(x0, .inr (10, fx)), (rt, .inr (5, (frt.set 1 (.int 1)))), (ab, .inl (kab, 400, .inl g3))] H := hP
    have hD : va_D A [(x0, .inr (10, fx)), (rt, .inr (5, (frt.set 1 (.int 1)))), (ab, .inl (kab, 400, .inl g3))] := hD
    refine lv_aload_n hx hb dX10_sign_66 rfl (lv_at hl 0 rfl) ?_
    refine va_get (D := (dC, dI)) (ci := 10) (v := .ref rt) (C := RX10) (T := TX10) (N := 7) hx hb ht inX10 hown hK hP 0 rfl rfl 0 (by decide) (ht _ kw_405) (fun _ h9 => h9) hfx_0 dX10_sign_67 ?_
    refine va_get (D := (dC, dI)) (ci := 5) (v := .int 1) (C := RX5) (T := TX5) (N := 10) hx hb ht inX5 hown hK hP 1 rfl rfl 1 (by decide) (ht _ kw_37) (fun _ h9 => h9) (gs_eq (gs_lt hn_frt (by decide))) dX10_sign_70 ?_
    exact W.iret hx hb hr (fun t ht9 hW => ⟨⟨_, (), rfl, (by unfold sp_X10_sign; rw [if_pos c1]), trivial⟩, hS.F ht9⟩) hS.2.2 dX10_sign_73
  · refine lv_iload_n hx hb dX10_sign_6 rfl (lv_at hl 1 rfl) ?_
    refine lv_bipush (v := 32) hx hb dX10_sign_7 (by decide) ?_
    refine lv_icmp_lt (tgt := 18) hx hb dX10_sign_9 (by decide) (fun c5 => ?_) (fun c5 => ?_)
    · refine lv_bipush (v := (-3)) hx hb dX10_sign_18 (by decide) ?_
      exact W.iret hx hb hr (fun t ht9 hW => ⟨⟨_, (), rfl, (by unfold sp_X10_sign; rw [if_neg c1, if_pos c5]), trivial⟩, hS.F ht9⟩) hS.2.2 dX10_sign_20
    · refine lv_iload_n hx hb dX10_sign_12 rfl (lv_at hl 1 rfl) ?_
      refine lv_bipush (v := 126) hx hb dX10_sign_13 (by decide) ?_
      refine lv_icmp_le (tgt := 21) hx hb dX10_sign_15 (by decide) (fun c6 => ?_) (fun c6 => ?_)
      · refine lv_aload_n hx hb dX10_sign_21 rfl (lv_at hl 0 rfl) ?_
        refine va_get (D := (dC, dI)) (ci := 10) (v := .ref rt) (C := RX10) (T := TX10) (N := 7) hx hb ht inX10 hown hK hP 0 rfl rfl 0 (by decide) (ht _ kw_405) (fun _ h9 => h9) hfx_0 dX10_sign_22 ?_
        refine va_get (D := (dC, dI)) (ci := 5) (v := .int 0) (C := RX5) (T := TX5) (N := 10) hx hb ht inX5 hown hK hP 1 rfl rfl 1 (by decide) (ht _ kw_37) (fun _ h9 => h9) hfrt_1 dX10_sign_25 ?_
        refine lv_sipush (v := 400) hx hb dX10_sign_28 (by decide) ?_
        refine lv_icmp_lt (tgt := 37) hx hb dX10_sign_31 (by decide) (fun c7 => ?_) (fun c7 => ?_)
        rotate_left
        · exact absurd (by decide) c7
        refine lv_aload_n hx hb dX10_sign_37 rfl (lv_at hl 0 rfl) ?_
        refine va_get (D := (dC, dI)) (ci := 10) (v := .ref rt) (C := RX10) (T := TX10) (N := 7) hx hb ht inX10 hown hK hP 0 rfl rfl 0 (by decide) (ht _ kw_405) (fun _ h9 => h9) hfx_0 dX10_sign_38 ?_
        refine va_get (D := (dC, dI)) (ci := 5) (v := .ref ab) (C := RX5) (T := TX5) (N := 10) hx hb ht inX5 hown hK hP 1 rfl rfl 0 (by decide) (ht _ kw_36) (fun _ h9 => h9) hfrt_0 dX10_sign_41 ?_
        refine lv_aload_n hx hb dX10_sign_44 rfl (lv_at hl 0 rfl) ?_
        refine va_get (D := (dC, dI)) (ci := 10) (v := .ref rt) (C := RX10) (T := TX10) (N := 7) hx hb ht inX10 hown hK hP 0 rfl rfl 0 (by decide) (ht _ kw_405) (fun _ h9 => h9) hfx_0 dX10_sign_45 ?_
        refine va_get (D := (dC, dI)) (ci := 5) (v := .int 0) (C := RX5) (T := TX5) (N := 10) hx hb ht inX5 hown hK hP 1 rfl rfl 1 (by decide) (ht _ kw_37) (fun _ h9 => h9) hfrt_1 dX10_sign_48 ?_
        refine lv_iload_n hx hb dX10_sign_51 rfl (lv_at hl 1 rfl) ?_
        refine va_iast hx hb hK hP hD hS 2 0 rfl rfl (by unfold vp_in; decide) dX10_sign_52 (fun H locs hP hD hS => ?_)
        generalize upd gab (0 : Int32).toNatClampNeg na = g8 at hP hD
        have hP : va_P (dC, dI) vwCl [(x0, .inr (10, fx)), (rt, .inr (5, frt)), (ab, .inl (kab, 400, .inl g8))] H := hP
        have hD : va_D A [(x0, .inr (10, fx)), (rt, .inr (5, frt)), (ab, .inl (kab, 400, .inl g8))] := hD
        refine lv_aload_n hx hb dX10_sign_53 rfl (lv_at hl 0 rfl) ?_
        refine va_get (D := (dC, dI)) (ci := 10) (v := .ref rt) (C := RX10) (T := TX10) (N := 7) hx hb ht inX10 hown hK hP 0 rfl rfl 0 (by decide) (ht _ kw_405) (fun _ h9 => h9) hfx_0 dX10_sign_54 ?_
        refine lv_dup hx hb dX10_sign_57 rfl ?_
        refine va_get (D := (dC, dI)) (ci := 5) (v := .int 0) (C := RX5) (T := TX5) (N := 10) hx hb ht inX5 hown hK hP 1 rfl rfl 1 (by decide) (ht _ kw_37) (fun _ h9 => h9) hfrt_1 dX10_sign_58 ?_
        refine lv_iconst (v := 1) hx hb dX10_sign_61 (by decide) ?_
        refine lv_iadd hx hb dX10_sign_62 ?_
        refine lv_topi (fun r9 er9 => ?_)
        have er9 : r9 = 1 := er9.trans (by decide)
        subst er9
        refine va_put (D := (dC, dI)) (ci := 5) (v := .int 1) (ty := .int) (C := RX5) (T := TX5) (N := 10) hx hb ht inX5 tyX5 tyX5_ok nmX5 hown hK hP hD hS 1 rfl rfl 1 (by decide) (ht _ kw_37) (fun _ h9 => h9) rfl (by decide +kernel) rfl rfl (gs_lt hn_frt (by decide)) dX10_sign_63 (fun H locs hP hD hS => ?_)
        have hP : va_P (dC, dI) vwCl [(x0, .inr (10, fx)), (rt, .inr (5, (frt.set 1 (.int 1)))), (ab, .inl (kab, 400, .inl g8))] H := hP
        have hD : va_D A [(x0, .inr (10, fx)), (rt, .inr (5, (frt.set 1 (.int 1)))), (ab, .inl (kab, 400, .inl g8))] := hD
        refine lv_aload_n hx hb dX10_sign_66 rfl (lv_at hl 0 rfl) ?_
        refine va_get (D := (dC, dI)) (ci := 10) (v := .ref rt) (C := RX10) (T := TX10) (N := 7) hx hb ht inX10 hown hK hP 0 rfl rfl 0 (by decide) (ht _ kw_405) (fun _ h9 => h9) hfx_0 dX10_sign_67 ?_
        refine va_get (D := (dC, dI)) (ci := 5) (v := .int 1) (C := RX5) (T := TX5) (N := 10) hx hb ht inX5 hown hK hP 1 rfl rfl 1 (by decide) (ht _ kw_37) (fun _ h9 => h9) (gs_eq (gs_lt hn_frt (by decide))) dX10_sign_70 ?_
        exact W.iret hx hb hr (fun t ht9 hW => ⟨⟨_, (), rfl, (by unfold sp_X10_sign; rw [if_neg c1, if_neg c5, if_pos c6]), trivial⟩, hS.F ht9⟩) hS.2.2 dX10_sign_73
      · refine lv_bipush (v := (-3)) hx hb dX10_sign_18 (by decide) ?_
        exact W.iret hx hb hr (fun t ht9 hW => ⟨⟨_, (), rfl, (by unfold sp_X10_sign; rw [if_neg c1, if_neg c5, if_neg c6]), trivial⟩, hS.F ht9⟩) hS.2.2 dX10_sign_20
abbrev cX10_wipe : ByteArray := prog_1_method_3_code
def yX10_wipe : MethodName := ⟨RX10, "wipe", "()I"⟩
theorem dX10_wipe_0 : decode cX10_wipe 0 = .ok (.aload_n 0, 1) := by decide +kernel
theorem dX10_wipe_1 : decode cX10_wipe 1 = .ok (.getfield 12, 3) := by decide +kernel
theorem dX10_wipe_4 : decode cX10_wipe 4 = .ok (.getfield 66, 3) := by decide +kernel
theorem dX10_wipe_7 : decode cX10_wipe 7 = .ok (.istore_n 1, 1) := by decide +kernel
theorem dX10_wipe_8 : decode cX10_wipe 8 = .ok (.aload_n 0, 1) := by decide +kernel
theorem dX10_wipe_9 : decode cX10_wipe 9 = .ok (.getfield 12, 3) := by decide +kernel
theorem dX10_wipe_12 : decode cX10_wipe 12 = .ok (.iconst 0, 1) := by decide +kernel
theorem dX10_wipe_13 : decode cX10_wipe 13 = .ok (.putfield 66, 3) := by decide +kernel
theorem dX10_wipe_16 : decode cX10_wipe 16 = .ok (.iload_n 1, 1) := by decide +kernel
theorem dX10_wipe_17 : decode cX10_wipe 17 = .ok (.ireturn, 1) := by decide +kernel
set_option maxHeartbeats 4000000 in
set_option maxRecDepth 100000 in
theorem ct_X10_wipe (l : Launch) (dC : Nat → ClassId) (dI : Nat → Nat → Nat) (x0 : Nat) (rt : Nat) (fx : List Value) (frt : List Value) (hfx_0 : fx[0]? = some (.ref rt)) (hn_frt : frt.length = 10) (hfrt_1 : frt[1]? = some (.int 0)) (sz : Nat)  : Met l yX10_wipe (.code yX10_wipe cX10_wipe 2 (some .int) :: lw_g) ({ frames := 2, cells := 0, slots := 0, locals := 120 }) (ro_P dC dI [(x0, .inr (10, fx)), (rt, .inr (5, frt))] [] sz [.ref x0]) (ri_Q 0 (va_A [(x0, .inr (10, fx)), (rt, .inr (5, frt))] sz)) 0 0 (va_A [(x0, .inr (10, fx)), (rt, .inr (5, frt))] sz) := by
  refine ro_entry (by decide) (Nat.le_of_ble_eq_true rfl) ?_
  intro p e s m below meth c ls hx hb hr hlocks ht hown hin hml hsz hP hK hD hE hl
  subst hsz
  have hD := hD.self (sz := s.heap.size)
  generalize hAe : va_A [(x0, .inr (10, fx)), (rt, .inr (5, frt))] s.heap.size = A at hD ⊢
  have hA : ∀ q, s.heap.size ≤ q → A q := fun q h => by rw [← hAe]; exact Or.inr h
  have hS : va_S A s.heap s.heap [] := va_S.rf
  have hl : lv_has ls 2 [(0, .ref x0)] := hl
  have hown : s.vm.findClass RX10 = some m.cls := hown
  refine lv_aload_n hx hb dX10_wipe_0 rfl (lv_at hl 0 rfl) ?_
  refine va_get (D := (dC, dI)) (ci := 10) (v := .ref rt) (C := RX10) (T := TX10) (N := 7) hx hb ht inX10 hown hK hP 0 rfl rfl 0 (by decide) (ht _ kw_405) (fun _ h9 => h9) hfx_0 dX10_wipe_1 ?_
  refine va_get (D := (dC, dI)) (ci := 5) (v := .int 0) (C := RX5) (T := TX5) (N := 10) hx hb ht inX5 hown hK hP 1 rfl rfl 1 (by decide) (ht _ kw_37) (fun _ h9 => h9) hfrt_1 dX10_wipe_4 ?_
  refine lv_istore_n (lv' := [(1, .int 0), (0, .ref x0)]) hx hb dX10_wipe_7 rfl hl (by decide) rfl (fun ls hl => ?_)
  refine lv_aload_n hx hb dX10_wipe_8 rfl (lv_at hl 1 rfl) ?_
  refine va_get (D := (dC, dI)) (ci := 10) (v := .ref rt) (C := RX10) (T := TX10) (N := 7) hx hb ht inX10 hown hK hP 0 rfl rfl 0 (by decide) (ht _ kw_405) (fun _ h9 => h9) hfx_0 dX10_wipe_9 ?_
  refine lv_iconst (v := 0) hx hb dX10_wipe_12 (by decide) ?_
  refine va_put (D := (dC, dI)) (ci := 5) (v := .int 0) (ty := .int) (C := RX5) (T := TX5) (N := 10) hx hb ht inX5 tyX5 tyX5_ok nmX5 hown hK hP hD hS 1 rfl rfl 1 (by decide) (ht _ kw_37) (fun _ h9 => h9) rfl (by decide +kernel) rfl rfl (gs_lt hn_frt (by decide)) dX10_wipe_13 (fun H locs hP hD hS => ?_)
  have hP : va_P (dC, dI) vwCl [(x0, .inr (10, fx)), (rt, .inr (5, (frt.set 1 (.int 0))))] H := hP
  have hD : va_D A [(x0, .inr (10, fx)), (rt, .inr (5, (frt.set 1 (.int 0))))] := hD
  refine lv_iload_n hx hb dX10_wipe_16 rfl (lv_at hl 0 rfl) ?_
  exact W.iret hx hb hr (fun t ht9 hW => ⟨⟨_, (), rfl, rfl, trivial⟩, hS.F ht9⟩) hS.2.2 dX10_wipe_17
abbrev cX10_club : ByteArray := prog_1_method_7_code
def yX10_club : MethodName := ⟨RX10, "club", "(II)I"⟩
theorem dX10_club_0 : decode cX10_club 0 = .ok (.iload_n 1, 1) := by decide +kernel
theorem dX10_club_1 : decode cX10_club 1 = .ok (.bipush 12, 2) := by decide +kernel
theorem dX10_club_3 : decode cX10_club 3 = .ok (.invokestatic 115, 3) := by decide +kernel
theorem dX10_club_6 : decode cX10_club 6 = .ok (.ifCond .eq 12, 3) := by decide +kernel
theorem dX10_club_18 : decode cX10_club 18 = .ok (.bipush (-3), 2) := by decide +kernel
theorem dX10_club_20 : decode cX10_club 20 = .ok (.ireturn, 1) := by decide +kernel
theorem dX10_club_9 : decode cX10_club 9 = .ok (.iload_n 2, 1) := by decide +kernel
theorem dX10_club_10 : decode cX10_club 10 = .ok (.bipush 8, 2) := by decide +kernel
theorem dX10_club_12 : decode cX10_club 12 = .ok (.invokestatic 115, 3) := by decide +kernel
theorem dX10_club_15 : decode cX10_club 15 = .ok (.ifCond .ne 6, 3) := by decide +kernel
theorem dX10_club_21 : decode cX10_club 21 = .ok (.aload_n 0, 1) := by decide +kernel
theorem dX10_club_22 : decode cX10_club 22 = .ok (.getfield 19, 3) := by decide +kernel
theorem dX10_club_25 : decode cX10_club 25 = .ok (.getfield 119, 3) := by decide +kernel
theorem dX10_club_28 : decode cX10_club 28 = .ok (.bipush 12, 2) := by decide +kernel
theorem dX10_club_30 : decode cX10_club 30 = .ok (.if_icmp .lt 6, 3) := by decide +kernel
theorem dX10_club_36 : decode cX10_club 36 = .ok (.aload_n 0, 1) := by decide +kernel
theorem dX10_club_37 : decode cX10_club 37 = .ok (.getfield 19, 3) := by decide +kernel
theorem dX10_club_40 : decode cX10_club 40 = .ok (.getfield 119, 3) := by decide +kernel
theorem dX10_club_43 : decode cX10_club 43 = .ok (.istore_n 3, 1) := by decide +kernel
theorem dX10_club_44 : decode cX10_club 44 = .ok (.aload_n 0, 1) := by decide +kernel
theorem dX10_club_45 : decode cX10_club 45 = .ok (.getfield 19, 3) := by decide +kernel
theorem dX10_club_48 : decode cX10_club 48 = .ok (.getfield 122, 3) := by decide +kernel
theorem kw_80 : Cond.fieldLink RX10 122 "SportsHouse$Things" "stadium" "[I" ∈ lw_g := lw_at 80 (by decide +kernel) rfl
theorem dX10_club_51 : decode cX10_club 51 = .ok (.iload_n 3, 1) := by decide +kernel
theorem dX10_club_52 : decode cX10_club 52 = .ok (.iload_n 1, 1) := by decide +kernel
theorem dX10_club_53 : decode cX10_club 53 = .ok (.iastore, 1) := by decide +kernel
theorem dX10_club_54 : decode cX10_club 54 = .ok (.aload_n 0, 1) := by decide +kernel
theorem dX10_club_55 : decode cX10_club 55 = .ok (.getfield 19, 3) := by decide +kernel
theorem dX10_club_58 : decode cX10_club 58 = .ok (.getfield 125, 3) := by decide +kernel
theorem kw_86 : Cond.fieldLink RX10 125 "SportsHouse$Things" "country" "[I" ∈ lw_g := lw_at 86 (by decide +kernel) rfl
theorem dX10_club_61 : decode cX10_club 61 = .ok (.iload_n 3, 1) := by decide +kernel
theorem dX10_club_62 : decode cX10_club 62 = .ok (.iload_n 2, 1) := by decide +kernel
theorem dX10_club_63 : decode cX10_club 63 = .ok (.iastore, 1) := by decide +kernel
theorem dX10_club_64 : decode cX10_club 64 = .ok (.aload_n 0, 1) := by decide +kernel
theorem dX10_club_65 : decode cX10_club 65 = .ok (.getfield 19, 3) := by decide +kernel
theorem dX10_club_68 : decode cX10_club 68 = .ok (.dup, 1) := by decide +kernel
theorem dX10_club_69 : decode cX10_club 69 = .ok (.getfield 119, 3) := by decide +kernel
theorem dX10_club_72 : decode cX10_club 72 = .ok (.iconst 1, 1) := by decide +kernel
theorem dX10_club_73 : decode cX10_club 73 = .ok (.iadd, 1) := by decide +kernel
theorem dX10_club_74 : decode cX10_club 74 = .ok (.putfield 119, 3) := by decide +kernel
theorem dX10_club_77 : decode cX10_club 77 = .ok (.iload_n 3, 1) := by decide +kernel
theorem dX10_club_78 : decode cX10_club 78 = .ok (.ireturn, 1) := by decide +kernel
def sp_X10_club (na : Int32) (nb : Int32) : Int32 := if (sp_X10_isBelow na 12) = 0 then (-3) else if (sp_X10_isBelow nb 8) = 0 then (-3) else 0
set_option maxHeartbeats 4000000 in
set_option maxRecDepth 100000 in
theorem ct_X10_club (l : Launch) (dC : Nat → ClassId) (dI : Nat → Nat → Nat) (x0 : Nat) (th : Nat) (as : Nat) (ac : Nat) (fx : List Value) (fth : List Value) (kas : ClassId) (gas : Nat → Int32) (kac : ClassId) (gac : Nat → Int32) (hfx_1 : fx[1]? = some (.ref th)) (hn_fth : fth.length = 14) (hfth_0 : fth[0]? = some (.ref as)) (hfth_1 : fth[1]? = some (.ref ac)) (hfth_2 : fth[2]? = some (.int 0)) (sz : Nat) (na : Int32) (nb : Int32) : Met l yX10_club (.code yX10_club cX10_club 4 (some .int) :: lw_g) ({ frames := 2, cells := 0, slots := 0, locals := 120 }) (ro_P dC dI [(x0, .inr (10, fx)), (th, .inr (8, fth)), (as, .inl (kas, 12, .inl gas)), (ac, .inl (kac, 12, .inl gac))] [(kas, .int), (kac, .int)] sz [.ref x0, .int na, .int nb]) (ri_Q (sp_X10_club na nb) (va_A [(x0, .inr (10, fx)), (th, .inr (8, fth)), (as, .inl (kas, 12, .inl gas)), (ac, .inl (kac, 12, .inl gac))] sz)) 0 0 (va_A [(x0, .inr (10, fx)), (th, .inr (8, fth)), (as, .inl (kas, 12, .inl gas)), (ac, .inl (kac, 12, .inl gac))] sz) := by
  refine ro_entry (by decide) (Nat.le_of_ble_eq_true rfl) ?_
  intro p e s m below meth c ls hx hb hr hlocks ht hown hin hml hsz hP hK hD hE hl
  subst hsz
  have hD := hD.self (sz := s.heap.size)
  generalize hAe : va_A [(x0, .inr (10, fx)), (th, .inr (8, fth)), (as, .inl (kas, 12, .inl gas)), (ac, .inl (kac, 12, .inl gac))] s.heap.size = A at hD ⊢
  have hA : ∀ q, s.heap.size ≤ q → A q := fun q h => by rw [← hAe]; exact Or.inr h
  have hS : va_S A s.heap s.heap [] := va_S.rf
  have hl : lv_has ls 4 [(0, .ref x0), (1, .int na), (2, .int nb)] := hl
  have hown : s.vm.findClass RX10 = some m.cls := hown
  refine lv_iload_n hx hb dX10_club_0 rfl (lv_at hl 1 rfl) ?_
  refine lv_bipush (v := 12) hx hb dX10_club_1 (by decide) ?_
  refine ro_callS (n := 2) (As := [.int na, .int 12]) (rest := []) hx hb hml hown ht hK hP hS hA hE (ct_X10_isBelow l dC dI  _ na 12) gv_X10_115 rfl rfl (by decide +kernel) ⟨Nat.le_of_ble_eq_true rfl, Nat.le_of_ble_eq_true rfl⟩ rfl hl.1 (Nat.le_of_ble_eq_true rfl) ⟨Nat.le_of_ble_eq_true rfl, Nat.le_of_ble_eq_true rfl⟩ rfl dX10_club_3 (fun H locs hP hS => ?_)
  refine lv_if_eq (tgt := 18) hx hb dX10_club_6 (by decide) (fun c1 => ?_) (fun c1 => ?_)
  · refine lv_bipush (v := (-3)) hx hb dX10_club_18 (by decide) ?_
    exact W.iret hx hb hr (fun t ht9 hW => ⟨⟨_, (), rfl, (by unfold sp_X10_club; rw [if_pos c1]), trivial⟩, hS.F ht9⟩) hS.2.2 dX10_club_20
  · refine lv_iload_n hx hb dX10_club_9 rfl (lv_at hl 2 rfl) ?_
    refine lv_bipush (v := 8) hx hb dX10_club_10 (by decide) ?_
    refine ro_callS (n := 2) (As := [.int nb, .int 8]) (rest := []) hx hb hml hown ht hK hP hS hA hE (ct_X10_isBelow l dC dI  _ nb 8) gv_X10_115 rfl rfl (by decide +kernel) ⟨Nat.le_of_ble_eq_true rfl, Nat.le_of_ble_eq_true rfl⟩ rfl hl.1 (Nat.le_of_ble_eq_true rfl) ⟨Nat.le_of_ble_eq_true rfl, Nat.le_of_ble_eq_true rfl⟩ rfl dX10_club_12 (fun H locs hP hS => ?_)
    refine lv_if_ne (tgt := 21) hx hb dX10_club_15 (by decide) (fun c2 => ?_) (fun c2 => ?_)
    · refine lv_aload_n hx hb dX10_club_21 rfl (lv_at hl 0 rfl) ?_
      refine va_get (D := (dC, dI)) (ci := 10) (v := .ref th) (C := RX10) (T := TX10) (N := 7) hx hb ht inX10 hown hK hP 0 rfl rfl 1 (by decide) (ht _ kw_406) (fun _ h9 => h9) hfx_1 dX10_club_22 ?_
      refine va_get (D := (dC, dI)) (ci := 8) (v := .int 0) (C := RX8) (T := TX8) (N := 14) hx hb ht inX8 hown hK hP 1 rfl rfl 2 (by decide) (ht _ kw_87) (fun _ h9 => h9) hfth_2 dX10_club_25 ?_
      refine lv_bipush (v := 12) hx hb dX10_club_28 (by decide) ?_
      refine lv_icmp_lt (tgt := 36) hx hb dX10_club_30 (by decide) (fun c3 => ?_) (fun c3 => ?_)
      rotate_left
      · exact absurd (by decide) c3
      refine lv_aload_n hx hb dX10_club_36 rfl (lv_at hl 0 rfl) ?_
      refine va_get (D := (dC, dI)) (ci := 10) (v := .ref th) (C := RX10) (T := TX10) (N := 7) hx hb ht inX10 hown hK hP 0 rfl rfl 1 (by decide) (ht _ kw_406) (fun _ h9 => h9) hfx_1 dX10_club_37 ?_
      refine va_get (D := (dC, dI)) (ci := 8) (v := .int 0) (C := RX8) (T := TX8) (N := 14) hx hb ht inX8 hown hK hP 1 rfl rfl 2 (by decide) (ht _ kw_87) (fun _ h9 => h9) hfth_2 dX10_club_40 ?_
      refine lv_istore_n (lv' := [(3, .int 0), (0, .ref x0), (1, .int na), (2, .int nb)]) hx hb dX10_club_43 rfl hl (by decide) rfl (fun ls hl => ?_)
      refine lv_aload_n hx hb dX10_club_44 rfl (lv_at hl 1 rfl) ?_
      refine va_get (D := (dC, dI)) (ci := 10) (v := .ref th) (C := RX10) (T := TX10) (N := 7) hx hb ht inX10 hown hK hP 0 rfl rfl 1 (by decide) (ht _ kw_406) (fun _ h9 => h9) hfx_1 dX10_club_45 ?_
      refine va_get (D := (dC, dI)) (ci := 8) (v := .ref as) (C := RX8) (T := TX8) (N := 14) hx hb ht inX8 hown hK hP 1 rfl rfl 0 (by decide) (ht _ kw_80) (fun _ h9 => h9) hfth_0 dX10_club_48 ?_
      refine lv_iload_n hx hb dX10_club_51 rfl (lv_at hl 0 rfl) ?_
      refine lv_iload_n hx hb dX10_club_52 rfl (lv_at hl 2 rfl) ?_
      refine va_iast hx hb hK hP hD hS 2 0 rfl rfl (by unfold vp_in; decide) dX10_club_53 (fun H locs hP hD hS => ?_)
      generalize upd gas (0 : Int32).toNatClampNeg na = g4 at hP hD
      have hP : va_P (dC, dI) vwCl [(x0, .inr (10, fx)), (th, .inr (8, fth)), (as, .inl (kas, 12, .inl g4)), (ac, .inl (kac, 12, .inl gac))] H := hP
      have hD : va_D A [(x0, .inr (10, fx)), (th, .inr (8, fth)), (as, .inl (kas, 12, .inl g4)), (ac, .inl (kac, 12, .inl gac))] := hD
      refine lv_aload_n hx hb dX10_club_54 rfl (lv_at hl 1 rfl) ?_
      refine va_get (D := (dC, dI)) (ci := 10) (v := .ref th) (C := RX10) (T := TX10) (N := 7) hx hb ht inX10 hown hK hP 0 rfl rfl 1 (by decide) (ht _ kw_406) (fun _ h9 => h9) hfx_1 dX10_club_55 ?_
      refine va_get (D := (dC, dI)) (ci := 8) (v := .ref ac) (C := RX8) (T := TX8) (N := 14) hx hb ht inX8 hown hK hP 1 rfl rfl 1 (by decide) (ht _ kw_86) (fun _ h9 => h9) hfth_1 dX10_club_58 ?_
      refine lv_iload_n hx hb dX10_club_61 rfl (lv_at hl 0 rfl) ?_
      refine lv_iload_n hx hb dX10_club_62 rfl (lv_at hl 3 rfl) ?_
      refine va_iast hx hb hK hP hD hS 3 1 rfl rfl (by unfold vp_in; decide) dX10_club_63 (fun H locs hP hD hS => ?_)
      generalize upd gac (0 : Int32).toNatClampNeg nb = g5 at hP hD
      have hP : va_P (dC, dI) vwCl [(x0, .inr (10, fx)), (th, .inr (8, fth)), (as, .inl (kas, 12, .inl g4)), (ac, .inl (kac, 12, .inl g5))] H := hP
      have hD : va_D A [(x0, .inr (10, fx)), (th, .inr (8, fth)), (as, .inl (kas, 12, .inl g4)), (ac, .inl (kac, 12, .inl g5))] := hD
      refine lv_aload_n hx hb dX10_club_64 rfl (lv_at hl 1 rfl) ?_
      refine va_get (D := (dC, dI)) (ci := 10) (v := .ref th) (C := RX10) (T := TX10) (N := 7) hx hb ht inX10 hown hK hP 0 rfl rfl 1 (by decide) (ht _ kw_406) (fun _ h9 => h9) hfx_1 dX10_club_65 ?_
      refine lv_dup hx hb dX10_club_68 rfl ?_
      refine va_get (D := (dC, dI)) (ci := 8) (v := .int 0) (C := RX8) (T := TX8) (N := 14) hx hb ht inX8 hown hK hP 1 rfl rfl 2 (by decide) (ht _ kw_87) (fun _ h9 => h9) hfth_2 dX10_club_69 ?_
      refine lv_iconst (v := 1) hx hb dX10_club_72 (by decide) ?_
      refine lv_iadd hx hb dX10_club_73 ?_
      refine lv_topi (fun r6 er6 => ?_)
      have er6 : r6 = 1 := er6.trans (by decide)
      subst er6
      refine va_put (D := (dC, dI)) (ci := 8) (v := .int 1) (ty := .int) (C := RX8) (T := TX8) (N := 14) hx hb ht inX8 tyX8 tyX8_ok nmX8 hown hK hP hD hS 1 rfl rfl 2 (by decide) (ht _ kw_87) (fun _ h9 => h9) rfl (by decide +kernel) rfl rfl (gs_lt hn_fth (by decide)) dX10_club_74 (fun H locs hP hD hS => ?_)
      have hP : va_P (dC, dI) vwCl [(x0, .inr (10, fx)), (th, .inr (8, (fth.set 2 (.int 1)))), (as, .inl (kas, 12, .inl g4)), (ac, .inl (kac, 12, .inl g5))] H := hP
      have hD : va_D A [(x0, .inr (10, fx)), (th, .inr (8, (fth.set 2 (.int 1)))), (as, .inl (kas, 12, .inl g4)), (ac, .inl (kac, 12, .inl g5))] := hD
      refine lv_iload_n hx hb dX10_club_77 rfl (lv_at hl 0 rfl) ?_
      exact W.iret hx hb hr (fun t ht9 hW => ⟨⟨_, (), rfl, (by unfold sp_X10_club; rw [if_neg c1, if_neg c2]), trivial⟩, hS.F ht9⟩) hS.2.2 dX10_club_78
    · refine lv_bipush (v := (-3)) hx hb dX10_club_18 (by decide) ?_
      exact W.iret hx hb hr (fun t ht9 hW => ⟨⟨_, (), rfl, (by unfold sp_X10_club; rw [if_neg c1, if_pos c2]), trivial⟩, hS.F ht9⟩) hS.2.2 dX10_club_20
abbrev cX10_person : ByteArray := prog_1_method_8_code
def yX10_person : MethodName := ⟨RX10, "person", "()I"⟩
theorem dX10_person_0 : decode cX10_person 0 = .ok (.aload_n 0, 1) := by decide +kernel
theorem dX10_person_1 : decode cX10_person 1 = .ok (.getfield 19, 3) := by decide +kernel
theorem dX10_person_4 : decode cX10_person 4 = .ok (.getfield 128, 3) := by decide +kernel
theorem dX10_person_7 : decode cX10_person 7 = .ok (.sipush 200, 3) := by decide +kernel
theorem dX10_person_10 : decode cX10_person 10 = .ok (.if_icmp .lt 6, 3) := by decide +kernel
theorem dX10_person_16 : decode cX10_person 16 = .ok (.aload_n 0, 1) := by decide +kernel
theorem dX10_person_17 : decode cX10_person 17 = .ok (.getfield 19, 3) := by decide +kernel
theorem dX10_person_20 : decode cX10_person 20 = .ok (.getfield 128, 3) := by decide +kernel
theorem dX10_person_23 : decode cX10_person 23 = .ok (.istore_n 1, 1) := by decide +kernel
theorem dX10_person_24 : decode cX10_person 24 = .ok (.aload_n 0, 1) := by decide +kernel
theorem dX10_person_25 : decode cX10_person 25 = .ok (.getfield 19, 3) := by decide +kernel
theorem dX10_person_28 : decode cX10_person 28 = .ok (.getfield 131, 3) := by decide +kernel
theorem kw_90 : Cond.fieldLink RX10 131 "SportsHouse$Things" "firstSpan" "[I" ∈ lw_g := lw_at 90 (by decide +kernel) rfl
theorem dX10_person_31 : decode cX10_person 31 = .ok (.iload_n 1, 1) := by decide +kernel
theorem dX10_person_32 : decode cX10_person 32 = .ok (.iconst (-1), 1) := by decide +kernel
theorem dX10_person_33 : decode cX10_person 33 = .ok (.iastore, 1) := by decide +kernel
theorem dX10_person_34 : decode cX10_person 34 = .ok (.aload_n 0, 1) := by decide +kernel
theorem dX10_person_35 : decode cX10_person 35 = .ok (.getfield 19, 3) := by decide +kernel
theorem dX10_person_38 : decode cX10_person 38 = .ok (.dup, 1) := by decide +kernel
theorem dX10_person_39 : decode cX10_person 39 = .ok (.getfield 128, 3) := by decide +kernel
theorem dX10_person_42 : decode cX10_person 42 = .ok (.iconst 1, 1) := by decide +kernel
theorem dX10_person_43 : decode cX10_person 43 = .ok (.iadd, 1) := by decide +kernel
theorem dX10_person_44 : decode cX10_person 44 = .ok (.putfield 128, 3) := by decide +kernel
theorem dX10_person_47 : decode cX10_person 47 = .ok (.iload_n 1, 1) := by decide +kernel
theorem dX10_person_48 : decode cX10_person 48 = .ok (.ireturn, 1) := by decide +kernel
set_option maxHeartbeats 4000000 in
set_option maxRecDepth 100000 in
theorem ct_X10_person (l : Launch) (dC : Nat → ClassId) (dI : Nat → Nat → Nat) (x0 : Nat) (th : Nat) (af : Nat) (fx : List Value) (fth : List Value) (kaf : ClassId) (gaf : Nat → Int32) (hfx_1 : fx[1]? = some (.ref th)) (hn_fth : fth.length = 14) (hfth_3 : fth[3]? = some (.int 0)) (hfth_4 : fth[4]? = some (.ref af)) (sz : Nat)  : Met l yX10_person (.code yX10_person cX10_person 2 (some .int) :: lw_g) ({ frames := 2, cells := 0, slots := 0, locals := 120 }) (ro_P dC dI [(x0, .inr (10, fx)), (th, .inr (8, fth)), (af, .inl (kaf, 200, .inl gaf))] [(kaf, .int)] sz [.ref x0]) (ri_Q 0 (va_A [(x0, .inr (10, fx)), (th, .inr (8, fth)), (af, .inl (kaf, 200, .inl gaf))] sz)) 0 0 (va_A [(x0, .inr (10, fx)), (th, .inr (8, fth)), (af, .inl (kaf, 200, .inl gaf))] sz) := by
  refine ro_entry (by decide) (Nat.le_of_ble_eq_true rfl) ?_
  intro p e s m below meth c ls hx hb hr hlocks ht hown hin hml hsz hP hK hD hE hl
  subst hsz
  have hD := hD.self (sz := s.heap.size)
  generalize hAe : va_A [(x0, .inr (10, fx)), (th, .inr (8, fth)), (af, .inl (kaf, 200, .inl gaf))] s.heap.size = A at hD ⊢
  have hA : ∀ q, s.heap.size ≤ q → A q := fun q h => by rw [← hAe]; exact Or.inr h
  have hS : va_S A s.heap s.heap [] := va_S.rf
  have hl : lv_has ls 2 [(0, .ref x0)] := hl
  have hown : s.vm.findClass RX10 = some m.cls := hown
  refine lv_aload_n hx hb dX10_person_0 rfl (lv_at hl 0 rfl) ?_
  refine va_get (D := (dC, dI)) (ci := 10) (v := .ref th) (C := RX10) (T := TX10) (N := 7) hx hb ht inX10 hown hK hP 0 rfl rfl 1 (by decide) (ht _ kw_406) (fun _ h9 => h9) hfx_1 dX10_person_1 ?_
  refine va_get (D := (dC, dI)) (ci := 8) (v := .int 0) (C := RX8) (T := TX8) (N := 14) hx hb ht inX8 hown hK hP 1 rfl rfl 3 (by decide) (ht _ kw_88) (fun _ h9 => h9) hfth_3 dX10_person_4 ?_
  refine lv_sipush (v := 200) hx hb dX10_person_7 (by decide) ?_
  refine lv_icmp_lt (tgt := 16) hx hb dX10_person_10 (by decide) (fun c1 => ?_) (fun c1 => ?_)
  rotate_left
  · exact absurd (by decide) c1
  refine lv_aload_n hx hb dX10_person_16 rfl (lv_at hl 0 rfl) ?_
  refine va_get (D := (dC, dI)) (ci := 10) (v := .ref th) (C := RX10) (T := TX10) (N := 7) hx hb ht inX10 hown hK hP 0 rfl rfl 1 (by decide) (ht _ kw_406) (fun _ h9 => h9) hfx_1 dX10_person_17 ?_
  refine va_get (D := (dC, dI)) (ci := 8) (v := .int 0) (C := RX8) (T := TX8) (N := 14) hx hb ht inX8 hown hK hP 1 rfl rfl 3 (by decide) (ht _ kw_88) (fun _ h9 => h9) hfth_3 dX10_person_20 ?_
  refine lv_istore_n (lv' := [(1, .int 0), (0, .ref x0)]) hx hb dX10_person_23 rfl hl (by decide) rfl (fun ls hl => ?_)
  refine lv_aload_n hx hb dX10_person_24 rfl (lv_at hl 1 rfl) ?_
  refine va_get (D := (dC, dI)) (ci := 10) (v := .ref th) (C := RX10) (T := TX10) (N := 7) hx hb ht inX10 hown hK hP 0 rfl rfl 1 (by decide) (ht _ kw_406) (fun _ h9 => h9) hfx_1 dX10_person_25 ?_
  refine va_get (D := (dC, dI)) (ci := 8) (v := .ref af) (C := RX8) (T := TX8) (N := 14) hx hb ht inX8 hown hK hP 1 rfl rfl 4 (by decide) (ht _ kw_90) (fun _ h9 => h9) hfth_4 dX10_person_28 ?_
  refine lv_iload_n hx hb dX10_person_31 rfl (lv_at hl 0 rfl) ?_
  refine lv_iconst (v := (-1)) hx hb dX10_person_32 (by decide) ?_
  refine va_iast hx hb hK hP hD hS 2 0 rfl rfl (by unfold vp_in; decide) dX10_person_33 (fun H locs hP hD hS => ?_)
  generalize upd gaf (0 : Int32).toNatClampNeg (-1) = g2 at hP hD
  have hP : va_P (dC, dI) vwCl [(x0, .inr (10, fx)), (th, .inr (8, fth)), (af, .inl (kaf, 200, .inl g2))] H := hP
  have hD : va_D A [(x0, .inr (10, fx)), (th, .inr (8, fth)), (af, .inl (kaf, 200, .inl g2))] := hD
  refine lv_aload_n hx hb dX10_person_34 rfl (lv_at hl 1 rfl) ?_
  refine va_get (D := (dC, dI)) (ci := 10) (v := .ref th) (C := RX10) (T := TX10) (N := 7) hx hb ht inX10 hown hK hP 0 rfl rfl 1 (by decide) (ht _ kw_406) (fun _ h9 => h9) hfx_1 dX10_person_35 ?_
  refine lv_dup hx hb dX10_person_38 rfl ?_
  refine va_get (D := (dC, dI)) (ci := 8) (v := .int 0) (C := RX8) (T := TX8) (N := 14) hx hb ht inX8 hown hK hP 1 rfl rfl 3 (by decide) (ht _ kw_88) (fun _ h9 => h9) hfth_3 dX10_person_39 ?_
  refine lv_iconst (v := 1) hx hb dX10_person_42 (by decide) ?_
  refine lv_iadd hx hb dX10_person_43 ?_
  refine lv_topi (fun r3 er3 => ?_)
  have er3 : r3 = 1 := er3.trans (by decide)
  subst er3
  refine va_put (D := (dC, dI)) (ci := 8) (v := .int 1) (ty := .int) (C := RX8) (T := TX8) (N := 14) hx hb ht inX8 tyX8 tyX8_ok nmX8 hown hK hP hD hS 1 rfl rfl 3 (by decide) (ht _ kw_88) (fun _ h9 => h9) rfl (by decide +kernel) rfl rfl (gs_lt hn_fth (by decide)) dX10_person_44 (fun H locs hP hD hS => ?_)
  have hP : va_P (dC, dI) vwCl [(x0, .inr (10, fx)), (th, .inr (8, (fth.set 3 (.int 1)))), (af, .inl (kaf, 200, .inl g2))] H := hP
  have hD : va_D A [(x0, .inr (10, fx)), (th, .inr (8, (fth.set 3 (.int 1)))), (af, .inl (kaf, 200, .inl g2))] := hD
  refine lv_iload_n hx hb dX10_person_47 rfl (lv_at hl 0 rfl) ?_
  exact W.iret hx hb hr (fun t ht9 hW => ⟨⟨_, (), rfl, rfl, trivial⟩, hS.F ht9⟩) hS.2.2 dX10_person_48
abbrev cX10_official : ByteArray := prog_1_method_10_code
def yX10_official : MethodName := ⟨RX10, "official", "(II)I"⟩
theorem dX10_official_0 : decode cX10_official 0 = .ok (.iload_n 1, 1) := by decide +kernel
theorem dX10_official_1 : decode cX10_official 1 = .ok (.bipush 12, 2) := by decide +kernel
theorem dX10_official_3 : decode cX10_official 3 = .ok (.invokestatic 115, 3) := by decide +kernel
theorem dX10_official_6 : decode cX10_official 6 = .ok (.ifCond .eq 12, 3) := by decide +kernel
theorem dX10_official_18 : decode cX10_official 18 = .ok (.bipush (-3), 2) := by decide +kernel
theorem dX10_official_20 : decode cX10_official 20 = .ok (.ireturn, 1) := by decide +kernel
theorem dX10_official_9 : decode cX10_official 9 = .ok (.iload_n 2, 1) := by decide +kernel
theorem dX10_official_10 : decode cX10_official 10 = .ok (.bipush 8, 2) := by decide +kernel
theorem dX10_official_12 : decode cX10_official 12 = .ok (.invokestatic 115, 3) := by decide +kernel
theorem dX10_official_15 : decode cX10_official 15 = .ok (.ifCond .ne 6, 3) := by decide +kernel
theorem dX10_official_21 : decode cX10_official 21 = .ok (.aload_n 0, 1) := by decide +kernel
theorem dX10_official_22 : decode cX10_official 22 = .ok (.getfield 19, 3) := by decide +kernel
theorem dX10_official_25 : decode cX10_official 25 = .ok (.getfield 154, 3) := by decide +kernel
theorem dX10_official_28 : decode cX10_official 28 = .ok (.bipush 8, 2) := by decide +kernel
theorem dX10_official_30 : decode cX10_official 30 = .ok (.if_icmp .lt 6, 3) := by decide +kernel
theorem dX10_official_36 : decode cX10_official 36 = .ok (.aload_n 0, 1) := by decide +kernel
theorem dX10_official_37 : decode cX10_official 37 = .ok (.getfield 19, 3) := by decide +kernel
theorem dX10_official_40 : decode cX10_official 40 = .ok (.getfield 154, 3) := by decide +kernel
theorem dX10_official_43 : decode cX10_official 43 = .ok (.istore_n 3, 1) := by decide +kernel
theorem dX10_official_44 : decode cX10_official 44 = .ok (.aload_n 0, 1) := by decide +kernel
theorem dX10_official_45 : decode cX10_official 45 = .ok (.getfield 19, 3) := by decide +kernel
theorem dX10_official_48 : decode cX10_official 48 = .ok (.getfield 157, 3) := by decide +kernel
theorem kw_99 : Cond.fieldLink RX10 157 "SportsHouse$Things" "officialHome" "[I" ∈ lw_g := lw_at 99 (by decide +kernel) rfl
theorem dX10_official_51 : decode cX10_official 51 = .ok (.iload_n 3, 1) := by decide +kernel
theorem dX10_official_52 : decode cX10_official 52 = .ok (.iload_n 1, 1) := by decide +kernel
theorem dX10_official_53 : decode cX10_official 53 = .ok (.iastore, 1) := by decide +kernel
theorem dX10_official_54 : decode cX10_official 54 = .ok (.aload_n 0, 1) := by decide +kernel
theorem dX10_official_55 : decode cX10_official 55 = .ok (.getfield 19, 3) := by decide +kernel
theorem dX10_official_58 : decode cX10_official 58 = .ok (.getfield 160, 3) := by decide +kernel
theorem kw_102 : Cond.fieldLink RX10 160 "SportsHouse$Things" "officialCountry" "[I" ∈ lw_g := lw_at 102 (by decide +kernel) rfl
theorem dX10_official_61 : decode cX10_official 61 = .ok (.iload_n 3, 1) := by decide +kernel
theorem dX10_official_62 : decode cX10_official 62 = .ok (.iload_n 2, 1) := by decide +kernel
theorem dX10_official_63 : decode cX10_official 63 = .ok (.iastore, 1) := by decide +kernel
theorem dX10_official_64 : decode cX10_official 64 = .ok (.aload_n 0, 1) := by decide +kernel
theorem dX10_official_65 : decode cX10_official 65 = .ok (.getfield 19, 3) := by decide +kernel
theorem dX10_official_68 : decode cX10_official 68 = .ok (.dup, 1) := by decide +kernel
theorem dX10_official_69 : decode cX10_official 69 = .ok (.getfield 154, 3) := by decide +kernel
theorem dX10_official_72 : decode cX10_official 72 = .ok (.iconst 1, 1) := by decide +kernel
theorem dX10_official_73 : decode cX10_official 73 = .ok (.iadd, 1) := by decide +kernel
theorem dX10_official_74 : decode cX10_official 74 = .ok (.putfield 154, 3) := by decide +kernel
theorem dX10_official_77 : decode cX10_official 77 = .ok (.iload_n 3, 1) := by decide +kernel
theorem dX10_official_78 : decode cX10_official 78 = .ok (.ireturn, 1) := by decide +kernel
def sp_X10_official (na : Int32) (nb : Int32) : Int32 := if (sp_X10_isBelow na 12) = 0 then (-3) else if (sp_X10_isBelow nb 8) = 0 then (-3) else 0
set_option maxHeartbeats 4000000 in
set_option maxRecDepth 100000 in
theorem ct_X10_official (l : Launch) (dC : Nat → ClassId) (dI : Nat → Nat → Nat) (x0 : Nat) (th : Nat) (ao : Nat) (ap : Nat) (fx : List Value) (fth : List Value) (kao : ClassId) (gao : Nat → Int32) (kap : ClassId) (gap : Nat → Int32) (hfx_1 : fx[1]? = some (.ref th)) (hn_fth : fth.length = 14) (hfth_10 : fth[10]? = some (.ref ao)) (hfth_11 : fth[11]? = some (.ref ap)) (hfth_12 : fth[12]? = some (.int 0)) (sz : Nat) (na : Int32) (nb : Int32) : Met l yX10_official (.code yX10_official cX10_official 4 (some .int) :: lw_g) ({ frames := 2, cells := 0, slots := 0, locals := 120 }) (ro_P dC dI [(x0, .inr (10, fx)), (th, .inr (8, fth)), (ao, .inl (kao, 8, .inl gao)), (ap, .inl (kap, 8, .inl gap))] [(kao, .int), (kap, .int)] sz [.ref x0, .int na, .int nb]) (ri_Q (sp_X10_official na nb) (va_A [(x0, .inr (10, fx)), (th, .inr (8, fth)), (ao, .inl (kao, 8, .inl gao)), (ap, .inl (kap, 8, .inl gap))] sz)) 0 0 (va_A [(x0, .inr (10, fx)), (th, .inr (8, fth)), (ao, .inl (kao, 8, .inl gao)), (ap, .inl (kap, 8, .inl gap))] sz) := by
  refine ro_entry (by decide) (Nat.le_of_ble_eq_true rfl) ?_
  intro p e s m below meth c ls hx hb hr hlocks ht hown hin hml hsz hP hK hD hE hl
  subst hsz
  have hD := hD.self (sz := s.heap.size)
  generalize hAe : va_A [(x0, .inr (10, fx)), (th, .inr (8, fth)), (ao, .inl (kao, 8, .inl gao)), (ap, .inl (kap, 8, .inl gap))] s.heap.size = A at hD ⊢
  have hA : ∀ q, s.heap.size ≤ q → A q := fun q h => by rw [← hAe]; exact Or.inr h
  have hS : va_S A s.heap s.heap [] := va_S.rf
  have hl : lv_has ls 4 [(0, .ref x0), (1, .int na), (2, .int nb)] := hl
  have hown : s.vm.findClass RX10 = some m.cls := hown
  refine lv_iload_n hx hb dX10_official_0 rfl (lv_at hl 1 rfl) ?_
  refine lv_bipush (v := 12) hx hb dX10_official_1 (by decide) ?_
  refine ro_callS (n := 2) (As := [.int na, .int 12]) (rest := []) hx hb hml hown ht hK hP hS hA hE (ct_X10_isBelow l dC dI  _ na 12) gv_X10_115 rfl rfl (by decide +kernel) ⟨Nat.le_of_ble_eq_true rfl, Nat.le_of_ble_eq_true rfl⟩ rfl hl.1 (Nat.le_of_ble_eq_true rfl) ⟨Nat.le_of_ble_eq_true rfl, Nat.le_of_ble_eq_true rfl⟩ rfl dX10_official_3 (fun H locs hP hS => ?_)
  refine lv_if_eq (tgt := 18) hx hb dX10_official_6 (by decide) (fun c1 => ?_) (fun c1 => ?_)
  · refine lv_bipush (v := (-3)) hx hb dX10_official_18 (by decide) ?_
    exact W.iret hx hb hr (fun t ht9 hW => ⟨⟨_, (), rfl, (by unfold sp_X10_official; rw [if_pos c1]), trivial⟩, hS.F ht9⟩) hS.2.2 dX10_official_20
  · refine lv_iload_n hx hb dX10_official_9 rfl (lv_at hl 2 rfl) ?_
    refine lv_bipush (v := 8) hx hb dX10_official_10 (by decide) ?_
    refine ro_callS (n := 2) (As := [.int nb, .int 8]) (rest := []) hx hb hml hown ht hK hP hS hA hE (ct_X10_isBelow l dC dI  _ nb 8) gv_X10_115 rfl rfl (by decide +kernel) ⟨Nat.le_of_ble_eq_true rfl, Nat.le_of_ble_eq_true rfl⟩ rfl hl.1 (Nat.le_of_ble_eq_true rfl) ⟨Nat.le_of_ble_eq_true rfl, Nat.le_of_ble_eq_true rfl⟩ rfl dX10_official_12 (fun H locs hP hS => ?_)
    refine lv_if_ne (tgt := 21) hx hb dX10_official_15 (by decide) (fun c2 => ?_) (fun c2 => ?_)
    · refine lv_aload_n hx hb dX10_official_21 rfl (lv_at hl 0 rfl) ?_
      refine va_get (D := (dC, dI)) (ci := 10) (v := .ref th) (C := RX10) (T := TX10) (N := 7) hx hb ht inX10 hown hK hP 0 rfl rfl 1 (by decide) (ht _ kw_406) (fun _ h9 => h9) hfx_1 dX10_official_22 ?_
      refine va_get (D := (dC, dI)) (ci := 8) (v := .int 0) (C := RX8) (T := TX8) (N := 14) hx hb ht inX8 hown hK hP 1 rfl rfl 12 (by decide) (ht _ kw_104) (fun _ h9 => h9) hfth_12 dX10_official_25 ?_
      refine lv_bipush (v := 8) hx hb dX10_official_28 (by decide) ?_
      refine lv_icmp_lt (tgt := 36) hx hb dX10_official_30 (by decide) (fun c3 => ?_) (fun c3 => ?_)
      rotate_left
      · exact absurd (by decide) c3
      refine lv_aload_n hx hb dX10_official_36 rfl (lv_at hl 0 rfl) ?_
      refine va_get (D := (dC, dI)) (ci := 10) (v := .ref th) (C := RX10) (T := TX10) (N := 7) hx hb ht inX10 hown hK hP 0 rfl rfl 1 (by decide) (ht _ kw_406) (fun _ h9 => h9) hfx_1 dX10_official_37 ?_
      refine va_get (D := (dC, dI)) (ci := 8) (v := .int 0) (C := RX8) (T := TX8) (N := 14) hx hb ht inX8 hown hK hP 1 rfl rfl 12 (by decide) (ht _ kw_104) (fun _ h9 => h9) hfth_12 dX10_official_40 ?_
      refine lv_istore_n (lv' := [(3, .int 0), (0, .ref x0), (1, .int na), (2, .int nb)]) hx hb dX10_official_43 rfl hl (by decide) rfl (fun ls hl => ?_)
      refine lv_aload_n hx hb dX10_official_44 rfl (lv_at hl 1 rfl) ?_
      refine va_get (D := (dC, dI)) (ci := 10) (v := .ref th) (C := RX10) (T := TX10) (N := 7) hx hb ht inX10 hown hK hP 0 rfl rfl 1 (by decide) (ht _ kw_406) (fun _ h9 => h9) hfx_1 dX10_official_45 ?_
      refine va_get (D := (dC, dI)) (ci := 8) (v := .ref ao) (C := RX8) (T := TX8) (N := 14) hx hb ht inX8 hown hK hP 1 rfl rfl 10 (by decide) (ht _ kw_99) (fun _ h9 => h9) hfth_10 dX10_official_48 ?_
      refine lv_iload_n hx hb dX10_official_51 rfl (lv_at hl 0 rfl) ?_
      refine lv_iload_n hx hb dX10_official_52 rfl (lv_at hl 2 rfl) ?_
      refine va_iast hx hb hK hP hD hS 2 0 rfl rfl (by unfold vp_in; decide) dX10_official_53 (fun H locs hP hD hS => ?_)
      generalize upd gao (0 : Int32).toNatClampNeg na = g4 at hP hD
      have hP : va_P (dC, dI) vwCl [(x0, .inr (10, fx)), (th, .inr (8, fth)), (ao, .inl (kao, 8, .inl g4)), (ap, .inl (kap, 8, .inl gap))] H := hP
      have hD : va_D A [(x0, .inr (10, fx)), (th, .inr (8, fth)), (ao, .inl (kao, 8, .inl g4)), (ap, .inl (kap, 8, .inl gap))] := hD
      refine lv_aload_n hx hb dX10_official_54 rfl (lv_at hl 1 rfl) ?_
      refine va_get (D := (dC, dI)) (ci := 10) (v := .ref th) (C := RX10) (T := TX10) (N := 7) hx hb ht inX10 hown hK hP 0 rfl rfl 1 (by decide) (ht _ kw_406) (fun _ h9 => h9) hfx_1 dX10_official_55 ?_
      refine va_get (D := (dC, dI)) (ci := 8) (v := .ref ap) (C := RX8) (T := TX8) (N := 14) hx hb ht inX8 hown hK hP 1 rfl rfl 11 (by decide) (ht _ kw_102) (fun _ h9 => h9) hfth_11 dX10_official_58 ?_
      refine lv_iload_n hx hb dX10_official_61 rfl (lv_at hl 0 rfl) ?_
      refine lv_iload_n hx hb dX10_official_62 rfl (lv_at hl 3 rfl) ?_
      refine va_iast hx hb hK hP hD hS 3 1 rfl rfl (by unfold vp_in; decide) dX10_official_63 (fun H locs hP hD hS => ?_)
      generalize upd gap (0 : Int32).toNatClampNeg nb = g5 at hP hD
      have hP : va_P (dC, dI) vwCl [(x0, .inr (10, fx)), (th, .inr (8, fth)), (ao, .inl (kao, 8, .inl g4)), (ap, .inl (kap, 8, .inl g5))] H := hP
      have hD : va_D A [(x0, .inr (10, fx)), (th, .inr (8, fth)), (ao, .inl (kao, 8, .inl g4)), (ap, .inl (kap, 8, .inl g5))] := hD
      refine lv_aload_n hx hb dX10_official_64 rfl (lv_at hl 1 rfl) ?_
      refine va_get (D := (dC, dI)) (ci := 10) (v := .ref th) (C := RX10) (T := TX10) (N := 7) hx hb ht inX10 hown hK hP 0 rfl rfl 1 (by decide) (ht _ kw_406) (fun _ h9 => h9) hfx_1 dX10_official_65 ?_
      refine lv_dup hx hb dX10_official_68 rfl ?_
      refine va_get (D := (dC, dI)) (ci := 8) (v := .int 0) (C := RX8) (T := TX8) (N := 14) hx hb ht inX8 hown hK hP 1 rfl rfl 12 (by decide) (ht _ kw_104) (fun _ h9 => h9) hfth_12 dX10_official_69 ?_
      refine lv_iconst (v := 1) hx hb dX10_official_72 (by decide) ?_
      refine lv_iadd hx hb dX10_official_73 ?_
      refine lv_topi (fun r6 er6 => ?_)
      have er6 : r6 = 1 := er6.trans (by decide)
      subst er6
      refine va_put (D := (dC, dI)) (ci := 8) (v := .int 1) (ty := .int) (C := RX8) (T := TX8) (N := 14) hx hb ht inX8 tyX8 tyX8_ok nmX8 hown hK hP hD hS 1 rfl rfl 12 (by decide) (ht _ kw_104) (fun _ h9 => h9) rfl (by decide +kernel) rfl rfl (gs_lt hn_fth (by decide)) dX10_official_74 (fun H locs hP hD hS => ?_)
      have hP : va_P (dC, dI) vwCl [(x0, .inr (10, fx)), (th, .inr (8, (fth.set 12 (.int 1)))), (ao, .inl (kao, 8, .inl g4)), (ap, .inl (kap, 8, .inl g5))] H := hP
      have hD : va_D A [(x0, .inr (10, fx)), (th, .inr (8, (fth.set 12 (.int 1)))), (ao, .inl (kao, 8, .inl g4)), (ap, .inl (kap, 8, .inl g5))] := hD
      refine lv_iload_n hx hb dX10_official_77 rfl (lv_at hl 0 rfl) ?_
      exact W.iret hx hb hr (fun t ht9 hW => ⟨⟨_, (), rfl, (by unfold sp_X10_official; rw [if_neg c1, if_neg c2]), trivial⟩, hS.F ht9⟩) hS.2.2 dX10_official_78
    · refine lv_bipush (v := (-3)) hx hb dX10_official_18 (by decide) ?_
      exact W.iret hx hb hr (fun t ht9 hW => ⟨⟨_, (), rfl, (by unfold sp_X10_official; rw [if_neg c1, if_pos c2]), trivial⟩, hS.F ht9⟩) hS.2.2 dX10_official_20
abbrev cX10_day : ByteArray := prog_1_method_11_code
def yX10_day : MethodName := ⟨RX10, "day", "(I)I"⟩
theorem dX10_day_0 : decode cX10_day 0 = .ok (.iload_n 1, 1) := by decide +kernel
theorem dX10_day_1 : decode cX10_day 1 = .ok (.invokestatic 140, 3) := by decide +kernel
theorem kw_649 : Cond.methodLink RX10 140 yX10_isDay ∈ lw_g := lw_at 649 (by decide +kernel) rfl
theorem kw_650 : Cond.static yX10_isDay ∈ lw_g := lw_at 650 (by decide +kernel) rfl
theorem kw_651 : Cond.code yX10_isDay cX10_isDay 1 (some .boolean) ∈ lw_g := lw_at 651 (by decide +kernel) rfl
theorem gv_X10_140 : GoodIn lw_g (va_wsS RX10 140 yX10_isDay (.code yX10_isDay cX10_isDay 1 (some .boolean) :: lw_g)) := gi_S kw_649 kw_650 kw_1 kw_651
theorem dX10_day_4 : decode cX10_day 4 = .ok (.ifCond .eq 14, 3) := by decide +kernel
theorem dX10_day_18 : decode cX10_day 18 = .ok (.bipush (-3), 2) := by decide +kernel
theorem dX10_day_20 : decode cX10_day 20 = .ok (.ireturn, 1) := by decide +kernel
theorem dX10_day_7 : decode cX10_day 7 = .ok (.iload_n 1, 1) := by decide +kernel
theorem dX10_day_8 : decode cX10_day 8 = .ok (.aload_n 0, 1) := by decide +kernel
theorem dX10_day_9 : decode cX10_day 9 = .ok (.getfield 19, 3) := by decide +kernel
theorem dX10_day_12 : decode cX10_day 12 = .ok (.getfield 163, 3) := by decide +kernel
theorem dX10_day_15 : decode cX10_day 15 = .ok (.if_icmp .gt 6, 3) := by decide +kernel
theorem dX10_day_21 : decode cX10_day 21 = .ok (.aload_n 0, 1) := by decide +kernel
theorem dX10_day_22 : decode cX10_day 22 = .ok (.getfield 19, 3) := by decide +kernel
theorem dX10_day_25 : decode cX10_day 25 = .ok (.getfield 163, 3) := by decide +kernel
theorem dX10_day_28 : decode cX10_day 28 = .ok (.istore_n 2, 1) := by decide +kernel
theorem dX10_day_29 : decode cX10_day 29 = .ok (.aload_n 0, 1) := by decide +kernel
theorem dX10_day_30 : decode cX10_day 30 = .ok (.getfield 19, 3) := by decide +kernel
theorem dX10_day_33 : decode cX10_day 33 = .ok (.iload_n 1, 1) := by decide +kernel
theorem dX10_day_34 : decode cX10_day 34 = .ok (.putfield 163, 3) := by decide +kernel
theorem dX10_day_37 : decode cX10_day 37 = .ok (.iload_n 2, 1) := by decide +kernel
theorem dX10_day_38 : decode cX10_day 38 = .ok (.ireturn, 1) := by decide +kernel
def sp_X10_day (na : Int32) : Int32 := if (sp_X10_isDay na) = 0 then (-3) else if 0 < na then 0 else (-3)
set_option maxHeartbeats 4000000 in
set_option maxRecDepth 100000 in
theorem ct_X10_day (l : Launch) (dC : Nat → ClassId) (dI : Nat → Nat → Nat) (x0 : Nat) (th : Nat) (fx : List Value) (fth : List Value) (hfx_1 : fx[1]? = some (.ref th)) (hn_fth : fth.length = 14) (hfth_13 : fth[13]? = some (.int 0)) (sz : Nat) (na : Int32) : Met l yX10_day (.code yX10_day cX10_day 3 (some .int) :: lw_g) ({ frames := 2, cells := 0, slots := 0, locals := 120 }) (ro_P dC dI [(x0, .inr (10, fx)), (th, .inr (8, fth))] [] sz [.ref x0, .int na]) (ri_Q (sp_X10_day na) (va_A [(x0, .inr (10, fx)), (th, .inr (8, fth))] sz)) 0 0 (va_A [(x0, .inr (10, fx)), (th, .inr (8, fth))] sz) := by
  refine ro_entry (by decide) (Nat.le_of_ble_eq_true rfl) ?_
  intro p e s m below meth c ls hx hb hr hlocks ht hown hin hml hsz hP hK hD hE hl
  subst hsz
  have hD := hD.self (sz := s.heap.size)
  generalize hAe : va_A [(x0, .inr (10, fx)), (th, .inr (8, fth))] s.heap.size = A at hD ⊢
  have hA : ∀ q, s.heap.size ≤ q → A q := fun q h => by rw [← hAe]; exact Or.inr h
  have hS : va_S A s.heap s.heap [] := va_S.rf
  have hl : lv_has ls 3 [(0, .ref x0), (1, .int na)] := hl
  have hown : s.vm.findClass RX10 = some m.cls := hown
  refine lv_iload_n hx hb dX10_day_0 rfl (lv_at hl 1 rfl) ?_
  refine ro_callS (n := 1) (As := [.int na]) (rest := []) hx hb hml hown ht hK hP hS hA hE (ct_X10_isDay l dC dI  _ na) gv_X10_140 rfl rfl (by decide +kernel) ⟨Nat.le_of_ble_eq_true rfl, Nat.le_of_ble_eq_true rfl⟩ rfl hl.1 (Nat.le_of_ble_eq_true rfl) ⟨Nat.le_of_ble_eq_true rfl, Nat.le_of_ble_eq_true rfl⟩ rfl dX10_day_1 (fun H locs hP hS => ?_)
  refine lv_if_eq (tgt := 18) hx hb dX10_day_4 (by decide) (fun c1 => ?_) (fun c1 => ?_)
  · refine lv_bipush (v := (-3)) hx hb dX10_day_18 (by decide) ?_
    exact W.iret hx hb hr (fun t ht9 hW => ⟨⟨_, (), rfl, (by unfold sp_X10_day; rw [if_pos c1]), trivial⟩, hS.F ht9⟩) hS.2.2 dX10_day_20
  · refine lv_iload_n hx hb dX10_day_7 rfl (lv_at hl 1 rfl) ?_
    refine lv_aload_n hx hb dX10_day_8 rfl (lv_at hl 0 rfl) ?_
    refine va_get (D := (dC, dI)) (ci := 10) (v := .ref th) (C := RX10) (T := TX10) (N := 7) hx hb ht inX10 hown hK hP 0 rfl rfl 1 (by decide) (ht _ kw_406) (fun _ h9 => h9) hfx_1 dX10_day_9 ?_
    refine va_get (D := (dC, dI)) (ci := 8) (v := .int 0) (C := RX8) (T := TX8) (N := 14) hx hb ht inX8 hown hK hP 1 rfl rfl 13 (by decide) (ht _ kw_105) (fun _ h9 => h9) hfth_13 dX10_day_12 ?_
    refine lv_icmp_gt (tgt := 21) hx hb dX10_day_15 (by decide) (fun c2 => ?_) (fun c2 => ?_)
    · refine lv_aload_n hx hb dX10_day_21 rfl (lv_at hl 0 rfl) ?_
      refine va_get (D := (dC, dI)) (ci := 10) (v := .ref th) (C := RX10) (T := TX10) (N := 7) hx hb ht inX10 hown hK hP 0 rfl rfl 1 (by decide) (ht _ kw_406) (fun _ h9 => h9) hfx_1 dX10_day_22 ?_
      refine va_get (D := (dC, dI)) (ci := 8) (v := .int 0) (C := RX8) (T := TX8) (N := 14) hx hb ht inX8 hown hK hP 1 rfl rfl 13 (by decide) (ht _ kw_105) (fun _ h9 => h9) hfth_13 dX10_day_25 ?_
      refine lv_istore_n (lv' := [(2, .int 0), (0, .ref x0), (1, .int na)]) hx hb dX10_day_28 rfl hl (by decide) rfl (fun ls hl => ?_)
      refine lv_aload_n hx hb dX10_day_29 rfl (lv_at hl 1 rfl) ?_
      refine va_get (D := (dC, dI)) (ci := 10) (v := .ref th) (C := RX10) (T := TX10) (N := 7) hx hb ht inX10 hown hK hP 0 rfl rfl 1 (by decide) (ht _ kw_406) (fun _ h9 => h9) hfx_1 dX10_day_30 ?_
      refine lv_iload_n hx hb dX10_day_33 rfl (lv_at hl 2 rfl) ?_
      refine va_put (D := (dC, dI)) (ci := 8) (v := .int na) (ty := .int) (C := RX8) (T := TX8) (N := 14) hx hb ht inX8 tyX8 tyX8_ok nmX8 hown hK hP hD hS 1 rfl rfl 13 (by decide) (ht _ kw_105) (fun _ h9 => h9) rfl (by decide +kernel) rfl rfl (gs_lt hn_fth (by decide)) dX10_day_34 (fun H locs hP hD hS => ?_)
      have hP : va_P (dC, dI) vwCl [(x0, .inr (10, fx)), (th, .inr (8, (fth.set 13 (.int na))))] H := hP
      have hD : va_D A [(x0, .inr (10, fx)), (th, .inr (8, (fth.set 13 (.int na))))] := hD
      refine lv_iload_n hx hb dX10_day_37 rfl (lv_at hl 0 rfl) ?_
      exact W.iret hx hb hr (fun t ht9 hW => ⟨⟨_, (), rfl, (by unfold sp_X10_day; rw [if_neg c1, if_pos c2]), trivial⟩, hS.F ht9⟩) hS.2.2 dX10_day_38
    · refine lv_bipush (v := (-3)) hx hb dX10_day_18 (by decide) ?_
      exact W.iret hx hb hr (fun t ht9 hW => ⟨⟨_, (), rfl, (by unfold sp_X10_day; rw [if_neg c1, if_neg c2]), trivial⟩, hS.F ht9⟩) hS.2.2 dX10_day_20
abbrev cX11_sign : ByteArray := prog_13_method_6_code
def yX11_sign : MethodName := ⟨RX11, "sign", "(I)I"⟩
theorem dX11_sign_0 : decode cX11_sign 0 = .ok (.iload_n 1, 1) := by decide +kernel
theorem dX11_sign_1 : decode cX11_sign 1 = .ok (.bipush 10, 2) := by decide +kernel
theorem dX11_sign_3 : decode cX11_sign 3 = .ok (.if_icmp .eq 17, 3) := by decide +kernel
theorem dX11_sign_20 : decode cX11_sign 20 = .ok (.aload_n 0, 1) := by decide +kernel
theorem dX11_sign_21 : decode cX11_sign 21 = .ok (.getfield 252, 3) := by decide +kernel
theorem kw_1428 : Cond.fieldLink RX11 252 "SportsHouseModel" "length" "I" ∈ lw_g := lw_at 1428 (by decide +kernel) rfl
theorem dX11_sign_24 : decode cX11_sign 24 = .ok (.sipush 400, 3) := by decide +kernel
theorem dX11_sign_27 : decode cX11_sign 27 = .ok (.if_icmp .ne 6, 3) := by decide +kernel
theorem dX11_sign_33 : decode cX11_sign 33 = .ok (.aload_n 0, 1) := by decide +kernel
theorem dX11_sign_34 : decode cX11_sign 34 = .ok (.getfield 7, 3) := by decide +kernel
theorem kw_1427 : Cond.fieldLink RX11 7 "SportsHouseModel" "text" "[I" ∈ lw_g := lw_at 1427 (by decide +kernel) rfl
theorem dX11_sign_37 : decode cX11_sign 37 = .ok (.aload_n 0, 1) := by decide +kernel
theorem dX11_sign_38 : decode cX11_sign 38 = .ok (.getfield 252, 3) := by decide +kernel
theorem dX11_sign_41 : decode cX11_sign 41 = .ok (.iload_n 1, 1) := by decide +kernel
theorem dX11_sign_42 : decode cX11_sign 42 = .ok (.iastore, 1) := by decide +kernel
theorem dX11_sign_43 : decode cX11_sign 43 = .ok (.aload_n 0, 1) := by decide +kernel
theorem dX11_sign_44 : decode cX11_sign 44 = .ok (.dup, 1) := by decide +kernel
theorem dX11_sign_45 : decode cX11_sign 45 = .ok (.getfield 252, 3) := by decide +kernel
theorem dX11_sign_48 : decode cX11_sign 48 = .ok (.iconst 1, 1) := by decide +kernel
theorem dX11_sign_49 : decode cX11_sign 49 = .ok (.iadd, 1) := by decide +kernel
theorem dX11_sign_50 : decode cX11_sign 50 = .ok (.putfield 252, 3) := by decide +kernel
theorem dX11_sign_53 : decode cX11_sign 53 = .ok (.aload_n 0, 1) := by decide +kernel
theorem dX11_sign_54 : decode cX11_sign 54 = .ok (.getfield 252, 3) := by decide +kernel
theorem dX11_sign_57 : decode cX11_sign 57 = .ok (.ireturn, 1) := by decide +kernel
theorem dX11_sign_6 : decode cX11_sign 6 = .ok (.iload_n 1, 1) := by decide +kernel
theorem dX11_sign_7 : decode cX11_sign 7 = .ok (.bipush 32, 2) := by decide +kernel
theorem dX11_sign_9 : decode cX11_sign 9 = .ok (.bipush 126, 2) := by decide +kernel
theorem dX11_sign_11 : decode cX11_sign 11 = .ok (.invokestatic 255, 3) := by decide +kernel
theorem dX11_sign_14 : decode cX11_sign 14 = .ok (.ifCond .ne 6, 3) := by decide +kernel
theorem dX11_sign_17 : decode cX11_sign 17 = .ok (.bipush (-3), 2) := by decide +kernel
theorem dX11_sign_19 : decode cX11_sign 19 = .ok (.ireturn, 1) := by decide +kernel
def sp_X11_sign (na : Int32) : Int32 := if na = 10 then 1 else if (sp_X11_in na 32 126) = 0 then (-3) else 1
set_option maxHeartbeats 4000000 in
set_option maxRecDepth 100000 in
theorem ct_X11_sign (l : Launch) (dC : Nat → ClassId) (dI : Nat → Nat → Nat) (m0 : Nat) (ma : Nat) (fm : List Value) (kma : ClassId) (gma : Nat → Int32) (hn_fm : fm.length = 114) (hfm_0 : fm[0]? = some (.ref ma)) (hfm_1 : fm[1]? = some (.int 0)) (sz : Nat) (na : Int32) : Met l yX11_sign (.code yX11_sign cX11_sign 2 (some .int) :: lw_g) ({ frames := 2, cells := 0, slots := 0, locals := 120 }) (ro_P dC dI [(m0, .inr (11, fm)), (ma, .inl (kma, 400, .inl gma))] [(kma, .int)] sz [.ref m0, .int na]) (ri_Q (sp_X11_sign na) (va_A [(m0, .inr (11, fm)), (ma, .inl (kma, 400, .inl gma))] sz)) 0 0 (va_A [(m0, .inr (11, fm)), (ma, .inl (kma, 400, .inl gma))] sz) := by
  refine ro_entry (by decide) (Nat.le_of_ble_eq_true rfl) ?_
  intro p e s m below meth c ls hx hb hr hlocks ht hown hin hml hsz hP hK hD hE hl
  subst hsz
  have hD := hD.self (sz := s.heap.size)
  generalize hAe : va_A [(m0, .inr (11, fm)), (ma, .inl (kma, 400, .inl gma))] s.heap.size = A at hD ⊢
  have hA : ∀ q, s.heap.size ≤ q → A q := fun q h => by rw [← hAe]; exact Or.inr h
  have hS : va_S A s.heap s.heap [] := va_S.rf
  have hl : lv_has ls 2 [(0, .ref m0), (1, .int na)] := hl
  have hown : s.vm.findClass RX11 = some m.cls := hown
  refine lv_iload_n hx hb dX11_sign_0 rfl (lv_at hl 1 rfl) ?_
  refine lv_bipush (v := 10) hx hb dX11_sign_1 (by decide) ?_
  refine lv_icmp_eq (tgt := 20) hx hb dX11_sign_3 (by decide) (fun c1 => ?_) (fun c1 => ?_)
  · refine lv_aload_n hx hb dX11_sign_20 rfl (lv_at hl 0 rfl) ?_
    refine va_get (D := (dC, dI)) (ci := 11) (v := .int 0) (C := RX11) (T := TX11) (N := 114) hx hb ht inX11 hown hK hP 0 rfl rfl 1 (by decide) (ht _ kw_1428) (fun _ h9 => h9) hfm_1 dX11_sign_21 ?_
    refine lv_sipush (v := 400) hx hb dX11_sign_24 (by decide) ?_
    refine lv_icmp_ne (tgt := 33) hx hb dX11_sign_27 (by decide) (fun c2 => ?_) (fun c2 => ?_)
    rotate_left
    · exact absurd c2 (by decide)
    refine lv_aload_n hx hb dX11_sign_33 rfl (lv_at hl 0 rfl) ?_
    refine va_get (D := (dC, dI)) (ci := 11) (v := .ref ma) (C := RX11) (T := TX11) (N := 114) hx hb ht inX11 hown hK hP 0 rfl rfl 0 (by decide) (ht _ kw_1427) (fun _ h9 => h9) hfm_0 dX11_sign_34 ?_
    refine lv_aload_n hx hb dX11_sign_37 rfl (lv_at hl 0 rfl) ?_
    refine va_get (D := (dC, dI)) (ci := 11) (v := .int 0) (C := RX11) (T := TX11) (N := 114) hx hb ht inX11 hown hK hP 0 rfl rfl 1 (by decide) (ht _ kw_1428) (fun _ h9 => h9) hfm_1 dX11_sign_38 ?_
    refine lv_iload_n hx hb dX11_sign_41 rfl (lv_at hl 1 rfl) ?_
    refine va_iast hx hb hK hP hD hS 1 0 rfl rfl (by unfold vp_in; decide) dX11_sign_42 (fun H locs hP hD hS => ?_)
    generalize upd gma (0 : Int32).toNatClampNeg na = g3 at hP hD
    have hP : va_P (dC, dI) vwCl [(m0, .inr (11, fm)), (ma, .inl (kma, 400, .inl g3))] H := hP
    have hD : va_D A [(m0, .inr (11, fm)), (ma, .inl (kma, 400, .inl g3))] := hD
    refine lv_aload_n hx hb dX11_sign_43 rfl (lv_at hl 0 rfl) ?_
    refine lv_dup hx hb dX11_sign_44 rfl ?_
    refine va_get (D := (dC, dI)) (ci := 11) (v := .int 0) (C := RX11) (T := TX11) (N := 114) hx hb ht inX11 hown hK hP 0 rfl rfl 1 (by decide) (ht _ kw_1428) (fun _ h9 => h9) hfm_1 dX11_sign_45 ?_
    refine lv_iconst (v := 1) hx hb dX11_sign_48 (by decide) ?_
    refine lv_iadd hx hb dX11_sign_49 ?_
    refine lv_topi (fun r4 er4 => ?_)
    have er4 : r4 = 1 := er4.trans (by decide)
    subst er4
    refine va_put (D := (dC, dI)) (ci := 11) (v := .int 1) (ty := .int) (C := RX11) (T := TX11) (N := 114) hx hb ht inX11 tyX11 tyX11_ok nmX11 hown hK hP hD hS 0 rfl rfl 1 (by decide) (ht _ kw_1428) (fun _ h9 => h9) rfl (by decide +kernel) rfl rfl (gs_lt hn_fm (by decide)) dX11_sign_50 (fun H locs hP hD hS => ?_)
    have hP : va_P (dC, dI) vwCl [(m0, .inr (11, (fm.set 1 (.int 1)))), (ma, .inl (kma, 400, .inl g3))] H := hP
    have hD : va_D A [(m0, .inr (11, (fm.set 1 (.int 1)))), (ma, .inl (kma, 400, .inl g3))] := hD
    refine lv_aload_n hx hb dX11_sign_53 rfl (lv_at hl 0 rfl) ?_
    refine va_get (D := (dC, dI)) (ci := 11) (v := .int 1) (C := RX11) (T := TX11) (N := 114) hx hb ht inX11 hown hK hP 0 rfl rfl 1 (by decide) (ht _ kw_1428) (fun _ h9 => h9) (gs_eq (gs_lt hn_fm (by decide))) dX11_sign_54 ?_
    exact W.iret hx hb hr (fun t ht9 hW => ⟨⟨_, (), rfl, (by unfold sp_X11_sign; rw [if_pos c1]), trivial⟩, hS.F ht9⟩) hS.2.2 dX11_sign_57
  · refine lv_iload_n hx hb dX11_sign_6 rfl (lv_at hl 1 rfl) ?_
    refine lv_bipush (v := 32) hx hb dX11_sign_7 (by decide) ?_
    refine lv_bipush (v := 126) hx hb dX11_sign_9 (by decide) ?_
    refine ro_callS (n := 3) (As := [.int na, .int 32, .int 126]) (rest := []) hx hb hml hown ht hK hP hS hA hE (ct_X11_in l dC dI  _ na 32 126) gv_X11_255 rfl rfl (by decide +kernel) ⟨Nat.le_of_ble_eq_true rfl, Nat.le_of_ble_eq_true rfl⟩ rfl hl.1 (Nat.le_of_ble_eq_true rfl) ⟨Nat.le_of_ble_eq_true rfl, Nat.le_of_ble_eq_true rfl⟩ rfl dX11_sign_11 (fun H locs hP hS => ?_)
    refine lv_if_ne (tgt := 20) hx hb dX11_sign_14 (by decide) (fun c5 => ?_) (fun c5 => ?_)
    · refine lv_aload_n hx hb dX11_sign_20 rfl (lv_at hl 0 rfl) ?_
      refine va_get (D := (dC, dI)) (ci := 11) (v := .int 0) (C := RX11) (T := TX11) (N := 114) hx hb ht inX11 hown hK hP 0 rfl rfl 1 (by decide) (ht _ kw_1428) (fun _ h9 => h9) hfm_1 dX11_sign_21 ?_
      refine lv_sipush (v := 400) hx hb dX11_sign_24 (by decide) ?_
      refine lv_icmp_ne (tgt := 33) hx hb dX11_sign_27 (by decide) (fun c6 => ?_) (fun c6 => ?_)
      rotate_left
      · exact absurd c6 (by decide)
      refine lv_aload_n hx hb dX11_sign_33 rfl (lv_at hl 0 rfl) ?_
      refine va_get (D := (dC, dI)) (ci := 11) (v := .ref ma) (C := RX11) (T := TX11) (N := 114) hx hb ht inX11 hown hK hP 0 rfl rfl 0 (by decide) (ht _ kw_1427) (fun _ h9 => h9) hfm_0 dX11_sign_34 ?_
      refine lv_aload_n hx hb dX11_sign_37 rfl (lv_at hl 0 rfl) ?_
      refine va_get (D := (dC, dI)) (ci := 11) (v := .int 0) (C := RX11) (T := TX11) (N := 114) hx hb ht inX11 hown hK hP 0 rfl rfl 1 (by decide) (ht _ kw_1428) (fun _ h9 => h9) hfm_1 dX11_sign_38 ?_
      refine lv_iload_n hx hb dX11_sign_41 rfl (lv_at hl 1 rfl) ?_
      refine va_iast hx hb hK hP hD hS 1 0 rfl rfl (by unfold vp_in; decide) dX11_sign_42 (fun H locs hP hD hS => ?_)
      generalize upd gma (0 : Int32).toNatClampNeg na = g7 at hP hD
      have hP : va_P (dC, dI) vwCl [(m0, .inr (11, fm)), (ma, .inl (kma, 400, .inl g7))] H := hP
      have hD : va_D A [(m0, .inr (11, fm)), (ma, .inl (kma, 400, .inl g7))] := hD
      refine lv_aload_n hx hb dX11_sign_43 rfl (lv_at hl 0 rfl) ?_
      refine lv_dup hx hb dX11_sign_44 rfl ?_
      refine va_get (D := (dC, dI)) (ci := 11) (v := .int 0) (C := RX11) (T := TX11) (N := 114) hx hb ht inX11 hown hK hP 0 rfl rfl 1 (by decide) (ht _ kw_1428) (fun _ h9 => h9) hfm_1 dX11_sign_45 ?_
      refine lv_iconst (v := 1) hx hb dX11_sign_48 (by decide) ?_
      refine lv_iadd hx hb dX11_sign_49 ?_
      refine lv_topi (fun r8 er8 => ?_)
      have er8 : r8 = 1 := er8.trans (by decide)
      subst er8
      refine va_put (D := (dC, dI)) (ci := 11) (v := .int 1) (ty := .int) (C := RX11) (T := TX11) (N := 114) hx hb ht inX11 tyX11 tyX11_ok nmX11 hown hK hP hD hS 0 rfl rfl 1 (by decide) (ht _ kw_1428) (fun _ h9 => h9) rfl (by decide +kernel) rfl rfl (gs_lt hn_fm (by decide)) dX11_sign_50 (fun H locs hP hD hS => ?_)
      have hP : va_P (dC, dI) vwCl [(m0, .inr (11, (fm.set 1 (.int 1)))), (ma, .inl (kma, 400, .inl g7))] H := hP
      have hD : va_D A [(m0, .inr (11, (fm.set 1 (.int 1)))), (ma, .inl (kma, 400, .inl g7))] := hD
      refine lv_aload_n hx hb dX11_sign_53 rfl (lv_at hl 0 rfl) ?_
      refine va_get (D := (dC, dI)) (ci := 11) (v := .int 1) (C := RX11) (T := TX11) (N := 114) hx hb ht inX11 hown hK hP 0 rfl rfl 1 (by decide) (ht _ kw_1428) (fun _ h9 => h9) (gs_eq (gs_lt hn_fm (by decide))) dX11_sign_54 ?_
      exact W.iret hx hb hr (fun t ht9 hW => ⟨⟨_, (), rfl, (by unfold sp_X11_sign; rw [if_neg c1, if_neg c5]), trivial⟩, hS.F ht9⟩) hS.2.2 dX11_sign_57
    · refine lv_bipush (v := (-3)) hx hb dX11_sign_17 (by decide) ?_
      exact W.iret hx hb hr (fun t ht9 hW => ⟨⟨_, (), rfl, (by unfold sp_X11_sign; rw [if_neg c1, if_pos c5]), trivial⟩, hS.F ht9⟩) hS.2.2 dX11_sign_19
abbrev cX11_wipe : ByteArray := prog_13_method_7_code
def yX11_wipe : MethodName := ⟨RX11, "wipe", "()I"⟩
theorem dX11_wipe_0 : decode cX11_wipe 0 = .ok (.aload_n 0, 1) := by decide +kernel
theorem dX11_wipe_1 : decode cX11_wipe 1 = .ok (.getfield 252, 3) := by decide +kernel
theorem dX11_wipe_4 : decode cX11_wipe 4 = .ok (.istore_n 1, 1) := by decide +kernel
theorem dX11_wipe_5 : decode cX11_wipe 5 = .ok (.aload_n 0, 1) := by decide +kernel
theorem dX11_wipe_6 : decode cX11_wipe 6 = .ok (.iconst 0, 1) := by decide +kernel
theorem dX11_wipe_7 : decode cX11_wipe 7 = .ok (.putfield 252, 3) := by decide +kernel
theorem dX11_wipe_10 : decode cX11_wipe 10 = .ok (.iload_n 1, 1) := by decide +kernel
theorem dX11_wipe_11 : decode cX11_wipe 11 = .ok (.ireturn, 1) := by decide +kernel
set_option maxHeartbeats 4000000 in
set_option maxRecDepth 100000 in
theorem ct_X11_wipe (l : Launch) (dC : Nat → ClassId) (dI : Nat → Nat → Nat) (m0 : Nat) (fm : List Value) (hn_fm : fm.length = 114) (hfm_1 : fm[1]? = some (.int 0)) (sz : Nat)  : Met l yX11_wipe (.code yX11_wipe cX11_wipe 2 (some .int) :: lw_g) ({ frames := 2, cells := 0, slots := 0, locals := 120 }) (ro_P dC dI [(m0, .inr (11, fm))] [] sz [.ref m0]) (ri_Q 0 (va_A [(m0, .inr (11, fm))] sz)) 0 0 (va_A [(m0, .inr (11, fm))] sz) := by
  refine ro_entry (by decide) (Nat.le_of_ble_eq_true rfl) ?_
  intro p e s m below meth c ls hx hb hr hlocks ht hown hin hml hsz hP hK hD hE hl
  subst hsz
  have hD := hD.self (sz := s.heap.size)
  generalize hAe : va_A [(m0, .inr (11, fm))] s.heap.size = A at hD ⊢
  have hA : ∀ q, s.heap.size ≤ q → A q := fun q h => by rw [← hAe]; exact Or.inr h
  have hS : va_S A s.heap s.heap [] := va_S.rf
  have hl : lv_has ls 2 [(0, .ref m0)] := hl
  have hown : s.vm.findClass RX11 = some m.cls := hown
  refine lv_aload_n hx hb dX11_wipe_0 rfl (lv_at hl 0 rfl) ?_
  refine va_get (D := (dC, dI)) (ci := 11) (v := .int 0) (C := RX11) (T := TX11) (N := 114) hx hb ht inX11 hown hK hP 0 rfl rfl 1 (by decide) (ht _ kw_1428) (fun _ h9 => h9) hfm_1 dX11_wipe_1 ?_
  refine lv_istore_n (lv' := [(1, .int 0), (0, .ref m0)]) hx hb dX11_wipe_4 rfl hl (by decide) rfl (fun ls hl => ?_)
  refine lv_aload_n hx hb dX11_wipe_5 rfl (lv_at hl 1 rfl) ?_
  refine lv_iconst (v := 0) hx hb dX11_wipe_6 (by decide) ?_
  refine va_put (D := (dC, dI)) (ci := 11) (v := .int 0) (ty := .int) (C := RX11) (T := TX11) (N := 114) hx hb ht inX11 tyX11 tyX11_ok nmX11 hown hK hP hD hS 0 rfl rfl 1 (by decide) (ht _ kw_1428) (fun _ h9 => h9) rfl (by decide +kernel) rfl rfl (gs_lt hn_fm (by decide)) dX11_wipe_7 (fun H locs hP hD hS => ?_)
  have hP : va_P (dC, dI) vwCl [(m0, .inr (11, (fm.set 1 (.int 0))))] H := hP
  have hD : va_D A [(m0, .inr (11, (fm.set 1 (.int 0))))] := hD
  refine lv_iload_n hx hb dX11_wipe_10 rfl (lv_at hl 0 rfl) ?_
  exact W.iret hx hb hr (fun t ht9 hW => ⟨⟨_, (), rfl, rfl, trivial⟩, hS.F ht9⟩) hS.2.2 dX11_wipe_11
abbrev cX11_club : ByteArray := prog_13_method_21_code
def yX11_club : MethodName := ⟨RX11, "club", "(II)I"⟩
theorem dX11_club_0 : decode cX11_club 0 = .ok (.iload_n 1, 1) := by decide +kernel
theorem dX11_club_1 : decode cX11_club 1 = .ok (.iconst 0, 1) := by decide +kernel
theorem dX11_club_2 : decode cX11_club 2 = .ok (.bipush 11, 2) := by decide +kernel
theorem dX11_club_4 : decode cX11_club 4 = .ok (.invokestatic 255, 3) := by decide +kernel
theorem dX11_club_7 : decode cX11_club 7 = .ok (.ifCond .eq 13, 3) := by decide +kernel
theorem dX11_club_20 : decode cX11_club 20 = .ok (.bipush (-3), 2) := by decide +kernel
theorem dX11_club_22 : decode cX11_club 22 = .ok (.ireturn, 1) := by decide +kernel
theorem dX11_club_10 : decode cX11_club 10 = .ok (.iload_n 2, 1) := by decide +kernel
theorem dX11_club_11 : decode cX11_club 11 = .ok (.iconst 0, 1) := by decide +kernel
theorem dX11_club_12 : decode cX11_club 12 = .ok (.bipush 7, 2) := by decide +kernel
theorem dX11_club_14 : decode cX11_club 14 = .ok (.invokestatic 255, 3) := by decide +kernel
theorem dX11_club_17 : decode cX11_club 17 = .ok (.ifCond .ne 6, 3) := by decide +kernel
theorem dX11_club_23 : decode cX11_club 23 = .ok (.aload_n 0, 1) := by decide +kernel
theorem dX11_club_24 : decode cX11_club 24 = .ok (.getfield 325, 3) := by decide +kernel
theorem dX11_club_27 : decode cX11_club 27 = .ok (.bipush 12, 2) := by decide +kernel
theorem dX11_club_29 : decode cX11_club 29 = .ok (.if_icmp .ne 6, 3) := by decide +kernel
theorem dX11_club_35 : decode cX11_club 35 = .ok (.aload_n 0, 1) := by decide +kernel
theorem dX11_club_36 : decode cX11_club 36 = .ok (.getfield 39, 3) := by decide +kernel
theorem kw_1440 : Cond.fieldLink RX11 39 "SportsHouseModel" "stadiums" "[I" ∈ lw_g := lw_at 1440 (by decide +kernel) rfl
theorem dX11_club_39 : decode cX11_club 39 = .ok (.aload_n 0, 1) := by decide +kernel
theorem dX11_club_40 : decode cX11_club 40 = .ok (.getfield 325, 3) := by decide +kernel
theorem dX11_club_43 : decode cX11_club 43 = .ok (.iload_n 1, 1) := by decide +kernel
theorem dX11_club_44 : decode cX11_club 44 = .ok (.iastore, 1) := by decide +kernel
theorem dX11_club_45 : decode cX11_club 45 = .ok (.aload_n 0, 1) := by decide +kernel
theorem dX11_club_46 : decode cX11_club 46 = .ok (.getfield 42, 3) := by decide +kernel
theorem kw_1441 : Cond.fieldLink RX11 42 "SportsHouseModel" "countries" "[I" ∈ lw_g := lw_at 1441 (by decide +kernel) rfl
theorem dX11_club_49 : decode cX11_club 49 = .ok (.aload_n 0, 1) := by decide +kernel
theorem dX11_club_50 : decode cX11_club 50 = .ok (.getfield 325, 3) := by decide +kernel
theorem dX11_club_53 : decode cX11_club 53 = .ok (.iload_n 2, 1) := by decide +kernel
theorem dX11_club_54 : decode cX11_club 54 = .ok (.iastore, 1) := by decide +kernel
theorem dX11_club_55 : decode cX11_club 55 = .ok (.aload_n 0, 1) := by decide +kernel
theorem dX11_club_56 : decode cX11_club 56 = .ok (.dup, 1) := by decide +kernel
theorem dX11_club_57 : decode cX11_club 57 = .ok (.getfield 325, 3) := by decide +kernel
theorem dX11_club_60 : decode cX11_club 60 = .ok (.iconst 1, 1) := by decide +kernel
theorem dX11_club_61 : decode cX11_club 61 = .ok (.iadd, 1) := by decide +kernel
theorem dX11_club_62 : decode cX11_club 62 = .ok (.putfield 325, 3) := by decide +kernel
theorem dX11_club_65 : decode cX11_club 65 = .ok (.aload_n 0, 1) := by decide +kernel
theorem dX11_club_66 : decode cX11_club 66 = .ok (.getfield 325, 3) := by decide +kernel
theorem dX11_club_69 : decode cX11_club 69 = .ok (.iconst 1, 1) := by decide +kernel
theorem dX11_club_70 : decode cX11_club 70 = .ok (.isub, 1) := by decide +kernel
theorem dX11_club_71 : decode cX11_club 71 = .ok (.ireturn, 1) := by decide +kernel
def sp_X11_club (na : Int32) (nb : Int32) : Int32 := if (sp_X11_in na 0 11) = 0 then (-3) else if (sp_X11_in nb 0 7) = 0 then (-3) else 0
set_option maxHeartbeats 4000000 in
set_option maxRecDepth 100000 in
theorem ct_X11_club (l : Launch) (dC : Nat → ClassId) (dI : Nat → Nat → Nat) (m0 : Nat) (me : Nat) (mf : Nat) (fm : List Value) (kme : ClassId) (gme : Nat → Int32) (kmf : ClassId) (gmf : Nat → Int32) (hn_fm : fm.length = 114) (hfm_12 : fm[12]? = some (.int 0)) (hfm_13 : fm[13]? = some (.ref me)) (hfm_14 : fm[14]? = some (.ref mf)) (sz : Nat) (na : Int32) (nb : Int32) : Met l yX11_club (.code yX11_club cX11_club 3 (some .int) :: lw_g) ({ frames := 2, cells := 0, slots := 0, locals := 120 }) (ro_P dC dI [(m0, .inr (11, fm)), (me, .inl (kme, 12, .inl gme)), (mf, .inl (kmf, 12, .inl gmf))] [(kme, .int), (kmf, .int)] sz [.ref m0, .int na, .int nb]) (ri_Q (sp_X11_club na nb) (va_A [(m0, .inr (11, fm)), (me, .inl (kme, 12, .inl gme)), (mf, .inl (kmf, 12, .inl gmf))] sz)) 0 0 (va_A [(m0, .inr (11, fm)), (me, .inl (kme, 12, .inl gme)), (mf, .inl (kmf, 12, .inl gmf))] sz) := by
  refine ro_entry (by decide) (Nat.le_of_ble_eq_true rfl) ?_
  intro p e s m below meth c ls hx hb hr hlocks ht hown hin hml hsz hP hK hD hE hl
  subst hsz
  have hD := hD.self (sz := s.heap.size)
  generalize hAe : va_A [(m0, .inr (11, fm)), (me, .inl (kme, 12, .inl gme)), (mf, .inl (kmf, 12, .inl gmf))] s.heap.size = A at hD ⊢
  have hA : ∀ q, s.heap.size ≤ q → A q := fun q h => by rw [← hAe]; exact Or.inr h
  have hS : va_S A s.heap s.heap [] := va_S.rf
  have hl : lv_has ls 3 [(0, .ref m0), (1, .int na), (2, .int nb)] := hl
  have hown : s.vm.findClass RX11 = some m.cls := hown
  refine lv_iload_n hx hb dX11_club_0 rfl (lv_at hl 1 rfl) ?_
  refine lv_iconst (v := 0) hx hb dX11_club_1 (by decide) ?_
  refine lv_bipush (v := 11) hx hb dX11_club_2 (by decide) ?_
  refine ro_callS (n := 3) (As := [.int na, .int 0, .int 11]) (rest := []) hx hb hml hown ht hK hP hS hA hE (ct_X11_in l dC dI  _ na 0 11) gv_X11_255 rfl rfl (by decide +kernel) ⟨Nat.le_of_ble_eq_true rfl, Nat.le_of_ble_eq_true rfl⟩ rfl hl.1 (Nat.le_of_ble_eq_true rfl) ⟨Nat.le_of_ble_eq_true rfl, Nat.le_of_ble_eq_true rfl⟩ rfl dX11_club_4 (fun H locs hP hS => ?_)
  refine lv_if_eq (tgt := 20) hx hb dX11_club_7 (by decide) (fun c1 => ?_) (fun c1 => ?_)
  · refine lv_bipush (v := (-3)) hx hb dX11_club_20 (by decide) ?_
    exact W.iret hx hb hr (fun t ht9 hW => ⟨⟨_, (), rfl, (by unfold sp_X11_club; rw [if_pos c1]), trivial⟩, hS.F ht9⟩) hS.2.2 dX11_club_22
  · refine lv_iload_n hx hb dX11_club_10 rfl (lv_at hl 2 rfl) ?_
    refine lv_iconst (v := 0) hx hb dX11_club_11 (by decide) ?_
    refine lv_bipush (v := 7) hx hb dX11_club_12 (by decide) ?_
    refine ro_callS (n := 3) (As := [.int nb, .int 0, .int 7]) (rest := []) hx hb hml hown ht hK hP hS hA hE (ct_X11_in l dC dI  _ nb 0 7) gv_X11_255 rfl rfl (by decide +kernel) ⟨Nat.le_of_ble_eq_true rfl, Nat.le_of_ble_eq_true rfl⟩ rfl hl.1 (Nat.le_of_ble_eq_true rfl) ⟨Nat.le_of_ble_eq_true rfl, Nat.le_of_ble_eq_true rfl⟩ rfl dX11_club_14 (fun H locs hP hS => ?_)
    refine lv_if_ne (tgt := 23) hx hb dX11_club_17 (by decide) (fun c2 => ?_) (fun c2 => ?_)
    · refine lv_aload_n hx hb dX11_club_23 rfl (lv_at hl 0 rfl) ?_
      refine va_get (D := (dC, dI)) (ci := 11) (v := .int 0) (C := RX11) (T := TX11) (N := 114) hx hb ht inX11 hown hK hP 0 rfl rfl 12 (by decide) (ht _ kw_1439) (fun _ h9 => h9) hfm_12 dX11_club_24 ?_
      refine lv_bipush (v := 12) hx hb dX11_club_27 (by decide) ?_
      refine lv_icmp_ne (tgt := 35) hx hb dX11_club_29 (by decide) (fun c3 => ?_) (fun c3 => ?_)
      rotate_left
      · exact absurd c3 (by decide)
      refine lv_aload_n hx hb dX11_club_35 rfl (lv_at hl 0 rfl) ?_
      refine va_get (D := (dC, dI)) (ci := 11) (v := .ref me) (C := RX11) (T := TX11) (N := 114) hx hb ht inX11 hown hK hP 0 rfl rfl 13 (by decide) (ht _ kw_1440) (fun _ h9 => h9) hfm_13 dX11_club_36 ?_
      refine lv_aload_n hx hb dX11_club_39 rfl (lv_at hl 0 rfl) ?_
      refine va_get (D := (dC, dI)) (ci := 11) (v := .int 0) (C := RX11) (T := TX11) (N := 114) hx hb ht inX11 hown hK hP 0 rfl rfl 12 (by decide) (ht _ kw_1439) (fun _ h9 => h9) hfm_12 dX11_club_40 ?_
      refine lv_iload_n hx hb dX11_club_43 rfl (lv_at hl 1 rfl) ?_
      refine va_iast hx hb hK hP hD hS 1 0 rfl rfl (by unfold vp_in; decide) dX11_club_44 (fun H locs hP hD hS => ?_)
      generalize upd gme (0 : Int32).toNatClampNeg na = g4 at hP hD
      have hP : va_P (dC, dI) vwCl [(m0, .inr (11, fm)), (me, .inl (kme, 12, .inl g4)), (mf, .inl (kmf, 12, .inl gmf))] H := hP
      have hD : va_D A [(m0, .inr (11, fm)), (me, .inl (kme, 12, .inl g4)), (mf, .inl (kmf, 12, .inl gmf))] := hD
      refine lv_aload_n hx hb dX11_club_45 rfl (lv_at hl 0 rfl) ?_
      refine va_get (D := (dC, dI)) (ci := 11) (v := .ref mf) (C := RX11) (T := TX11) (N := 114) hx hb ht inX11 hown hK hP 0 rfl rfl 14 (by decide) (ht _ kw_1441) (fun _ h9 => h9) hfm_14 dX11_club_46 ?_
      refine lv_aload_n hx hb dX11_club_49 rfl (lv_at hl 0 rfl) ?_
      refine va_get (D := (dC, dI)) (ci := 11) (v := .int 0) (C := RX11) (T := TX11) (N := 114) hx hb ht inX11 hown hK hP 0 rfl rfl 12 (by decide) (ht _ kw_1439) (fun _ h9 => h9) hfm_12 dX11_club_50 ?_
      refine lv_iload_n hx hb dX11_club_53 rfl (lv_at hl 2 rfl) ?_
      refine va_iast hx hb hK hP hD hS 2 1 rfl rfl (by unfold vp_in; decide) dX11_club_54 (fun H locs hP hD hS => ?_)
      generalize upd gmf (0 : Int32).toNatClampNeg nb = g5 at hP hD
      have hP : va_P (dC, dI) vwCl [(m0, .inr (11, fm)), (me, .inl (kme, 12, .inl g4)), (mf, .inl (kmf, 12, .inl g5))] H := hP
      have hD : va_D A [(m0, .inr (11, fm)), (me, .inl (kme, 12, .inl g4)), (mf, .inl (kmf, 12, .inl g5))] := hD
      refine lv_aload_n hx hb dX11_club_55 rfl (lv_at hl 0 rfl) ?_
      refine lv_dup hx hb dX11_club_56 rfl ?_
      refine va_get (D := (dC, dI)) (ci := 11) (v := .int 0) (C := RX11) (T := TX11) (N := 114) hx hb ht inX11 hown hK hP 0 rfl rfl 12 (by decide) (ht _ kw_1439) (fun _ h9 => h9) hfm_12 dX11_club_57 ?_
      refine lv_iconst (v := 1) hx hb dX11_club_60 (by decide) ?_
      refine lv_iadd hx hb dX11_club_61 ?_
      refine lv_topi (fun r6 er6 => ?_)
      have er6 : r6 = 1 := er6.trans (by decide)
      subst er6
      refine va_put (D := (dC, dI)) (ci := 11) (v := .int 1) (ty := .int) (C := RX11) (T := TX11) (N := 114) hx hb ht inX11 tyX11 tyX11_ok nmX11 hown hK hP hD hS 0 rfl rfl 12 (by decide) (ht _ kw_1439) (fun _ h9 => h9) rfl (by decide +kernel) rfl rfl (gs_lt hn_fm (by decide)) dX11_club_62 (fun H locs hP hD hS => ?_)
      have hP : va_P (dC, dI) vwCl [(m0, .inr (11, (fm.set 12 (.int 1)))), (me, .inl (kme, 12, .inl g4)), (mf, .inl (kmf, 12, .inl g5))] H := hP
      have hD : va_D A [(m0, .inr (11, (fm.set 12 (.int 1)))), (me, .inl (kme, 12, .inl g4)), (mf, .inl (kmf, 12, .inl g5))] := hD
      refine lv_aload_n hx hb dX11_club_65 rfl (lv_at hl 0 rfl) ?_
      refine va_get (D := (dC, dI)) (ci := 11) (v := .int 1) (C := RX11) (T := TX11) (N := 114) hx hb ht inX11 hown hK hP 0 rfl rfl 12 (by decide) (ht _ kw_1439) (fun _ h9 => h9) (gs_eq (gs_lt hn_fm (by decide))) dX11_club_66 ?_
      refine lv_iconst (v := 1) hx hb dX11_club_69 (by decide) ?_
      refine lv_isub hx hb dX11_club_70 ?_
      refine lv_topi (fun r7 er7 => ?_)
      have er7 : r7 = 0 := er7.trans (by decide)
      subst er7
      exact W.iret hx hb hr (fun t ht9 hW => ⟨⟨_, (), rfl, (by unfold sp_X11_club; rw [if_neg c1, if_neg c2]), trivial⟩, hS.F ht9⟩) hS.2.2 dX11_club_71
    · refine lv_bipush (v := (-3)) hx hb dX11_club_20 (by decide) ?_
      exact W.iret hx hb hr (fun t ht9 hW => ⟨⟨_, (), rfl, (by unfold sp_X11_club; rw [if_neg c1, if_pos c2]), trivial⟩, hS.F ht9⟩) hS.2.2 dX11_club_22
abbrev cX11_person : ByteArray := prog_13_method_22_code
def yX11_person : MethodName := ⟨RX11, "person", "()I"⟩
theorem dX11_person_0 : decode cX11_person 0 = .ok (.aload_n 0, 1) := by decide +kernel
theorem dX11_person_1 : decode cX11_person 1 = .ok (.getfield 328, 3) := by decide +kernel
theorem dX11_person_4 : decode cX11_person 4 = .ok (.sipush 200, 3) := by decide +kernel
theorem dX11_person_7 : decode cX11_person 7 = .ok (.if_icmp .ne 6, 3) := by decide +kernel
theorem dX11_person_13 : decode cX11_person 13 = .ok (.aload_n 0, 1) := by decide +kernel
theorem dX11_person_14 : decode cX11_person 14 = .ok (.dup, 1) := by decide +kernel
theorem dX11_person_15 : decode cX11_person 15 = .ok (.getfield 328, 3) := by decide +kernel
theorem dX11_person_18 : decode cX11_person 18 = .ok (.iconst 1, 1) := by decide +kernel
theorem dX11_person_19 : decode cX11_person 19 = .ok (.iadd, 1) := by decide +kernel
theorem dX11_person_20 : decode cX11_person 20 = .ok (.putfield 328, 3) := by decide +kernel
theorem dX11_person_23 : decode cX11_person 23 = .ok (.aload_n 0, 1) := by decide +kernel
theorem dX11_person_24 : decode cX11_person 24 = .ok (.getfield 328, 3) := by decide +kernel
theorem dX11_person_27 : decode cX11_person 27 = .ok (.iconst 1, 1) := by decide +kernel
theorem dX11_person_28 : decode cX11_person 28 = .ok (.isub, 1) := by decide +kernel
theorem dX11_person_29 : decode cX11_person 29 = .ok (.ireturn, 1) := by decide +kernel
set_option maxHeartbeats 4000000 in
set_option maxRecDepth 100000 in
theorem ct_X11_person (l : Launch) (dC : Nat → ClassId) (dI : Nat → Nat → Nat) (m0 : Nat) (fm : List Value) (hn_fm : fm.length = 114) (hfm_15 : fm[15]? = some (.int 0)) (sz : Nat)  : Met l yX11_person (.code yX11_person cX11_person 1 (some .int) :: lw_g) ({ frames := 2, cells := 0, slots := 0, locals := 120 }) (ro_P dC dI [(m0, .inr (11, fm))] [] sz [.ref m0]) (ri_Q 0 (va_A [(m0, .inr (11, fm))] sz)) 0 0 (va_A [(m0, .inr (11, fm))] sz) := by
  refine ro_entry (by decide) (Nat.le_of_ble_eq_true rfl) ?_
  intro p e s m below meth c ls hx hb hr hlocks ht hown hin hml hsz hP hK hD hE hl
  subst hsz
  have hD := hD.self (sz := s.heap.size)
  generalize hAe : va_A [(m0, .inr (11, fm))] s.heap.size = A at hD ⊢
  have hA : ∀ q, s.heap.size ≤ q → A q := fun q h => by rw [← hAe]; exact Or.inr h
  have hS : va_S A s.heap s.heap [] := va_S.rf
  have hl : lv_has ls 1 [(0, .ref m0)] := hl
  have hown : s.vm.findClass RX11 = some m.cls := hown
  refine lv_aload_n hx hb dX11_person_0 rfl (lv_at hl 0 rfl) ?_
  refine va_get (D := (dC, dI)) (ci := 11) (v := .int 0) (C := RX11) (T := TX11) (N := 114) hx hb ht inX11 hown hK hP 0 rfl rfl 15 (by decide) (ht _ kw_1442) (fun _ h9 => h9) hfm_15 dX11_person_1 ?_
  refine lv_sipush (v := 200) hx hb dX11_person_4 (by decide) ?_
  refine lv_icmp_ne (tgt := 13) hx hb dX11_person_7 (by decide) (fun c1 => ?_) (fun c1 => ?_)
  rotate_left
  · exact absurd c1 (by decide)
  refine lv_aload_n hx hb dX11_person_13 rfl (lv_at hl 0 rfl) ?_
  refine lv_dup hx hb dX11_person_14 rfl ?_
  refine va_get (D := (dC, dI)) (ci := 11) (v := .int 0) (C := RX11) (T := TX11) (N := 114) hx hb ht inX11 hown hK hP 0 rfl rfl 15 (by decide) (ht _ kw_1442) (fun _ h9 => h9) hfm_15 dX11_person_15 ?_
  refine lv_iconst (v := 1) hx hb dX11_person_18 (by decide) ?_
  refine lv_iadd hx hb dX11_person_19 ?_
  refine lv_topi (fun r2 er2 => ?_)
  have er2 : r2 = 1 := er2.trans (by decide)
  subst er2
  refine va_put (D := (dC, dI)) (ci := 11) (v := .int 1) (ty := .int) (C := RX11) (T := TX11) (N := 114) hx hb ht inX11 tyX11 tyX11_ok nmX11 hown hK hP hD hS 0 rfl rfl 15 (by decide) (ht _ kw_1442) (fun _ h9 => h9) rfl (by decide +kernel) rfl rfl (gs_lt hn_fm (by decide)) dX11_person_20 (fun H locs hP hD hS => ?_)
  have hP : va_P (dC, dI) vwCl [(m0, .inr (11, (fm.set 15 (.int 1))))] H := hP
  have hD : va_D A [(m0, .inr (11, (fm.set 15 (.int 1))))] := hD
  refine lv_aload_n hx hb dX11_person_23 rfl (lv_at hl 0 rfl) ?_
  refine va_get (D := (dC, dI)) (ci := 11) (v := .int 1) (C := RX11) (T := TX11) (N := 114) hx hb ht inX11 hown hK hP 0 rfl rfl 15 (by decide) (ht _ kw_1442) (fun _ h9 => h9) (gs_eq (gs_lt hn_fm (by decide))) dX11_person_24 ?_
  refine lv_iconst (v := 1) hx hb dX11_person_27 (by decide) ?_
  refine lv_isub hx hb dX11_person_28 ?_
  refine lv_topi (fun r3 er3 => ?_)
  have er3 : r3 = 0 := er3.trans (by decide)
  subst er3
  exact W.iret hx hb hr (fun t ht9 hW => ⟨⟨_, (), rfl, rfl, trivial⟩, hS.F ht9⟩) hS.2.2 dX11_person_29
abbrev cX11_official : ByteArray := prog_13_method_25_code
def yX11_official : MethodName := ⟨RX11, "official", "(II)I"⟩
theorem dX11_official_0 : decode cX11_official 0 = .ok (.iload_n 1, 1) := by decide +kernel
theorem dX11_official_1 : decode cX11_official 1 = .ok (.iconst 0, 1) := by decide +kernel
theorem dX11_official_2 : decode cX11_official 2 = .ok (.bipush 11, 2) := by decide +kernel
theorem dX11_official_4 : decode cX11_official 4 = .ok (.invokestatic 255, 3) := by decide +kernel
theorem dX11_official_7 : decode cX11_official 7 = .ok (.ifCond .eq 13, 3) := by decide +kernel
theorem dX11_official_20 : decode cX11_official 20 = .ok (.bipush (-3), 2) := by decide +kernel
theorem dX11_official_22 : decode cX11_official 22 = .ok (.ireturn, 1) := by decide +kernel
theorem dX11_official_10 : decode cX11_official 10 = .ok (.iload_n 2, 1) := by decide +kernel
theorem dX11_official_11 : decode cX11_official 11 = .ok (.iconst 0, 1) := by decide +kernel
theorem dX11_official_12 : decode cX11_official 12 = .ok (.bipush 7, 2) := by decide +kernel
theorem dX11_official_14 : decode cX11_official 14 = .ok (.invokestatic 255, 3) := by decide +kernel
theorem dX11_official_17 : decode cX11_official 17 = .ok (.ifCond .ne 6, 3) := by decide +kernel
theorem dX11_official_23 : decode cX11_official 23 = .ok (.aload_n 0, 1) := by decide +kernel
theorem dX11_official_24 : decode cX11_official 24 = .ok (.getfield 334, 3) := by decide +kernel
theorem dX11_official_27 : decode cX11_official 27 = .ok (.bipush 8, 2) := by decide +kernel
theorem dX11_official_29 : decode cX11_official 29 = .ok (.if_icmp .ne 6, 3) := by decide +kernel
theorem dX11_official_35 : decode cX11_official 35 = .ok (.aload_n 0, 1) := by decide +kernel
theorem dX11_official_36 : decode cX11_official 36 = .ok (.getfield 57, 3) := by decide +kernel
theorem kw_1449 : Cond.fieldLink RX11 57 "SportsHouseModel" "homes" "[I" ∈ lw_g := lw_at 1449 (by decide +kernel) rfl
theorem dX11_official_39 : decode cX11_official 39 = .ok (.aload_n 0, 1) := by decide +kernel
theorem dX11_official_40 : decode cX11_official 40 = .ok (.getfield 334, 3) := by decide +kernel
theorem dX11_official_43 : decode cX11_official 43 = .ok (.iload_n 1, 1) := by decide +kernel
theorem dX11_official_44 : decode cX11_official 44 = .ok (.iastore, 1) := by decide +kernel
theorem dX11_official_45 : decode cX11_official 45 = .ok (.aload_n 0, 1) := by decide +kernel
theorem dX11_official_46 : decode cX11_official 46 = .ok (.getfield 60, 3) := by decide +kernel
theorem kw_1450 : Cond.fieldLink RX11 60 "SportsHouseModel" "officialCountries" "[I" ∈ lw_g := lw_at 1450 (by decide +kernel) rfl
theorem dX11_official_49 : decode cX11_official 49 = .ok (.aload_n 0, 1) := by decide +kernel
theorem dX11_official_50 : decode cX11_official 50 = .ok (.getfield 334, 3) := by decide +kernel
theorem dX11_official_53 : decode cX11_official 53 = .ok (.iload_n 2, 1) := by decide +kernel
theorem dX11_official_54 : decode cX11_official 54 = .ok (.iastore, 1) := by decide +kernel
theorem dX11_official_55 : decode cX11_official 55 = .ok (.aload_n 0, 1) := by decide +kernel
theorem dX11_official_56 : decode cX11_official 56 = .ok (.dup, 1) := by decide +kernel
theorem dX11_official_57 : decode cX11_official 57 = .ok (.getfield 334, 3) := by decide +kernel
theorem dX11_official_60 : decode cX11_official 60 = .ok (.iconst 1, 1) := by decide +kernel
theorem dX11_official_61 : decode cX11_official 61 = .ok (.iadd, 1) := by decide +kernel
theorem dX11_official_62 : decode cX11_official 62 = .ok (.putfield 334, 3) := by decide +kernel
theorem dX11_official_65 : decode cX11_official 65 = .ok (.aload_n 0, 1) := by decide +kernel
theorem dX11_official_66 : decode cX11_official 66 = .ok (.getfield 334, 3) := by decide +kernel
theorem dX11_official_69 : decode cX11_official 69 = .ok (.iconst 1, 1) := by decide +kernel
theorem dX11_official_70 : decode cX11_official 70 = .ok (.isub, 1) := by decide +kernel
theorem dX11_official_71 : decode cX11_official 71 = .ok (.ireturn, 1) := by decide +kernel
def sp_X11_official (na : Int32) (nb : Int32) : Int32 := if (sp_X11_in na 0 11) = 0 then (-3) else if (sp_X11_in nb 0 7) = 0 then (-3) else 0
set_option maxHeartbeats 4000000 in
set_option maxRecDepth 100000 in
theorem ct_X11_official (l : Launch) (dC : Nat → ClassId) (dI : Nat → Nat → Nat) (m0 : Nat) (mg : Nat) (mh : Nat) (fm : List Value) (kmg : ClassId) (gmg : Nat → Int32) (kmh : ClassId) (gmh : Nat → Int32) (hn_fm : fm.length = 114) (hfm_21 : fm[21]? = some (.int 0)) (hfm_22 : fm[22]? = some (.ref mg)) (hfm_23 : fm[23]? = some (.ref mh)) (sz : Nat) (na : Int32) (nb : Int32) : Met l yX11_official (.code yX11_official cX11_official 3 (some .int) :: lw_g) ({ frames := 2, cells := 0, slots := 0, locals := 120 }) (ro_P dC dI [(m0, .inr (11, fm)), (mg, .inl (kmg, 8, .inl gmg)), (mh, .inl (kmh, 8, .inl gmh))] [(kmg, .int), (kmh, .int)] sz [.ref m0, .int na, .int nb]) (ri_Q (sp_X11_official na nb) (va_A [(m0, .inr (11, fm)), (mg, .inl (kmg, 8, .inl gmg)), (mh, .inl (kmh, 8, .inl gmh))] sz)) 0 0 (va_A [(m0, .inr (11, fm)), (mg, .inl (kmg, 8, .inl gmg)), (mh, .inl (kmh, 8, .inl gmh))] sz) := by
  refine ro_entry (by decide) (Nat.le_of_ble_eq_true rfl) ?_
  intro p e s m below meth c ls hx hb hr hlocks ht hown hin hml hsz hP hK hD hE hl
  subst hsz
  have hD := hD.self (sz := s.heap.size)
  generalize hAe : va_A [(m0, .inr (11, fm)), (mg, .inl (kmg, 8, .inl gmg)), (mh, .inl (kmh, 8, .inl gmh))] s.heap.size = A at hD ⊢
  have hA : ∀ q, s.heap.size ≤ q → A q := fun q h => by rw [← hAe]; exact Or.inr h
  have hS : va_S A s.heap s.heap [] := va_S.rf
  have hl : lv_has ls 3 [(0, .ref m0), (1, .int na), (2, .int nb)] := hl
  have hown : s.vm.findClass RX11 = some m.cls := hown
  refine lv_iload_n hx hb dX11_official_0 rfl (lv_at hl 1 rfl) ?_
  refine lv_iconst (v := 0) hx hb dX11_official_1 (by decide) ?_
  refine lv_bipush (v := 11) hx hb dX11_official_2 (by decide) ?_
  refine ro_callS (n := 3) (As := [.int na, .int 0, .int 11]) (rest := []) hx hb hml hown ht hK hP hS hA hE (ct_X11_in l dC dI  _ na 0 11) gv_X11_255 rfl rfl (by decide +kernel) ⟨Nat.le_of_ble_eq_true rfl, Nat.le_of_ble_eq_true rfl⟩ rfl hl.1 (Nat.le_of_ble_eq_true rfl) ⟨Nat.le_of_ble_eq_true rfl, Nat.le_of_ble_eq_true rfl⟩ rfl dX11_official_4 (fun H locs hP hS => ?_)
  refine lv_if_eq (tgt := 20) hx hb dX11_official_7 (by decide) (fun c1 => ?_) (fun c1 => ?_)
  · refine lv_bipush (v := (-3)) hx hb dX11_official_20 (by decide) ?_
    exact W.iret hx hb hr (fun t ht9 hW => ⟨⟨_, (), rfl, (by unfold sp_X11_official; rw [if_pos c1]), trivial⟩, hS.F ht9⟩) hS.2.2 dX11_official_22
  · refine lv_iload_n hx hb dX11_official_10 rfl (lv_at hl 2 rfl) ?_
    refine lv_iconst (v := 0) hx hb dX11_official_11 (by decide) ?_
    refine lv_bipush (v := 7) hx hb dX11_official_12 (by decide) ?_
    refine ro_callS (n := 3) (As := [.int nb, .int 0, .int 7]) (rest := []) hx hb hml hown ht hK hP hS hA hE (ct_X11_in l dC dI  _ nb 0 7) gv_X11_255 rfl rfl (by decide +kernel) ⟨Nat.le_of_ble_eq_true rfl, Nat.le_of_ble_eq_true rfl⟩ rfl hl.1 (Nat.le_of_ble_eq_true rfl) ⟨Nat.le_of_ble_eq_true rfl, Nat.le_of_ble_eq_true rfl⟩ rfl dX11_official_14 (fun H locs hP hS => ?_)
    refine lv_if_ne (tgt := 23) hx hb dX11_official_17 (by decide) (fun c2 => ?_) (fun c2 => ?_)
    · refine lv_aload_n hx hb dX11_official_23 rfl (lv_at hl 0 rfl) ?_
      refine va_get (D := (dC, dI)) (ci := 11) (v := .int 0) (C := RX11) (T := TX11) (N := 114) hx hb ht inX11 hown hK hP 0 rfl rfl 21 (by decide) (ht _ kw_1448) (fun _ h9 => h9) hfm_21 dX11_official_24 ?_
      refine lv_bipush (v := 8) hx hb dX11_official_27 (by decide) ?_
      refine lv_icmp_ne (tgt := 35) hx hb dX11_official_29 (by decide) (fun c3 => ?_) (fun c3 => ?_)
      rotate_left
      · exact absurd c3 (by decide)
      refine lv_aload_n hx hb dX11_official_35 rfl (lv_at hl 0 rfl) ?_
      refine va_get (D := (dC, dI)) (ci := 11) (v := .ref mg) (C := RX11) (T := TX11) (N := 114) hx hb ht inX11 hown hK hP 0 rfl rfl 22 (by decide) (ht _ kw_1449) (fun _ h9 => h9) hfm_22 dX11_official_36 ?_
      refine lv_aload_n hx hb dX11_official_39 rfl (lv_at hl 0 rfl) ?_
      refine va_get (D := (dC, dI)) (ci := 11) (v := .int 0) (C := RX11) (T := TX11) (N := 114) hx hb ht inX11 hown hK hP 0 rfl rfl 21 (by decide) (ht _ kw_1448) (fun _ h9 => h9) hfm_21 dX11_official_40 ?_
      refine lv_iload_n hx hb dX11_official_43 rfl (lv_at hl 1 rfl) ?_
      refine va_iast hx hb hK hP hD hS 1 0 rfl rfl (by unfold vp_in; decide) dX11_official_44 (fun H locs hP hD hS => ?_)
      generalize upd gmg (0 : Int32).toNatClampNeg na = g4 at hP hD
      have hP : va_P (dC, dI) vwCl [(m0, .inr (11, fm)), (mg, .inl (kmg, 8, .inl g4)), (mh, .inl (kmh, 8, .inl gmh))] H := hP
      have hD : va_D A [(m0, .inr (11, fm)), (mg, .inl (kmg, 8, .inl g4)), (mh, .inl (kmh, 8, .inl gmh))] := hD
      refine lv_aload_n hx hb dX11_official_45 rfl (lv_at hl 0 rfl) ?_
      refine va_get (D := (dC, dI)) (ci := 11) (v := .ref mh) (C := RX11) (T := TX11) (N := 114) hx hb ht inX11 hown hK hP 0 rfl rfl 23 (by decide) (ht _ kw_1450) (fun _ h9 => h9) hfm_23 dX11_official_46 ?_
      refine lv_aload_n hx hb dX11_official_49 rfl (lv_at hl 0 rfl) ?_
      refine va_get (D := (dC, dI)) (ci := 11) (v := .int 0) (C := RX11) (T := TX11) (N := 114) hx hb ht inX11 hown hK hP 0 rfl rfl 21 (by decide) (ht _ kw_1448) (fun _ h9 => h9) hfm_21 dX11_official_50 ?_
      refine lv_iload_n hx hb dX11_official_53 rfl (lv_at hl 2 rfl) ?_
      refine va_iast hx hb hK hP hD hS 2 1 rfl rfl (by unfold vp_in; decide) dX11_official_54 (fun H locs hP hD hS => ?_)
      generalize upd gmh (0 : Int32).toNatClampNeg nb = g5 at hP hD
      have hP : va_P (dC, dI) vwCl [(m0, .inr (11, fm)), (mg, .inl (kmg, 8, .inl g4)), (mh, .inl (kmh, 8, .inl g5))] H := hP
      have hD : va_D A [(m0, .inr (11, fm)), (mg, .inl (kmg, 8, .inl g4)), (mh, .inl (kmh, 8, .inl g5))] := hD
      refine lv_aload_n hx hb dX11_official_55 rfl (lv_at hl 0 rfl) ?_
      refine lv_dup hx hb dX11_official_56 rfl ?_
      refine va_get (D := (dC, dI)) (ci := 11) (v := .int 0) (C := RX11) (T := TX11) (N := 114) hx hb ht inX11 hown hK hP 0 rfl rfl 21 (by decide) (ht _ kw_1448) (fun _ h9 => h9) hfm_21 dX11_official_57 ?_
      refine lv_iconst (v := 1) hx hb dX11_official_60 (by decide) ?_
      refine lv_iadd hx hb dX11_official_61 ?_
      refine lv_topi (fun r6 er6 => ?_)
      have er6 : r6 = 1 := er6.trans (by decide)
      subst er6
      refine va_put (D := (dC, dI)) (ci := 11) (v := .int 1) (ty := .int) (C := RX11) (T := TX11) (N := 114) hx hb ht inX11 tyX11 tyX11_ok nmX11 hown hK hP hD hS 0 rfl rfl 21 (by decide) (ht _ kw_1448) (fun _ h9 => h9) rfl (by decide +kernel) rfl rfl (gs_lt hn_fm (by decide)) dX11_official_62 (fun H locs hP hD hS => ?_)
      have hP : va_P (dC, dI) vwCl [(m0, .inr (11, (fm.set 21 (.int 1)))), (mg, .inl (kmg, 8, .inl g4)), (mh, .inl (kmh, 8, .inl g5))] H := hP
      have hD : va_D A [(m0, .inr (11, (fm.set 21 (.int 1)))), (mg, .inl (kmg, 8, .inl g4)), (mh, .inl (kmh, 8, .inl g5))] := hD
      refine lv_aload_n hx hb dX11_official_65 rfl (lv_at hl 0 rfl) ?_
      refine va_get (D := (dC, dI)) (ci := 11) (v := .int 1) (C := RX11) (T := TX11) (N := 114) hx hb ht inX11 hown hK hP 0 rfl rfl 21 (by decide) (ht _ kw_1448) (fun _ h9 => h9) (gs_eq (gs_lt hn_fm (by decide))) dX11_official_66 ?_
      refine lv_iconst (v := 1) hx hb dX11_official_69 (by decide) ?_
      refine lv_isub hx hb dX11_official_70 ?_
      refine lv_topi (fun r7 er7 => ?_)
      have er7 : r7 = 0 := er7.trans (by decide)
      subst er7
      exact W.iret hx hb hr (fun t ht9 hW => ⟨⟨_, (), rfl, (by unfold sp_X11_official; rw [if_neg c1, if_neg c2]), trivial⟩, hS.F ht9⟩) hS.2.2 dX11_official_71
    · refine lv_bipush (v := (-3)) hx hb dX11_official_20 (by decide) ?_
      exact W.iret hx hb hr (fun t ht9 hW => ⟨⟨_, (), rfl, (by unfold sp_X11_official; rw [if_neg c1, if_pos c2]), trivial⟩, hS.F ht9⟩) hS.2.2 dX11_official_22
abbrev cX11_day : ByteArray := prog_13_method_26_code
def yX11_day : MethodName := ⟨RX11, "day", "(I)I"⟩
theorem dX11_day_0 : decode cX11_day 0 = .ok (.iload_n 1, 1) := by decide +kernel
theorem dX11_day_1 : decode cX11_day 1 = .ok (.aload_n 0, 1) := by decide +kernel
theorem dX11_day_2 : decode cX11_day 2 = .ok (.getfield 337, 3) := by decide +kernel
theorem dX11_day_5 : decode cX11_day 5 = .ok (.iconst 1, 1) := by decide +kernel
theorem dX11_day_6 : decode cX11_day 6 = .ok (.iadd, 1) := by decide +kernel
theorem dX11_day_7 : decode cX11_day 7 = .ok (.sipush 999, 3) := by decide +kernel
theorem dX11_day_10 : decode cX11_day 10 = .ok (.invokestatic 255, 3) := by decide +kernel
theorem dX11_day_13 : decode cX11_day 13 = .ok (.ifCond .ne 6, 3) := by decide +kernel
theorem dX11_day_19 : decode cX11_day 19 = .ok (.aload_n 0, 1) := by decide +kernel
theorem dX11_day_20 : decode cX11_day 20 = .ok (.getfield 337, 3) := by decide +kernel
theorem dX11_day_23 : decode cX11_day 23 = .ok (.istore_n 2, 1) := by decide +kernel
theorem dX11_day_24 : decode cX11_day 24 = .ok (.aload_n 0, 1) := by decide +kernel
theorem dX11_day_25 : decode cX11_day 25 = .ok (.iload_n 1, 1) := by decide +kernel
theorem dX11_day_26 : decode cX11_day 26 = .ok (.putfield 337, 3) := by decide +kernel
theorem dX11_day_29 : decode cX11_day 29 = .ok (.iload_n 2, 1) := by decide +kernel
theorem dX11_day_30 : decode cX11_day 30 = .ok (.ireturn, 1) := by decide +kernel
theorem dX11_day_16 : decode cX11_day 16 = .ok (.bipush (-3), 2) := by decide +kernel
theorem dX11_day_18 : decode cX11_day 18 = .ok (.ireturn, 1) := by decide +kernel
def sp_X11_day (na : Int32) : Int32 := if (sp_X11_in na 1 999) = 0 then (-3) else 0
set_option maxHeartbeats 4000000 in
set_option maxRecDepth 100000 in
theorem ct_X11_day (l : Launch) (dC : Nat → ClassId) (dI : Nat → Nat → Nat) (m0 : Nat) (fm : List Value) (hn_fm : fm.length = 114) (hfm_3 : fm[3]? = some (.int 0)) (sz : Nat) (na : Int32) : Met l yX11_day (.code yX11_day cX11_day 3 (some .int) :: lw_g) ({ frames := 2, cells := 0, slots := 0, locals := 120 }) (ro_P dC dI [(m0, .inr (11, fm))] [] sz [.ref m0, .int na]) (ri_Q (sp_X11_day na) (va_A [(m0, .inr (11, fm))] sz)) 0 0 (va_A [(m0, .inr (11, fm))] sz) := by
  refine ro_entry (by decide) (Nat.le_of_ble_eq_true rfl) ?_
  intro p e s m below meth c ls hx hb hr hlocks ht hown hin hml hsz hP hK hD hE hl
  subst hsz
  have hD := hD.self (sz := s.heap.size)
  generalize hAe : va_A [(m0, .inr (11, fm))] s.heap.size = A at hD ⊢
  have hA : ∀ q, s.heap.size ≤ q → A q := fun q h => by rw [← hAe]; exact Or.inr h
  have hS : va_S A s.heap s.heap [] := va_S.rf
  have hl : lv_has ls 3 [(0, .ref m0), (1, .int na)] := hl
  have hown : s.vm.findClass RX11 = some m.cls := hown
  refine lv_iload_n hx hb dX11_day_0 rfl (lv_at hl 1 rfl) ?_
  refine lv_aload_n hx hb dX11_day_1 rfl (lv_at hl 0 rfl) ?_
  refine va_get (D := (dC, dI)) (ci := 11) (v := .int 0) (C := RX11) (T := TX11) (N := 114) hx hb ht inX11 hown hK hP 0 rfl rfl 3 (by decide) (ht _ kw_1430) (fun _ h9 => h9) hfm_3 dX11_day_2 ?_
  refine lv_iconst (v := 1) hx hb dX11_day_5 (by decide) ?_
  refine lv_iadd hx hb dX11_day_6 ?_
  refine lv_topi (fun r1 er1 => ?_)
  have er1 : r1 = 1 := er1.trans (by decide)
  subst er1
  refine lv_sipush (v := 999) hx hb dX11_day_7 (by decide) ?_
  refine ro_callS (n := 3) (As := [.int na, .int 1, .int 999]) (rest := []) hx hb hml hown ht hK hP hS hA hE (ct_X11_in l dC dI  _ na 1 999) gv_X11_255 rfl rfl (by decide +kernel) ⟨Nat.le_of_ble_eq_true rfl, Nat.le_of_ble_eq_true rfl⟩ rfl hl.1 (Nat.le_of_ble_eq_true rfl) ⟨Nat.le_of_ble_eq_true rfl, Nat.le_of_ble_eq_true rfl⟩ rfl dX11_day_10 (fun H locs hP hS => ?_)
  refine lv_if_ne (tgt := 19) hx hb dX11_day_13 (by decide) (fun c2 => ?_) (fun c2 => ?_)
  · refine lv_aload_n hx hb dX11_day_19 rfl (lv_at hl 0 rfl) ?_
    refine va_get (D := (dC, dI)) (ci := 11) (v := .int 0) (C := RX11) (T := TX11) (N := 114) hx hb ht inX11 hown hK hP 0 rfl rfl 3 (by decide) (ht _ kw_1430) (fun _ h9 => h9) hfm_3 dX11_day_20 ?_
    refine lv_istore_n (lv' := [(2, .int 0), (0, .ref m0), (1, .int na)]) hx hb dX11_day_23 rfl hl (by decide) rfl (fun ls hl => ?_)
    refine lv_aload_n hx hb dX11_day_24 rfl (lv_at hl 1 rfl) ?_
    refine lv_iload_n hx hb dX11_day_25 rfl (lv_at hl 2 rfl) ?_
    refine va_put (D := (dC, dI)) (ci := 11) (v := .int na) (ty := .int) (C := RX11) (T := TX11) (N := 114) hx hb ht inX11 tyX11 tyX11_ok nmX11 hown hK hP hD hS 0 rfl rfl 3 (by decide) (ht _ kw_1430) (fun _ h9 => h9) rfl (by decide +kernel) rfl rfl (gs_lt hn_fm (by decide)) dX11_day_26 (fun H locs hP hD hS => ?_)
    have hP : va_P (dC, dI) vwCl [(m0, .inr (11, (fm.set 3 (.int na))))] H := hP
    have hD : va_D A [(m0, .inr (11, (fm.set 3 (.int na))))] := hD
    refine lv_iload_n hx hb dX11_day_29 rfl (lv_at hl 0 rfl) ?_
    exact W.iret hx hb hr (fun t ht9 hW => ⟨⟨_, (), rfl, (by unfold sp_X11_day; rw [if_neg c2]), trivial⟩, hS.F ht9⟩) hS.2.2 dX11_day_30
  · refine lv_bipush (v := (-3)) hx hb dX11_day_16 (by decide) ?_
    exact W.iret hx hb hr (fun t ht9 hW => ⟨⟨_, (), rfl, (by unfold sp_X11_day; rw [if_pos c2]), trivial⟩, hS.F ht9⟩) hS.2.2 dX11_day_18
abbrev cX11_drawing : ByteArray := prog_13_method_111_code
def yX11_drawing : MethodName := ⟨RX11, "drawing", "(II)I"⟩
theorem dX11_drawing_0 : decode cX11_drawing 0 = .ok (.iload_n 1, 1) := by decide +kernel
theorem dX11_drawing_1 : decode cX11_drawing 1 = .ok (.iconst 1, 1) := by decide +kernel
theorem dX11_drawing_2 : decode cX11_drawing 2 = .ok (.iconst 4, 1) := by decide +kernel
theorem dX11_drawing_3 : decode cX11_drawing 3 = .ok (.invokestatic 255, 3) := by decide +kernel
theorem dX11_drawing_6 : decode cX11_drawing 6 = .ok (.ifCond .eq 12, 3) := by decide +kernel
theorem dX11_drawing_18 : decode cX11_drawing 18 = .ok (.bipush (-3), 2) := by decide +kernel
theorem dX11_drawing_20 : decode cX11_drawing 20 = .ok (.ireturn, 1) := by decide +kernel
theorem dX11_drawing_9 : decode cX11_drawing 9 = .ok (.iload_n 2, 1) := by decide +kernel
theorem dX11_drawing_10 : decode cX11_drawing 10 = .ok (.iconst 1, 1) := by decide +kernel
theorem dX11_drawing_11 : decode cX11_drawing 11 = .ok (.iconst 3, 1) := by decide +kernel
theorem dX11_drawing_12 : decode cX11_drawing 12 = .ok (.invokestatic 255, 3) := by decide +kernel
theorem dX11_drawing_15 : decode cX11_drawing 15 = .ok (.ifCond .ne 6, 3) := by decide +kernel
theorem dX11_drawing_21 : decode cX11_drawing 21 = .ok (.aload_n 0, 1) := by decide +kernel
theorem dX11_drawing_22 : decode cX11_drawing 22 = .ok (.iconst 1, 1) := by decide +kernel
theorem dX11_drawing_23 : decode cX11_drawing 23 = .ok (.putfield 576, 3) := by decide +kernel
theorem dX11_drawing_26 : decode cX11_drawing 26 = .ok (.aload_n 0, 1) := by decide +kernel
theorem dX11_drawing_27 : decode cX11_drawing 27 = .ok (.iload_n 1, 1) := by decide +kernel
theorem dX11_drawing_28 : decode cX11_drawing 28 = .ok (.putfield 579, 3) := by decide +kernel
theorem kw_1526 : Cond.fieldLink RX11 579 "SportsHouseModel" "groups" "I" ∈ lw_g := lw_at 1526 (by decide +kernel) rfl
theorem dX11_drawing_31 : decode cX11_drawing 31 = .ok (.aload_n 0, 1) := by decide +kernel
theorem dX11_drawing_32 : decode cX11_drawing 32 = .ok (.iload_n 2, 1) := by decide +kernel
theorem dX11_drawing_33 : decode cX11_drawing 33 = .ok (.putfield 582, 3) := by decide +kernel
theorem kw_1527 : Cond.fieldLink RX11 582 "SportsHouseModel" "limit" "I" ∈ lw_g := lw_at 1527 (by decide +kernel) rfl
theorem dX11_drawing_36 : decode cX11_drawing 36 = .ok (.iconst 0, 1) := by decide +kernel
theorem dX11_drawing_37 : decode cX11_drawing 37 = .ok (.istore_n 3, 1) := by decide +kernel
theorem dX11_drawing_38 : decode cX11_drawing 38 = .ok (.iload_n 3, 1) := by decide +kernel
theorem dX11_drawing_39 : decode cX11_drawing 39 = .ok (.bipush 12, 2) := by decide +kernel
theorem dX11_drawing_41 : decode cX11_drawing 41 = .ok (.if_icmp .ge 23, 3) := by decide +kernel
theorem dX11_drawing_44 : decode cX11_drawing 44 = .ok (.aload_n 0, 1) := by decide +kernel
theorem dX11_drawing_45 : decode cX11_drawing 45 = .ok (.getfield 225, 3) := by decide +kernel
theorem kw_1528 : Cond.fieldLink RX11 225 "SportsHouseModel" "potOf" "[I" ∈ lw_g := lw_at 1528 (by decide +kernel) rfl
theorem dX11_drawing_48 : decode cX11_drawing 48 = .ok (.iload_n 3, 1) := by decide +kernel
theorem dX11_drawing_49 : decode cX11_drawing 49 = .ok (.iconst (-1), 1) := by decide +kernel
theorem dX11_drawing_50 : decode cX11_drawing 50 = .ok (.iastore, 1) := by decide +kernel
theorem dX11_drawing_51 : decode cX11_drawing 51 = .ok (.aload_n 0, 1) := by decide +kernel
theorem dX11_drawing_52 : decode cX11_drawing 52 = .ok (.getfield 228, 3) := by decide +kernel
theorem kw_1529 : Cond.fieldLink RX11 228 "SportsHouseModel" "groupOf" "[I" ∈ lw_g := lw_at 1529 (by decide +kernel) rfl
theorem dX11_drawing_55 : decode cX11_drawing 55 = .ok (.iload_n 3, 1) := by decide +kernel
theorem dX11_drawing_56 : decode cX11_drawing 56 = .ok (.iconst (-1), 1) := by decide +kernel
theorem dX11_drawing_57 : decode cX11_drawing 57 = .ok (.iastore, 1) := by decide +kernel
theorem dX11_drawing_58 : decode cX11_drawing 58 = .ok (.iinc 3 1, 3) := by decide +kernel
theorem dX11_drawing_61 : decode cX11_drawing 61 = .ok (.goto (-23), 3) := by decide +kernel
theorem dX11_drawing_64 : decode cX11_drawing 64 = .ok (.iconst 1, 1) := by decide +kernel
theorem dX11_drawing_65 : decode cX11_drawing 65 = .ok (.ireturn, 1) := by decide +kernel
def sp_X11_drawing (na : Int32) (nb : Int32) : Int32 := if (sp_X11_in na 1 4) = 0 then (-3) else if (sp_X11_in nb 1 3) = 0 then (-3) else 1
set_option maxHeartbeats 4000000 in
set_option maxRecDepth 100000 in
theorem ct_X11_drawing (l : Launch) (dC : Nat → ClassId) (dI : Nat → Nat → Nat) (m0 : Nat) (mi : Nat) (mj : Nat) (fm : List Value) (kmi : ClassId) (gmi : Nat → Int32) (kmj : ClassId) (gmj : Nat → Int32) (hn_fm : fm.length = 114) (hfm_101 : fm[101]? = some (.ref mi)) (hfm_102 : fm[102]? = some (.ref mj)) (sz : Nat) (na : Int32) (nb : Int32) : Met l yX11_drawing (.code yX11_drawing cX11_drawing 4 (some .int) :: lw_g) ({ frames := 2, cells := 0, slots := 0, locals := 120 }) (ro_P dC dI [(m0, .inr (11, fm)), (mi, .inl (kmi, 12, .inl gmi)), (mj, .inl (kmj, 12, .inl gmj))] [(kmi, .int), (kmj, .int)] sz [.ref m0, .int na, .int nb]) (ri_Q (sp_X11_drawing na nb) (va_A [(m0, .inr (11, fm)), (mi, .inl (kmi, 12, .inl gmi)), (mj, .inl (kmj, 12, .inl gmj))] sz)) 0 0 (va_A [(m0, .inr (11, fm)), (mi, .inl (kmi, 12, .inl gmi)), (mj, .inl (kmj, 12, .inl gmj))] sz) := by
  refine ro_entry (by decide) (Nat.le_of_ble_eq_true rfl) ?_
  intro p e s m below meth c ls hx hb hr hlocks ht hown hin hml hsz hP hK hD hE hl
  subst hsz
  have hD := hD.self (sz := s.heap.size)
  generalize hAe : va_A [(m0, .inr (11, fm)), (mi, .inl (kmi, 12, .inl gmi)), (mj, .inl (kmj, 12, .inl gmj))] s.heap.size = A at hD ⊢
  have hA : ∀ q, s.heap.size ≤ q → A q := fun q h => by rw [← hAe]; exact Or.inr h
  have hS : va_S A s.heap s.heap [] := va_S.rf
  have hl : lv_has ls 4 [(0, .ref m0), (1, .int na), (2, .int nb)] := hl
  have hown : s.vm.findClass RX11 = some m.cls := hown
  refine lv_iload_n hx hb dX11_drawing_0 rfl (lv_at hl 1 rfl) ?_
  refine lv_iconst (v := 1) hx hb dX11_drawing_1 (by decide) ?_
  refine lv_iconst (v := 4) hx hb dX11_drawing_2 (by decide) ?_
  refine ro_callS (n := 3) (As := [.int na, .int 1, .int 4]) (rest := []) hx hb hml hown ht hK hP hS hA hE (ct_X11_in l dC dI  _ na 1 4) gv_X11_255 rfl rfl (by decide +kernel) ⟨Nat.le_of_ble_eq_true rfl, Nat.le_of_ble_eq_true rfl⟩ rfl hl.1 (Nat.le_of_ble_eq_true rfl) ⟨Nat.le_of_ble_eq_true rfl, Nat.le_of_ble_eq_true rfl⟩ rfl dX11_drawing_3 (fun H locs hP hS => ?_)
  refine lv_if_eq (tgt := 18) hx hb dX11_drawing_6 (by decide) (fun c1 => ?_) (fun c1 => ?_)
  · refine lv_bipush (v := (-3)) hx hb dX11_drawing_18 (by decide) ?_
    exact W.iret hx hb hr (fun t ht9 hW => ⟨⟨_, (), rfl, (by unfold sp_X11_drawing; rw [if_pos c1]), trivial⟩, hS.F ht9⟩) hS.2.2 dX11_drawing_20
  · refine lv_iload_n hx hb dX11_drawing_9 rfl (lv_at hl 2 rfl) ?_
    refine lv_iconst (v := 1) hx hb dX11_drawing_10 (by decide) ?_
    refine lv_iconst (v := 3) hx hb dX11_drawing_11 (by decide) ?_
    refine ro_callS (n := 3) (As := [.int nb, .int 1, .int 3]) (rest := []) hx hb hml hown ht hK hP hS hA hE (ct_X11_in l dC dI  _ nb 1 3) gv_X11_255 rfl rfl (by decide +kernel) ⟨Nat.le_of_ble_eq_true rfl, Nat.le_of_ble_eq_true rfl⟩ rfl hl.1 (Nat.le_of_ble_eq_true rfl) ⟨Nat.le_of_ble_eq_true rfl, Nat.le_of_ble_eq_true rfl⟩ rfl dX11_drawing_12 (fun H locs hP hS => ?_)
    refine lv_if_ne (tgt := 21) hx hb dX11_drawing_15 (by decide) (fun c2 => ?_) (fun c2 => ?_)
    · refine lv_aload_n hx hb dX11_drawing_21 rfl (lv_at hl 0 rfl) ?_
      refine lv_iconst (v := 1) hx hb dX11_drawing_22 (by decide) ?_
      refine va_put (D := (dC, dI)) (ci := 11) (v := .int 1) (ty := .boolean) (C := RX11) (T := TX11) (N := 114) hx hb ht inX11 tyX11 tyX11_ok nmX11 hown hK hP hD hS 0 rfl rfl 98 (by decide) (ht _ kw_1525) (fun _ h9 => h9) rfl (by decide +kernel) rfl rfl (gs_lt hn_fm (by decide)) dX11_drawing_23 (fun H locs hP hD hS => ?_)
      have hP : va_P (dC, dI) vwCl [(m0, .inr (11, (fm.set 98 (.int 1)))), (mi, .inl (kmi, 12, .inl gmi)), (mj, .inl (kmj, 12, .inl gmj))] H := hP
      have hD : va_D A [(m0, .inr (11, (fm.set 98 (.int 1)))), (mi, .inl (kmi, 12, .inl gmi)), (mj, .inl (kmj, 12, .inl gmj))] := hD
      refine lv_aload_n hx hb dX11_drawing_26 rfl (lv_at hl 0 rfl) ?_
      refine lv_iload_n hx hb dX11_drawing_27 rfl (lv_at hl 1 rfl) ?_
      refine va_put (D := (dC, dI)) (ci := 11) (v := .int na) (ty := .int) (C := RX11) (T := TX11) (N := 114) hx hb ht inX11 tyX11 tyX11_ok nmX11 hown hK hP hD hS 0 rfl rfl 99 (by decide) (ht _ kw_1526) (fun _ h9 => h9) rfl (by decide +kernel) rfl rfl (gs_lt (gs_len hn_fm) (by decide)) dX11_drawing_28 (fun H locs hP hD hS => ?_)
      have hP : va_P (dC, dI) vwCl [(m0, .inr (11, ((fm.set 98 (.int 1)).set 99 (.int na)))), (mi, .inl (kmi, 12, .inl gmi)), (mj, .inl (kmj, 12, .inl gmj))] H := hP
      have hD : va_D A [(m0, .inr (11, ((fm.set 98 (.int 1)).set 99 (.int na)))), (mi, .inl (kmi, 12, .inl gmi)), (mj, .inl (kmj, 12, .inl gmj))] := hD
      refine lv_aload_n hx hb dX11_drawing_31 rfl (lv_at hl 0 rfl) ?_
      refine lv_iload_n hx hb dX11_drawing_32 rfl (lv_at hl 2 rfl) ?_
      refine va_put (D := (dC, dI)) (ci := 11) (v := .int nb) (ty := .int) (C := RX11) (T := TX11) (N := 114) hx hb ht inX11 tyX11 tyX11_ok nmX11 hown hK hP hD hS 0 rfl rfl 100 (by decide) (ht _ kw_1527) (fun _ h9 => h9) rfl (by decide +kernel) rfl rfl (gs_lt (gs_len (gs_len hn_fm)) (by decide)) dX11_drawing_33 (fun H locs hP hD hS => ?_)
      have hP : va_P (dC, dI) vwCl [(m0, .inr (11, (((fm.set 98 (.int 1)).set 99 (.int na)).set 100 (.int nb)))), (mi, .inl (kmi, 12, .inl gmi)), (mj, .inl (kmj, 12, .inl gmj))] H := hP
      have hD : va_D A [(m0, .inr (11, (((fm.set 98 (.int 1)).set 99 (.int na)).set 100 (.int nb)))), (mi, .inl (kmi, 12, .inl gmi)), (mj, .inl (kmj, 12, .inl gmj))] := hD
      refine lv_iconst (v := 0) hx hb dX11_drawing_36 (by decide) ?_
      refine lv_istore_n (lv' := [(3, .int 0), (0, .ref m0), (1, .int na), (2, .int nb)]) hx hb dX11_drawing_37 rfl hl (by decide) rfl (fun ls hl => ?_)
      refine lv_iload_n hx hb dX11_drawing_38 rfl (lv_at hl 0 rfl) ?_
      refine lv_bipush (v := 12) hx hb dX11_drawing_39 (by decide) ?_
      refine lv_icmp_ge (tgt := 64) hx hb dX11_drawing_41 (by decide) (fun c3 => ?_) (fun c3 => ?_)
      · exact absurd c3 (by decide)
      refine lv_aload_n hx hb dX11_drawing_44 rfl (lv_at hl 1 rfl) ?_
      refine va_get (D := (dC, dI)) (ci := 11) (v := .ref mi) (C := RX11) (T := TX11) (N := 114) hx hb ht inX11 hown hK hP 0 rfl rfl 101 (by decide) (ht _ kw_1528) (fun _ h9 => h9) (gs_ne (by decide) (gs_ne (by decide) (gs_ne (by decide) hfm_101))) dX11_drawing_45 ?_
      refine lv_iload_n hx hb dX11_drawing_48 rfl (lv_at hl 0 rfl) ?_
      refine lv_iconst (v := (-1)) hx hb dX11_drawing_49 (by decide) ?_
      refine va_iast hx hb hK hP hD hS 1 0 rfl rfl (by unfold vp_in; decide) dX11_drawing_50 (fun H locs hP hD hS => ?_)
      generalize upd gmi (0 : Int32).toNatClampNeg (-1) = g4 at hP hD
      have hP : va_P (dC, dI) vwCl [(m0, .inr (11, (((fm.set 98 (.int 1)).set 99 (.int na)).set 100 (.int nb)))), (mi, .inl (kmi, 12, .inl g4)), (mj, .inl (kmj, 12, .inl gmj))] H := hP
      have hD : va_D A [(m0, .inr (11, (((fm.set 98 (.int 1)).set 99 (.int na)).set 100 (.int nb)))), (mi, .inl (kmi, 12, .inl g4)), (mj, .inl (kmj, 12, .inl gmj))] := hD
      refine lv_aload_n hx hb dX11_drawing_51 rfl (lv_at hl 1 rfl) ?_
      refine va_get (D := (dC, dI)) (ci := 11) (v := .ref mj) (C := RX11) (T := TX11) (N := 114) hx hb ht inX11 hown hK hP 0 rfl rfl 102 (by decide) (ht _ kw_1529) (fun _ h9 => h9) (gs_ne (by decide) (gs_ne (by decide) (gs_ne (by decide) hfm_102))) dX11_drawing_52 ?_
      refine lv_iload_n hx hb dX11_drawing_55 rfl (lv_at hl 0 rfl) ?_
      refine lv_iconst (v := (-1)) hx hb dX11_drawing_56 (by decide) ?_
      refine va_iast hx hb hK hP hD hS 2 1 rfl rfl (by unfold vp_in; decide) dX11_drawing_57 (fun H locs hP hD hS => ?_)
      generalize upd gmj (0 : Int32).toNatClampNeg (-1) = g5 at hP hD
      have hP : va_P (dC, dI) vwCl [(m0, .inr (11, (((fm.set 98 (.int 1)).set 99 (.int na)).set 100 (.int nb)))), (mi, .inl (kmi, 12, .inl g4)), (mj, .inl (kmj, 12, .inl g5))] H := hP
      have hD : va_D A [(m0, .inr (11, (((fm.set 98 (.int 1)).set 99 (.int na)).set 100 (.int nb)))), (mi, .inl (kmi, 12, .inl g4)), (mj, .inl (kmj, 12, .inl g5))] := hD
      refine lv_iinc (v := 1) (lv' := [(3, .int 1), (0, .ref m0), (1, .int na), (2, .int nb)]) hx hb dX11_drawing_58 hl (k := 0) rfl (by decide) (by decide) rfl (fun ls hl => ?_)
      refine lv_goto (tgt := 38) hx hb dX11_drawing_61 (by decide) ?_
      refine lv_iload_n hx hb dX11_drawing_38 rfl (lv_at hl 0 rfl) ?_
      refine lv_bipush (v := 12) hx hb dX11_drawing_39 (by decide) ?_
      refine lv_icmp_ge (tgt := 64) hx hb dX11_drawing_41 (by decide) (fun c6 => ?_) (fun c6 => ?_)
      · exact absurd c6 (by decide)
      refine lv_aload_n hx hb dX11_drawing_44 rfl (lv_at hl 1 rfl) ?_
      refine va_get (D := (dC, dI)) (ci := 11) (v := .ref mi) (C := RX11) (T := TX11) (N := 114) hx hb ht inX11 hown hK hP 0 rfl rfl 101 (by decide) (ht _ kw_1528) (fun _ h9 => h9) (gs_ne (by decide) (gs_ne (by decide) (gs_ne (by decide) hfm_101))) dX11_drawing_45 ?_
      refine lv_iload_n hx hb dX11_drawing_48 rfl (lv_at hl 0 rfl) ?_
      refine lv_iconst (v := (-1)) hx hb dX11_drawing_49 (by decide) ?_
      refine va_iast hx hb hK hP hD hS 1 0 rfl rfl (by unfold vp_in; decide) dX11_drawing_50 (fun H locs hP hD hS => ?_)
      generalize upd g4 (1 : Int32).toNatClampNeg (-1) = g7 at hP hD
      have hP : va_P (dC, dI) vwCl [(m0, .inr (11, (((fm.set 98 (.int 1)).set 99 (.int na)).set 100 (.int nb)))), (mi, .inl (kmi, 12, .inl g7)), (mj, .inl (kmj, 12, .inl g5))] H := hP
      have hD : va_D A [(m0, .inr (11, (((fm.set 98 (.int 1)).set 99 (.int na)).set 100 (.int nb)))), (mi, .inl (kmi, 12, .inl g7)), (mj, .inl (kmj, 12, .inl g5))] := hD
      refine lv_aload_n hx hb dX11_drawing_51 rfl (lv_at hl 1 rfl) ?_
      refine va_get (D := (dC, dI)) (ci := 11) (v := .ref mj) (C := RX11) (T := TX11) (N := 114) hx hb ht inX11 hown hK hP 0 rfl rfl 102 (by decide) (ht _ kw_1529) (fun _ h9 => h9) (gs_ne (by decide) (gs_ne (by decide) (gs_ne (by decide) hfm_102))) dX11_drawing_52 ?_
      refine lv_iload_n hx hb dX11_drawing_55 rfl (lv_at hl 0 rfl) ?_
      refine lv_iconst (v := (-1)) hx hb dX11_drawing_56 (by decide) ?_
      refine va_iast hx hb hK hP hD hS 2 1 rfl rfl (by unfold vp_in; decide) dX11_drawing_57 (fun H locs hP hD hS => ?_)
      generalize upd g5 (1 : Int32).toNatClampNeg (-1) = g8 at hP hD
      have hP : va_P (dC, dI) vwCl [(m0, .inr (11, (((fm.set 98 (.int 1)).set 99 (.int na)).set 100 (.int nb)))), (mi, .inl (kmi, 12, .inl g7)), (mj, .inl (kmj, 12, .inl g8))] H := hP
      have hD : va_D A [(m0, .inr (11, (((fm.set 98 (.int 1)).set 99 (.int na)).set 100 (.int nb)))), (mi, .inl (kmi, 12, .inl g7)), (mj, .inl (kmj, 12, .inl g8))] := hD
      refine lv_iinc (v := 2) (lv' := [(3, .int 2), (0, .ref m0), (1, .int na), (2, .int nb)]) hx hb dX11_drawing_58 hl (k := 0) rfl (by decide) (by decide) rfl (fun ls hl => ?_)
      refine lv_goto (tgt := 38) hx hb dX11_drawing_61 (by decide) ?_
      refine lv_iload_n hx hb dX11_drawing_38 rfl (lv_at hl 0 rfl) ?_
      refine lv_bipush (v := 12) hx hb dX11_drawing_39 (by decide) ?_
      refine lv_icmp_ge (tgt := 64) hx hb dX11_drawing_41 (by decide) (fun c9 => ?_) (fun c9 => ?_)
      · exact absurd c9 (by decide)
      refine lv_aload_n hx hb dX11_drawing_44 rfl (lv_at hl 1 rfl) ?_
      refine va_get (D := (dC, dI)) (ci := 11) (v := .ref mi) (C := RX11) (T := TX11) (N := 114) hx hb ht inX11 hown hK hP 0 rfl rfl 101 (by decide) (ht _ kw_1528) (fun _ h9 => h9) (gs_ne (by decide) (gs_ne (by decide) (gs_ne (by decide) hfm_101))) dX11_drawing_45 ?_
      refine lv_iload_n hx hb dX11_drawing_48 rfl (lv_at hl 0 rfl) ?_
      refine lv_iconst (v := (-1)) hx hb dX11_drawing_49 (by decide) ?_
      refine va_iast hx hb hK hP hD hS 1 0 rfl rfl (by unfold vp_in; decide) dX11_drawing_50 (fun H locs hP hD hS => ?_)
      generalize upd g7 (2 : Int32).toNatClampNeg (-1) = g10 at hP hD
      have hP : va_P (dC, dI) vwCl [(m0, .inr (11, (((fm.set 98 (.int 1)).set 99 (.int na)).set 100 (.int nb)))), (mi, .inl (kmi, 12, .inl g10)), (mj, .inl (kmj, 12, .inl g8))] H := hP
      have hD : va_D A [(m0, .inr (11, (((fm.set 98 (.int 1)).set 99 (.int na)).set 100 (.int nb)))), (mi, .inl (kmi, 12, .inl g10)), (mj, .inl (kmj, 12, .inl g8))] := hD
      refine lv_aload_n hx hb dX11_drawing_51 rfl (lv_at hl 1 rfl) ?_
      refine va_get (D := (dC, dI)) (ci := 11) (v := .ref mj) (C := RX11) (T := TX11) (N := 114) hx hb ht inX11 hown hK hP 0 rfl rfl 102 (by decide) (ht _ kw_1529) (fun _ h9 => h9) (gs_ne (by decide) (gs_ne (by decide) (gs_ne (by decide) hfm_102))) dX11_drawing_52 ?_
      refine lv_iload_n hx hb dX11_drawing_55 rfl (lv_at hl 0 rfl) ?_
      refine lv_iconst (v := (-1)) hx hb dX11_drawing_56 (by decide) ?_
      refine va_iast hx hb hK hP hD hS 2 1 rfl rfl (by unfold vp_in; decide) dX11_drawing_57 (fun H locs hP hD hS => ?_)
      generalize upd g8 (2 : Int32).toNatClampNeg (-1) = g11 at hP hD
      have hP : va_P (dC, dI) vwCl [(m0, .inr (11, (((fm.set 98 (.int 1)).set 99 (.int na)).set 100 (.int nb)))), (mi, .inl (kmi, 12, .inl g10)), (mj, .inl (kmj, 12, .inl g11))] H := hP
      have hD : va_D A [(m0, .inr (11, (((fm.set 98 (.int 1)).set 99 (.int na)).set 100 (.int nb)))), (mi, .inl (kmi, 12, .inl g10)), (mj, .inl (kmj, 12, .inl g11))] := hD
      refine lv_iinc (v := 3) (lv' := [(3, .int 3), (0, .ref m0), (1, .int na), (2, .int nb)]) hx hb dX11_drawing_58 hl (k := 0) rfl (by decide) (by decide) rfl (fun ls hl => ?_)
      refine lv_goto (tgt := 38) hx hb dX11_drawing_61 (by decide) ?_
      refine lv_iload_n hx hb dX11_drawing_38 rfl (lv_at hl 0 rfl) ?_
      refine lv_bipush (v := 12) hx hb dX11_drawing_39 (by decide) ?_
      refine lv_icmp_ge (tgt := 64) hx hb dX11_drawing_41 (by decide) (fun c12 => ?_) (fun c12 => ?_)
      · exact absurd c12 (by decide)
      refine lv_aload_n hx hb dX11_drawing_44 rfl (lv_at hl 1 rfl) ?_
      refine va_get (D := (dC, dI)) (ci := 11) (v := .ref mi) (C := RX11) (T := TX11) (N := 114) hx hb ht inX11 hown hK hP 0 rfl rfl 101 (by decide) (ht _ kw_1528) (fun _ h9 => h9) (gs_ne (by decide) (gs_ne (by decide) (gs_ne (by decide) hfm_101))) dX11_drawing_45 ?_
      refine lv_iload_n hx hb dX11_drawing_48 rfl (lv_at hl 0 rfl) ?_
      refine lv_iconst (v := (-1)) hx hb dX11_drawing_49 (by decide) ?_
      refine va_iast hx hb hK hP hD hS 1 0 rfl rfl (by unfold vp_in; decide) dX11_drawing_50 (fun H locs hP hD hS => ?_)
      generalize upd g10 (3 : Int32).toNatClampNeg (-1) = g13 at hP hD
      have hP : va_P (dC, dI) vwCl [(m0, .inr (11, (((fm.set 98 (.int 1)).set 99 (.int na)).set 100 (.int nb)))), (mi, .inl (kmi, 12, .inl g13)), (mj, .inl (kmj, 12, .inl g11))] H := hP
      have hD : va_D A [(m0, .inr (11, (((fm.set 98 (.int 1)).set 99 (.int na)).set 100 (.int nb)))), (mi, .inl (kmi, 12, .inl g13)), (mj, .inl (kmj, 12, .inl g11))] := hD
      refine lv_aload_n hx hb dX11_drawing_51 rfl (lv_at hl 1 rfl) ?_
      refine va_get (D := (dC, dI)) (ci := 11) (v := .ref mj) (C := RX11) (T := TX11) (N := 114) hx hb ht inX11 hown hK hP 0 rfl rfl 102 (by decide) (ht _ kw_1529) (fun _ h9 => h9) (gs_ne (by decide) (gs_ne (by decide) (gs_ne (by decide) hfm_102))) dX11_drawing_52 ?_
      refine lv_iload_n hx hb dX11_drawing_55 rfl (lv_at hl 0 rfl) ?_
      refine lv_iconst (v := (-1)) hx hb dX11_drawing_56 (by decide) ?_
      refine va_iast hx hb hK hP hD hS 2 1 rfl rfl (by unfold vp_in; decide) dX11_drawing_57 (fun H locs hP hD hS => ?_)
      generalize upd g11 (3 : Int32).toNatClampNeg (-1) = g14 at hP hD
      have hP : va_P (dC, dI) vwCl [(m0, .inr (11, (((fm.set 98 (.int 1)).set 99 (.int na)).set 100 (.int nb)))), (mi, .inl (kmi, 12, .inl g13)), (mj, .inl (kmj, 12, .inl g14))] H := hP
      have hD : va_D A [(m0, .inr (11, (((fm.set 98 (.int 1)).set 99 (.int na)).set 100 (.int nb)))), (mi, .inl (kmi, 12, .inl g13)), (mj, .inl (kmj, 12, .inl g14))] := hD
      refine lv_iinc (v := 4) (lv' := [(3, .int 4), (0, .ref m0), (1, .int na), (2, .int nb)]) hx hb dX11_drawing_58 hl (k := 0) rfl (by decide) (by decide) rfl (fun ls hl => ?_)
      refine lv_goto (tgt := 38) hx hb dX11_drawing_61 (by decide) ?_
      refine lv_iload_n hx hb dX11_drawing_38 rfl (lv_at hl 0 rfl) ?_
      refine lv_bipush (v := 12) hx hb dX11_drawing_39 (by decide) ?_
      refine lv_icmp_ge (tgt := 64) hx hb dX11_drawing_41 (by decide) (fun c15 => ?_) (fun c15 => ?_)
      · exact absurd c15 (by decide)
      refine lv_aload_n hx hb dX11_drawing_44 rfl (lv_at hl 1 rfl) ?_
      refine va_get (D := (dC, dI)) (ci := 11) (v := .ref mi) (C := RX11) (T := TX11) (N := 114) hx hb ht inX11 hown hK hP 0 rfl rfl 101 (by decide) (ht _ kw_1528) (fun _ h9 => h9) (gs_ne (by decide) (gs_ne (by decide) (gs_ne (by decide) hfm_101))) dX11_drawing_45 ?_
      refine lv_iload_n hx hb dX11_drawing_48 rfl (lv_at hl 0 rfl) ?_
      refine lv_iconst (v := (-1)) hx hb dX11_drawing_49 (by decide) ?_
      refine va_iast hx hb hK hP hD hS 1 0 rfl rfl (by unfold vp_in; decide) dX11_drawing_50 (fun H locs hP hD hS => ?_)
      generalize upd g13 (4 : Int32).toNatClampNeg (-1) = g16 at hP hD
      have hP : va_P (dC, dI) vwCl [(m0, .inr (11, (((fm.set 98 (.int 1)).set 99 (.int na)).set 100 (.int nb)))), (mi, .inl (kmi, 12, .inl g16)), (mj, .inl (kmj, 12, .inl g14))] H := hP
      have hD : va_D A [(m0, .inr (11, (((fm.set 98 (.int 1)).set 99 (.int na)).set 100 (.int nb)))), (mi, .inl (kmi, 12, .inl g16)), (mj, .inl (kmj, 12, .inl g14))] := hD
      refine lv_aload_n hx hb dX11_drawing_51 rfl (lv_at hl 1 rfl) ?_
      refine va_get (D := (dC, dI)) (ci := 11) (v := .ref mj) (C := RX11) (T := TX11) (N := 114) hx hb ht inX11 hown hK hP 0 rfl rfl 102 (by decide) (ht _ kw_1529) (fun _ h9 => h9) (gs_ne (by decide) (gs_ne (by decide) (gs_ne (by decide) hfm_102))) dX11_drawing_52 ?_
      refine lv_iload_n hx hb dX11_drawing_55 rfl (lv_at hl 0 rfl) ?_
      refine lv_iconst (v := (-1)) hx hb dX11_drawing_56 (by decide) ?_
      refine va_iast hx hb hK hP hD hS 2 1 rfl rfl (by unfold vp_in; decide) dX11_drawing_57 (fun H locs hP hD hS => ?_)
      generalize upd g14 (4 : Int32).toNatClampNeg (-1) = g17 at hP hD
      have hP : va_P (dC, dI) vwCl [(m0, .inr (11, (((fm.set 98 (.int 1)).set 99 (.int na)).set 100 (.int nb)))), (mi, .inl (kmi, 12, .inl g16)), (mj, .inl (kmj, 12, .inl g17))] H := hP
      have hD : va_D A [(m0, .inr (11, (((fm.set 98 (.int 1)).set 99 (.int na)).set 100 (.int nb)))), (mi, .inl (kmi, 12, .inl g16)), (mj, .inl (kmj, 12, .inl g17))] := hD
      refine lv_iinc (v := 5) (lv' := [(3, .int 5), (0, .ref m0), (1, .int na), (2, .int nb)]) hx hb dX11_drawing_58 hl (k := 0) rfl (by decide) (by decide) rfl (fun ls hl => ?_)
      refine lv_goto (tgt := 38) hx hb dX11_drawing_61 (by decide) ?_
      refine lv_iload_n hx hb dX11_drawing_38 rfl (lv_at hl 0 rfl) ?_
      refine lv_bipush (v := 12) hx hb dX11_drawing_39 (by decide) ?_
      refine lv_icmp_ge (tgt := 64) hx hb dX11_drawing_41 (by decide) (fun c18 => ?_) (fun c18 => ?_)
      · exact absurd c18 (by decide)
      refine lv_aload_n hx hb dX11_drawing_44 rfl (lv_at hl 1 rfl) ?_
      refine va_get (D := (dC, dI)) (ci := 11) (v := .ref mi) (C := RX11) (T := TX11) (N := 114) hx hb ht inX11 hown hK hP 0 rfl rfl 101 (by decide) (ht _ kw_1528) (fun _ h9 => h9) (gs_ne (by decide) (gs_ne (by decide) (gs_ne (by decide) hfm_101))) dX11_drawing_45 ?_
      refine lv_iload_n hx hb dX11_drawing_48 rfl (lv_at hl 0 rfl) ?_
      refine lv_iconst (v := (-1)) hx hb dX11_drawing_49 (by decide) ?_
      refine va_iast hx hb hK hP hD hS 1 0 rfl rfl (by unfold vp_in; decide) dX11_drawing_50 (fun H locs hP hD hS => ?_)
      generalize upd g16 (5 : Int32).toNatClampNeg (-1) = g19 at hP hD
      have hP : va_P (dC, dI) vwCl [(m0, .inr (11, (((fm.set 98 (.int 1)).set 99 (.int na)).set 100 (.int nb)))), (mi, .inl (kmi, 12, .inl g19)), (mj, .inl (kmj, 12, .inl g17))] H := hP
      have hD : va_D A [(m0, .inr (11, (((fm.set 98 (.int 1)).set 99 (.int na)).set 100 (.int nb)))), (mi, .inl (kmi, 12, .inl g19)), (mj, .inl (kmj, 12, .inl g17))] := hD
      refine lv_aload_n hx hb dX11_drawing_51 rfl (lv_at hl 1 rfl) ?_
      refine va_get (D := (dC, dI)) (ci := 11) (v := .ref mj) (C := RX11) (T := TX11) (N := 114) hx hb ht inX11 hown hK hP 0 rfl rfl 102 (by decide) (ht _ kw_1529) (fun _ h9 => h9) (gs_ne (by decide) (gs_ne (by decide) (gs_ne (by decide) hfm_102))) dX11_drawing_52 ?_
      refine lv_iload_n hx hb dX11_drawing_55 rfl (lv_at hl 0 rfl) ?_
      refine lv_iconst (v := (-1)) hx hb dX11_drawing_56 (by decide) ?_
      refine va_iast hx hb hK hP hD hS 2 1 rfl rfl (by unfold vp_in; decide) dX11_drawing_57 (fun H locs hP hD hS => ?_)
      generalize upd g17 (5 : Int32).toNatClampNeg (-1) = g20 at hP hD
      have hP : va_P (dC, dI) vwCl [(m0, .inr (11, (((fm.set 98 (.int 1)).set 99 (.int na)).set 100 (.int nb)))), (mi, .inl (kmi, 12, .inl g19)), (mj, .inl (kmj, 12, .inl g20))] H := hP
      have hD : va_D A [(m0, .inr (11, (((fm.set 98 (.int 1)).set 99 (.int na)).set 100 (.int nb)))), (mi, .inl (kmi, 12, .inl g19)), (mj, .inl (kmj, 12, .inl g20))] := hD
      refine lv_iinc (v := 6) (lv' := [(3, .int 6), (0, .ref m0), (1, .int na), (2, .int nb)]) hx hb dX11_drawing_58 hl (k := 0) rfl (by decide) (by decide) rfl (fun ls hl => ?_)
      refine lv_goto (tgt := 38) hx hb dX11_drawing_61 (by decide) ?_
      refine lv_iload_n hx hb dX11_drawing_38 rfl (lv_at hl 0 rfl) ?_
      refine lv_bipush (v := 12) hx hb dX11_drawing_39 (by decide) ?_
      refine lv_icmp_ge (tgt := 64) hx hb dX11_drawing_41 (by decide) (fun c21 => ?_) (fun c21 => ?_)
      · exact absurd c21 (by decide)
      refine lv_aload_n hx hb dX11_drawing_44 rfl (lv_at hl 1 rfl) ?_
      refine va_get (D := (dC, dI)) (ci := 11) (v := .ref mi) (C := RX11) (T := TX11) (N := 114) hx hb ht inX11 hown hK hP 0 rfl rfl 101 (by decide) (ht _ kw_1528) (fun _ h9 => h9) (gs_ne (by decide) (gs_ne (by decide) (gs_ne (by decide) hfm_101))) dX11_drawing_45 ?_
      refine lv_iload_n hx hb dX11_drawing_48 rfl (lv_at hl 0 rfl) ?_
      refine lv_iconst (v := (-1)) hx hb dX11_drawing_49 (by decide) ?_
      refine va_iast hx hb hK hP hD hS 1 0 rfl rfl (by unfold vp_in; decide) dX11_drawing_50 (fun H locs hP hD hS => ?_)
      generalize upd g19 (6 : Int32).toNatClampNeg (-1) = g22 at hP hD
      have hP : va_P (dC, dI) vwCl [(m0, .inr (11, (((fm.set 98 (.int 1)).set 99 (.int na)).set 100 (.int nb)))), (mi, .inl (kmi, 12, .inl g22)), (mj, .inl (kmj, 12, .inl g20))] H := hP
      have hD : va_D A [(m0, .inr (11, (((fm.set 98 (.int 1)).set 99 (.int na)).set 100 (.int nb)))), (mi, .inl (kmi, 12, .inl g22)), (mj, .inl (kmj, 12, .inl g20))] := hD
      refine lv_aload_n hx hb dX11_drawing_51 rfl (lv_at hl 1 rfl) ?_
      refine va_get (D := (dC, dI)) (ci := 11) (v := .ref mj) (C := RX11) (T := TX11) (N := 114) hx hb ht inX11 hown hK hP 0 rfl rfl 102 (by decide) (ht _ kw_1529) (fun _ h9 => h9) (gs_ne (by decide) (gs_ne (by decide) (gs_ne (by decide) hfm_102))) dX11_drawing_52 ?_
      refine lv_iload_n hx hb dX11_drawing_55 rfl (lv_at hl 0 rfl) ?_
      refine lv_iconst (v := (-1)) hx hb dX11_drawing_56 (by decide) ?_
      refine va_iast hx hb hK hP hD hS 2 1 rfl rfl (by unfold vp_in; decide) dX11_drawing_57 (fun H locs hP hD hS => ?_)
      generalize upd g20 (6 : Int32).toNatClampNeg (-1) = g23 at hP hD
      have hP : va_P (dC, dI) vwCl [(m0, .inr (11, (((fm.set 98 (.int 1)).set 99 (.int na)).set 100 (.int nb)))), (mi, .inl (kmi, 12, .inl g22)), (mj, .inl (kmj, 12, .inl g23))] H := hP
      have hD : va_D A [(m0, .inr (11, (((fm.set 98 (.int 1)).set 99 (.int na)).set 100 (.int nb)))), (mi, .inl (kmi, 12, .inl g22)), (mj, .inl (kmj, 12, .inl g23))] := hD
      refine lv_iinc (v := 7) (lv' := [(3, .int 7), (0, .ref m0), (1, .int na), (2, .int nb)]) hx hb dX11_drawing_58 hl (k := 0) rfl (by decide) (by decide) rfl (fun ls hl => ?_)
      refine lv_goto (tgt := 38) hx hb dX11_drawing_61 (by decide) ?_
      refine lv_iload_n hx hb dX11_drawing_38 rfl (lv_at hl 0 rfl) ?_
      refine lv_bipush (v := 12) hx hb dX11_drawing_39 (by decide) ?_
      refine lv_icmp_ge (tgt := 64) hx hb dX11_drawing_41 (by decide) (fun c24 => ?_) (fun c24 => ?_)
      · exact absurd c24 (by decide)
      refine lv_aload_n hx hb dX11_drawing_44 rfl (lv_at hl 1 rfl) ?_
      refine va_get (D := (dC, dI)) (ci := 11) (v := .ref mi) (C := RX11) (T := TX11) (N := 114) hx hb ht inX11 hown hK hP 0 rfl rfl 101 (by decide) (ht _ kw_1528) (fun _ h9 => h9) (gs_ne (by decide) (gs_ne (by decide) (gs_ne (by decide) hfm_101))) dX11_drawing_45 ?_
      refine lv_iload_n hx hb dX11_drawing_48 rfl (lv_at hl 0 rfl) ?_
      refine lv_iconst (v := (-1)) hx hb dX11_drawing_49 (by decide) ?_
      refine va_iast hx hb hK hP hD hS 1 0 rfl rfl (by unfold vp_in; decide) dX11_drawing_50 (fun H locs hP hD hS => ?_)
      generalize upd g22 (7 : Int32).toNatClampNeg (-1) = g25 at hP hD
      have hP : va_P (dC, dI) vwCl [(m0, .inr (11, (((fm.set 98 (.int 1)).set 99 (.int na)).set 100 (.int nb)))), (mi, .inl (kmi, 12, .inl g25)), (mj, .inl (kmj, 12, .inl g23))] H := hP
      have hD : va_D A [(m0, .inr (11, (((fm.set 98 (.int 1)).set 99 (.int na)).set 100 (.int nb)))), (mi, .inl (kmi, 12, .inl g25)), (mj, .inl (kmj, 12, .inl g23))] := hD
      refine lv_aload_n hx hb dX11_drawing_51 rfl (lv_at hl 1 rfl) ?_
      refine va_get (D := (dC, dI)) (ci := 11) (v := .ref mj) (C := RX11) (T := TX11) (N := 114) hx hb ht inX11 hown hK hP 0 rfl rfl 102 (by decide) (ht _ kw_1529) (fun _ h9 => h9) (gs_ne (by decide) (gs_ne (by decide) (gs_ne (by decide) hfm_102))) dX11_drawing_52 ?_
      refine lv_iload_n hx hb dX11_drawing_55 rfl (lv_at hl 0 rfl) ?_
      refine lv_iconst (v := (-1)) hx hb dX11_drawing_56 (by decide) ?_
      refine va_iast hx hb hK hP hD hS 2 1 rfl rfl (by unfold vp_in; decide) dX11_drawing_57 (fun H locs hP hD hS => ?_)
      generalize upd g23 (7 : Int32).toNatClampNeg (-1) = g26 at hP hD
      have hP : va_P (dC, dI) vwCl [(m0, .inr (11, (((fm.set 98 (.int 1)).set 99 (.int na)).set 100 (.int nb)))), (mi, .inl (kmi, 12, .inl g25)), (mj, .inl (kmj, 12, .inl g26))] H := hP
      have hD : va_D A [(m0, .inr (11, (((fm.set 98 (.int 1)).set 99 (.int na)).set 100 (.int nb)))), (mi, .inl (kmi, 12, .inl g25)), (mj, .inl (kmj, 12, .inl g26))] := hD
      refine lv_iinc (v := 8) (lv' := [(3, .int 8), (0, .ref m0), (1, .int na), (2, .int nb)]) hx hb dX11_drawing_58 hl (k := 0) rfl (by decide) (by decide) rfl (fun ls hl => ?_)
      refine lv_goto (tgt := 38) hx hb dX11_drawing_61 (by decide) ?_
      refine lv_iload_n hx hb dX11_drawing_38 rfl (lv_at hl 0 rfl) ?_
      refine lv_bipush (v := 12) hx hb dX11_drawing_39 (by decide) ?_
      refine lv_icmp_ge (tgt := 64) hx hb dX11_drawing_41 (by decide) (fun c27 => ?_) (fun c27 => ?_)
      · exact absurd c27 (by decide)
      refine lv_aload_n hx hb dX11_drawing_44 rfl (lv_at hl 1 rfl) ?_
      refine va_get (D := (dC, dI)) (ci := 11) (v := .ref mi) (C := RX11) (T := TX11) (N := 114) hx hb ht inX11 hown hK hP 0 rfl rfl 101 (by decide) (ht _ kw_1528) (fun _ h9 => h9) (gs_ne (by decide) (gs_ne (by decide) (gs_ne (by decide) hfm_101))) dX11_drawing_45 ?_
      refine lv_iload_n hx hb dX11_drawing_48 rfl (lv_at hl 0 rfl) ?_
      refine lv_iconst (v := (-1)) hx hb dX11_drawing_49 (by decide) ?_
      refine va_iast hx hb hK hP hD hS 1 0 rfl rfl (by unfold vp_in; decide) dX11_drawing_50 (fun H locs hP hD hS => ?_)
      generalize upd g25 (8 : Int32).toNatClampNeg (-1) = g28 at hP hD
      have hP : va_P (dC, dI) vwCl [(m0, .inr (11, (((fm.set 98 (.int 1)).set 99 (.int na)).set 100 (.int nb)))), (mi, .inl (kmi, 12, .inl g28)), (mj, .inl (kmj, 12, .inl g26))] H := hP
      have hD : va_D A [(m0, .inr (11, (((fm.set 98 (.int 1)).set 99 (.int na)).set 100 (.int nb)))), (mi, .inl (kmi, 12, .inl g28)), (mj, .inl (kmj, 12, .inl g26))] := hD
      refine lv_aload_n hx hb dX11_drawing_51 rfl (lv_at hl 1 rfl) ?_
      refine va_get (D := (dC, dI)) (ci := 11) (v := .ref mj) (C := RX11) (T := TX11) (N := 114) hx hb ht inX11 hown hK hP 0 rfl rfl 102 (by decide) (ht _ kw_1529) (fun _ h9 => h9) (gs_ne (by decide) (gs_ne (by decide) (gs_ne (by decide) hfm_102))) dX11_drawing_52 ?_
      refine lv_iload_n hx hb dX11_drawing_55 rfl (lv_at hl 0 rfl) ?_
      refine lv_iconst (v := (-1)) hx hb dX11_drawing_56 (by decide) ?_
      refine va_iast hx hb hK hP hD hS 2 1 rfl rfl (by unfold vp_in; decide) dX11_drawing_57 (fun H locs hP hD hS => ?_)
      generalize upd g26 (8 : Int32).toNatClampNeg (-1) = g29 at hP hD
      have hP : va_P (dC, dI) vwCl [(m0, .inr (11, (((fm.set 98 (.int 1)).set 99 (.int na)).set 100 (.int nb)))), (mi, .inl (kmi, 12, .inl g28)), (mj, .inl (kmj, 12, .inl g29))] H := hP
      have hD : va_D A [(m0, .inr (11, (((fm.set 98 (.int 1)).set 99 (.int na)).set 100 (.int nb)))), (mi, .inl (kmi, 12, .inl g28)), (mj, .inl (kmj, 12, .inl g29))] := hD
      refine lv_iinc (v := 9) (lv' := [(3, .int 9), (0, .ref m0), (1, .int na), (2, .int nb)]) hx hb dX11_drawing_58 hl (k := 0) rfl (by decide) (by decide) rfl (fun ls hl => ?_)
      refine lv_goto (tgt := 38) hx hb dX11_drawing_61 (by decide) ?_
      refine lv_iload_n hx hb dX11_drawing_38 rfl (lv_at hl 0 rfl) ?_
      refine lv_bipush (v := 12) hx hb dX11_drawing_39 (by decide) ?_
      refine lv_icmp_ge (tgt := 64) hx hb dX11_drawing_41 (by decide) (fun c30 => ?_) (fun c30 => ?_)
      · exact absurd c30 (by decide)
      refine lv_aload_n hx hb dX11_drawing_44 rfl (lv_at hl 1 rfl) ?_
      refine va_get (D := (dC, dI)) (ci := 11) (v := .ref mi) (C := RX11) (T := TX11) (N := 114) hx hb ht inX11 hown hK hP 0 rfl rfl 101 (by decide) (ht _ kw_1528) (fun _ h9 => h9) (gs_ne (by decide) (gs_ne (by decide) (gs_ne (by decide) hfm_101))) dX11_drawing_45 ?_
      refine lv_iload_n hx hb dX11_drawing_48 rfl (lv_at hl 0 rfl) ?_
      refine lv_iconst (v := (-1)) hx hb dX11_drawing_49 (by decide) ?_
      refine va_iast hx hb hK hP hD hS 1 0 rfl rfl (by unfold vp_in; decide) dX11_drawing_50 (fun H locs hP hD hS => ?_)
      generalize upd g28 (9 : Int32).toNatClampNeg (-1) = g31 at hP hD
      have hP : va_P (dC, dI) vwCl [(m0, .inr (11, (((fm.set 98 (.int 1)).set 99 (.int na)).set 100 (.int nb)))), (mi, .inl (kmi, 12, .inl g31)), (mj, .inl (kmj, 12, .inl g29))] H := hP
      have hD : va_D A [(m0, .inr (11, (((fm.set 98 (.int 1)).set 99 (.int na)).set 100 (.int nb)))), (mi, .inl (kmi, 12, .inl g31)), (mj, .inl (kmj, 12, .inl g29))] := hD
      refine lv_aload_n hx hb dX11_drawing_51 rfl (lv_at hl 1 rfl) ?_
      refine va_get (D := (dC, dI)) (ci := 11) (v := .ref mj) (C := RX11) (T := TX11) (N := 114) hx hb ht inX11 hown hK hP 0 rfl rfl 102 (by decide) (ht _ kw_1529) (fun _ h9 => h9) (gs_ne (by decide) (gs_ne (by decide) (gs_ne (by decide) hfm_102))) dX11_drawing_52 ?_
      refine lv_iload_n hx hb dX11_drawing_55 rfl (lv_at hl 0 rfl) ?_
      refine lv_iconst (v := (-1)) hx hb dX11_drawing_56 (by decide) ?_
      refine va_iast hx hb hK hP hD hS 2 1 rfl rfl (by unfold vp_in; decide) dX11_drawing_57 (fun H locs hP hD hS => ?_)
      generalize upd g29 (9 : Int32).toNatClampNeg (-1) = g32 at hP hD
      have hP : va_P (dC, dI) vwCl [(m0, .inr (11, (((fm.set 98 (.int 1)).set 99 (.int na)).set 100 (.int nb)))), (mi, .inl (kmi, 12, .inl g31)), (mj, .inl (kmj, 12, .inl g32))] H := hP
      have hD : va_D A [(m0, .inr (11, (((fm.set 98 (.int 1)).set 99 (.int na)).set 100 (.int nb)))), (mi, .inl (kmi, 12, .inl g31)), (mj, .inl (kmj, 12, .inl g32))] := hD
      refine lv_iinc (v := 10) (lv' := [(3, .int 10), (0, .ref m0), (1, .int na), (2, .int nb)]) hx hb dX11_drawing_58 hl (k := 0) rfl (by decide) (by decide) rfl (fun ls hl => ?_)
      refine lv_goto (tgt := 38) hx hb dX11_drawing_61 (by decide) ?_
      refine lv_iload_n hx hb dX11_drawing_38 rfl (lv_at hl 0 rfl) ?_
      refine lv_bipush (v := 12) hx hb dX11_drawing_39 (by decide) ?_
      refine lv_icmp_ge (tgt := 64) hx hb dX11_drawing_41 (by decide) (fun c33 => ?_) (fun c33 => ?_)
      · exact absurd c33 (by decide)
      refine lv_aload_n hx hb dX11_drawing_44 rfl (lv_at hl 1 rfl) ?_
      refine va_get (D := (dC, dI)) (ci := 11) (v := .ref mi) (C := RX11) (T := TX11) (N := 114) hx hb ht inX11 hown hK hP 0 rfl rfl 101 (by decide) (ht _ kw_1528) (fun _ h9 => h9) (gs_ne (by decide) (gs_ne (by decide) (gs_ne (by decide) hfm_101))) dX11_drawing_45 ?_
      refine lv_iload_n hx hb dX11_drawing_48 rfl (lv_at hl 0 rfl) ?_
      refine lv_iconst (v := (-1)) hx hb dX11_drawing_49 (by decide) ?_
      refine va_iast hx hb hK hP hD hS 1 0 rfl rfl (by unfold vp_in; decide) dX11_drawing_50 (fun H locs hP hD hS => ?_)
      generalize upd g31 (10 : Int32).toNatClampNeg (-1) = g34 at hP hD
      have hP : va_P (dC, dI) vwCl [(m0, .inr (11, (((fm.set 98 (.int 1)).set 99 (.int na)).set 100 (.int nb)))), (mi, .inl (kmi, 12, .inl g34)), (mj, .inl (kmj, 12, .inl g32))] H := hP
      have hD : va_D A [(m0, .inr (11, (((fm.set 98 (.int 1)).set 99 (.int na)).set 100 (.int nb)))), (mi, .inl (kmi, 12, .inl g34)), (mj, .inl (kmj, 12, .inl g32))] := hD
      refine lv_aload_n hx hb dX11_drawing_51 rfl (lv_at hl 1 rfl) ?_
      refine va_get (D := (dC, dI)) (ci := 11) (v := .ref mj) (C := RX11) (T := TX11) (N := 114) hx hb ht inX11 hown hK hP 0 rfl rfl 102 (by decide) (ht _ kw_1529) (fun _ h9 => h9) (gs_ne (by decide) (gs_ne (by decide) (gs_ne (by decide) hfm_102))) dX11_drawing_52 ?_
      refine lv_iload_n hx hb dX11_drawing_55 rfl (lv_at hl 0 rfl) ?_
      refine lv_iconst (v := (-1)) hx hb dX11_drawing_56 (by decide) ?_
      refine va_iast hx hb hK hP hD hS 2 1 rfl rfl (by unfold vp_in; decide) dX11_drawing_57 (fun H locs hP hD hS => ?_)
      generalize upd g32 (10 : Int32).toNatClampNeg (-1) = g35 at hP hD
      have hP : va_P (dC, dI) vwCl [(m0, .inr (11, (((fm.set 98 (.int 1)).set 99 (.int na)).set 100 (.int nb)))), (mi, .inl (kmi, 12, .inl g34)), (mj, .inl (kmj, 12, .inl g35))] H := hP
      have hD : va_D A [(m0, .inr (11, (((fm.set 98 (.int 1)).set 99 (.int na)).set 100 (.int nb)))), (mi, .inl (kmi, 12, .inl g34)), (mj, .inl (kmj, 12, .inl g35))] := hD
      refine lv_iinc (v := 11) (lv' := [(3, .int 11), (0, .ref m0), (1, .int na), (2, .int nb)]) hx hb dX11_drawing_58 hl (k := 0) rfl (by decide) (by decide) rfl (fun ls hl => ?_)
      refine lv_goto (tgt := 38) hx hb dX11_drawing_61 (by decide) ?_
      refine lv_iload_n hx hb dX11_drawing_38 rfl (lv_at hl 0 rfl) ?_
      refine lv_bipush (v := 12) hx hb dX11_drawing_39 (by decide) ?_
      refine lv_icmp_ge (tgt := 64) hx hb dX11_drawing_41 (by decide) (fun c36 => ?_) (fun c36 => ?_)
      · exact absurd c36 (by decide)
      refine lv_aload_n hx hb dX11_drawing_44 rfl (lv_at hl 1 rfl) ?_
      refine va_get (D := (dC, dI)) (ci := 11) (v := .ref mi) (C := RX11) (T := TX11) (N := 114) hx hb ht inX11 hown hK hP 0 rfl rfl 101 (by decide) (ht _ kw_1528) (fun _ h9 => h9) (gs_ne (by decide) (gs_ne (by decide) (gs_ne (by decide) hfm_101))) dX11_drawing_45 ?_
      refine lv_iload_n hx hb dX11_drawing_48 rfl (lv_at hl 0 rfl) ?_
      refine lv_iconst (v := (-1)) hx hb dX11_drawing_49 (by decide) ?_
      refine va_iast hx hb hK hP hD hS 1 0 rfl rfl (by unfold vp_in; decide) dX11_drawing_50 (fun H locs hP hD hS => ?_)
      generalize upd g34 (11 : Int32).toNatClampNeg (-1) = g37 at hP hD
      have hP : va_P (dC, dI) vwCl [(m0, .inr (11, (((fm.set 98 (.int 1)).set 99 (.int na)).set 100 (.int nb)))), (mi, .inl (kmi, 12, .inl g37)), (mj, .inl (kmj, 12, .inl g35))] H := hP
      have hD : va_D A [(m0, .inr (11, (((fm.set 98 (.int 1)).set 99 (.int na)).set 100 (.int nb)))), (mi, .inl (kmi, 12, .inl g37)), (mj, .inl (kmj, 12, .inl g35))] := hD
      refine lv_aload_n hx hb dX11_drawing_51 rfl (lv_at hl 1 rfl) ?_
      refine va_get (D := (dC, dI)) (ci := 11) (v := .ref mj) (C := RX11) (T := TX11) (N := 114) hx hb ht inX11 hown hK hP 0 rfl rfl 102 (by decide) (ht _ kw_1529) (fun _ h9 => h9) (gs_ne (by decide) (gs_ne (by decide) (gs_ne (by decide) hfm_102))) dX11_drawing_52 ?_
      refine lv_iload_n hx hb dX11_drawing_55 rfl (lv_at hl 0 rfl) ?_
      refine lv_iconst (v := (-1)) hx hb dX11_drawing_56 (by decide) ?_
      refine va_iast hx hb hK hP hD hS 2 1 rfl rfl (by unfold vp_in; decide) dX11_drawing_57 (fun H locs hP hD hS => ?_)
      generalize upd g35 (11 : Int32).toNatClampNeg (-1) = g38 at hP hD
      have hP : va_P (dC, dI) vwCl [(m0, .inr (11, (((fm.set 98 (.int 1)).set 99 (.int na)).set 100 (.int nb)))), (mi, .inl (kmi, 12, .inl g37)), (mj, .inl (kmj, 12, .inl g38))] H := hP
      have hD : va_D A [(m0, .inr (11, (((fm.set 98 (.int 1)).set 99 (.int na)).set 100 (.int nb)))), (mi, .inl (kmi, 12, .inl g37)), (mj, .inl (kmj, 12, .inl g38))] := hD
      refine lv_iinc (v := 12) (lv' := [(3, .int 12), (0, .ref m0), (1, .int na), (2, .int nb)]) hx hb dX11_drawing_58 hl (k := 0) rfl (by decide) (by decide) rfl (fun ls hl => ?_)
      refine lv_goto (tgt := 38) hx hb dX11_drawing_61 (by decide) ?_
      refine lv_iload_n hx hb dX11_drawing_38 rfl (lv_at hl 0 rfl) ?_
      refine lv_bipush (v := 12) hx hb dX11_drawing_39 (by decide) ?_
      refine lv_icmp_ge (tgt := 64) hx hb dX11_drawing_41 (by decide) (fun c39 => ?_) (fun c39 => ?_)
      rotate_left
      · exact absurd (by decide) c39
      refine lv_iconst (v := 1) hx hb dX11_drawing_64 (by decide) ?_
      exact W.iret hx hb hr (fun t ht9 hW => ⟨⟨_, (), rfl, (by unfold sp_X11_drawing; rw [if_neg c1, if_neg c2]), trivial⟩, hS.F ht9⟩) hS.2.2 dX11_drawing_65
    · refine lv_bipush (v := (-3)) hx hb dX11_drawing_18 (by decide) ?_
      exact W.iret hx hb hr (fun t ht9 hW => ⟨⟨_, (), rfl, (by unfold sp_X11_drawing; rw [if_neg c1, if_pos c2]), trivial⟩, hS.F ht9⟩) hS.2.2 dX11_drawing_20
end
section
abbrev cJ7_fill_53178 : ByteArray := prog_21_method_103_code
def yJ7_fill_53178 : MethodName := ⟨RJ7, "fill", "([II)V"⟩
theorem dJ7_fill_53178_0 : decode cJ7_fill_53178 0 = .ok (.iconst 0, 1) := by decide +kernel
theorem dJ7_fill_53178_1 : decode cJ7_fill_53178 1 = .ok (.istore_n 2, 1) := by decide +kernel
theorem dJ7_fill_53178_2 : decode cJ7_fill_53178 2 = .ok (.aload_n 0, 1) := by decide +kernel
theorem dJ7_fill_53178_3 : decode cJ7_fill_53178 3 = .ok (.arraylength, 1) := by decide +kernel
theorem dJ7_fill_53178_4 : decode cJ7_fill_53178 4 = .ok (.istore_n 3, 1) := by decide +kernel
theorem dJ7_fill_53178_5 : decode cJ7_fill_53178 5 = .ok (.iload_n 2, 1) := by decide +kernel
theorem dJ7_fill_53178_6 : decode cJ7_fill_53178 6 = .ok (.iload_n 3, 1) := by decide +kernel
theorem dJ7_fill_53178_7 : decode cJ7_fill_53178 7 = .ok (.if_icmp .ge 13, 3) := by decide +kernel
theorem dJ7_fill_53178_10 : decode cJ7_fill_53178 10 = .ok (.aload_n 0, 1) := by decide +kernel
theorem dJ7_fill_53178_11 : decode cJ7_fill_53178 11 = .ok (.iload_n 2, 1) := by decide +kernel
theorem dJ7_fill_53178_12 : decode cJ7_fill_53178 12 = .ok (.iload_n 1, 1) := by decide +kernel
theorem dJ7_fill_53178_13 : decode cJ7_fill_53178 13 = .ok (.iastore, 1) := by decide +kernel
theorem dJ7_fill_53178_14 : decode cJ7_fill_53178 14 = .ok (.iinc 2 1, 3) := by decide +kernel
theorem dJ7_fill_53178_17 : decode cJ7_fill_53178 17 = .ok (.goto (-12), 3) := by decide +kernel
theorem dJ7_fill_53178_20 : decode cJ7_fill_53178 20 = .ok (.return_, 1) := by decide +kernel
theorem kw_267 : Cond.code yJ7_fill_53178 cJ7_fill_53178 4 none ∈ lw_g := lw_at 267 (by decide +kernel) rfl
abbrev fl_Q (dC : Nat → ClassId) (dI : Nat → Nat → Nat) (a : Nat) (cA : ClassId) (n : Nat) (A : Nat → Prop) : Array Value → State → Outcome → State → Prop := va_Qv (fun (_ : Unit) => True) (fun _ t => ∃ g : Nat → Int32, va_P (dC, dI) vwCl [(a, .inl (cA, n, .inl g))] t.heap ∧ va_K (dC, dI) vwCl [(cA, .int)] t ∧ va_D A [(a, .inl (cA, n, .inl g))]) A
set_option maxHeartbeats 4000000 in
set_option maxRecDepth 100000 in
/-- Arrays.fill: the row is written, no other cell -/
theorem ct_J7_fill_53178 (l : Launch) (dC : Nat → ClassId) (dI : Nat → Nat → Nat) (a : Nat) (cA : ClassId) (n : Nat) (f : Nat → Int32) (hn : n < 2 ^ 31) (sz : Nat) (v : Int32) : Met l yJ7_fill_53178 (.code yJ7_fill_53178 cJ7_fill_53178 4 none :: lw_g) ({ frames := 0, cells := 0, slots := 0, locals := 0 }) (ro_P dC dI [(a, .inl (cA, n, .inl f))] [(cA, .int)] sz [.ref a, .int v]) (fl_Q dC dI a cA n (va_A [(a, .inl (cA, n, .inl f))] sz)) 0 0 (va_A [(a, .inl (cA, n, .inl f))] sz) := by
  refine ro_entry (by decide) (Nat.le_of_ble_eq_true rfl) ?_
  intro p e s m below meth c ls hx hb hr hlocks ht hown hin hml hsz hP hK hD hE hl
  subst hsz
  have hD := hD.self (sz := s.heap.size)
  generalize hAe : va_A [(a, .inl (cA, n, .inl f))] s.heap.size = A at hD ⊢
  have hA : ∀ q, s.heap.size ≤ q → A q := fun q h => by rw [← hAe]; exact Or.inr h
  have hS : va_S A s.heap s.heap [] := va_S.rf
  have hl : lv_has ls 4 [(0, .ref a), (1, .int v)] := hl
  have loop : ∀ (k i : Nat), i + k = n → ∀ (f : Nat → Int32) (H : Heap) (locs : List Loc) (ls : Array Slot), va_P (dC, dI) vwCl [(a, .inl (cA, n, .inl f))] H → va_D A [(a, .inl (cA, n, .inl f))] → va_S A s.heap H locs → lv_has ls 4 [(2, .int (nI i)), (3, .int (nI n)), (0, .ref a), (1, .int v)] → W p l e ({ frames := 0, cells := 0, slots := 0, locals := 0 }) s m [Value.ref a, Value.int v].toArray below meth c H locs 0 0 (MQ below (fl_Q dC dI a cA n A) [Value.ref a, Value.int v].toArray s 0 0 A) (F0 m 5 ls []) := by
    intro k
    induction k with
    | zero =>
      intro i hi f H locs ls hP hD hS hl
      refine lv_iload_n hx hb dJ7_fill_53178_5 rfl (lv_at hl 0 rfl) ?_
      refine lv_iload_n hx hb dJ7_fill_53178_6 rfl (lv_at hl 1 rfl) ?_
      refine lv_icmp_ge (tgt := 20) hx hb dJ7_fill_53178_7 (by decide) (fun c1 => ?_) (fun c1 => absurd (nI_le (by omega) (by omega)) c1)
      exact W.vret hx hb hr (fun t ht9 hW => ⟨⟨(), rfl, trivial, f, by rw [ht9]; exact hP, va_K.moved hW.alike hK, hD⟩, hS.F ht9⟩) hS.2.2 dJ7_fill_53178_20
    | succ k ih =>
      intro i hi f H locs ls hP hD hS hl
      refine lv_iload_n hx hb dJ7_fill_53178_5 rfl (lv_at hl 0 rfl) ?_
      refine lv_iload_n hx hb dJ7_fill_53178_6 rfl (lv_at hl 1 rfl) ?_
      refine lv_icmp_ge (tgt := 20) hx hb dJ7_fill_53178_7 (by decide) (fun c1 => absurd c1 (nI_ge (by omega) hn)) (fun c1 => ?_)
      refine lv_aload_n hx hb dJ7_fill_53178_10 rfl (lv_at hl 2 rfl) ?_
      refine lv_iload_n hx hb dJ7_fill_53178_11 rfl (lv_at hl 0 rfl) ?_
      refine lv_iload_n hx hb dJ7_fill_53178_12 rfl (lv_at hl 3 rfl) ?_
      refine va_iast hx hb hK hP hD hS 0 0 rfl rfl (vp_in_nI (by omega) hn) dJ7_fill_53178_13 (fun H locs hP hD hS => ?_)
      generalize upd f (nI i).toNatClampNeg v = g at hP hD
      have hP : va_P (dC, dI) vwCl [(a, .inl (cA, n, .inl g))] H := hP
      have hD : va_D A [(a, .inl (cA, n, .inl g))] := hD
      obtain ⟨x2, ex2⟩ : ∃ y : Int32, y = nI i + 1 := ⟨_, rfl⟩
      refine lv_iinc (v := x2) (lv' := [(2, .int x2), (3, .int (nI n)), (0, .ref a), (1, .int v)]) hx hb dJ7_fill_53178_14 hl (k := 0) rfl (by rw [ex2]; rfl) (by decide) rfl (fun ls hl => ?_)
      have ex2 := ex2.trans (nI_1 i)
      subst ex2
      refine lv_goto (tgt := 5) hx hb dJ7_fill_53178_17 (by decide) ?_
      exact ih (i + 1) (by omega) g H locs ls hP hD hS hl
  refine lv_iconst (v := 0) hx hb dJ7_fill_53178_0 (by decide) ?_
  refine lv_istore_n (lv' := [(2, .int 0), (0, .ref a), (1, .int v)]) hx hb dJ7_fill_53178_1 rfl hl (by decide) rfl (fun ls hl => ?_)
  refine lv_aload_n hx hb dJ7_fill_53178_2 rfl (lv_at hl 1 rfl) ?_
  refine va_alen hx hb hK hP 0 0 rfl rfl (v := nI n) rfl dJ7_fill_53178_3 ?_
  refine lv_istore_n (lv' := [(3, .int (nI n)), (2, .int 0), (0, .ref a), (1, .int v)]) hx hb dJ7_fill_53178_4 rfl hl (by decide) rfl (fun ls hl => ?_)
  exact loop n 0 (Nat.zero_add n) f s.heap [] ls hP hD hS (lv_sub hl [1, 0, 2, 3] rfl)
theorem nf_X0 : ∀ j, j < 9 → defaultValue (tyX0 j) = vp_V [.int 0, .null, .null, .null, .null, .int 0, .int 0, .int 0, .int 0] j := by decide +kernel
theorem nf_X1 : ∀ j, j < 16 → defaultValue (tyX1 j) = vp_V [.null, .int 0, .int 0, .int 0, .int 0, .int 0, .int 0, .int 0, .null, .null, .null, .null, .null, .int 0, .null, .null] j := by decide +kernel
theorem nf_X4 : ∀ j, j < 5 → defaultValue (tyX4 j) = vp_V [.null, .null, .null, .int 0, .null] j := by decide +kernel
theorem nf_X5 : ∀ j, j < 10 → defaultValue (tyX5 j) = vp_V [.null, .int 0, .int 0, .int 0, .null, .null, .int 0, .int 0, .int 0, .int 0] j := by decide +kernel
theorem nf_X6 : ∀ j, j < 16 → defaultValue (tyX6 j) = vp_V [.null, .null, .int 0, .null, .int 0, .int 0, .int 0, .null, .null, .null, .null, .null, .int 0, .null, .null, .null] j := by decide +kernel
theorem nf_X7 : ∀ j, j < 14 → defaultValue (tyX7 j) = vp_V [.null, .null, .null, .null, .null, .null, .null, .null, .null, .null, .null, .null, .null, .int 0] j := by decide +kernel
theorem nf_X8 : ∀ j, j < 14 → defaultValue (tyX8 j) = vp_V [.null, .null, .int 0, .int 0, .null, .int 0, .null, .null, .null, .null, .null, .null, .int 0, .int 0] j := by decide +kernel
theorem nf_X9 : ∀ j, j < 16 → defaultValue (tyX9 j) = vp_V [.null, .null, .int 0, .int 0, .null, .null, .int 0, .null, .null, .int 0, .null, .null, .null, .null, .null, .null] j := by decide +kernel
abbrev cX5_init : ByteArray := prog_7_method_1_code
def yX5_init : MethodName := ⟨RX5, "<init>", "()V"⟩
theorem dX5_init_0 : decode cX5_init 0 = .ok (.aload_n 0, 1) := by decide +kernel
theorem dX5_init_1 : decode cX5_init 1 = .ok (.invokespecial 3, 3) := by decide +kernel
theorem kw_27 : Cond.instanceMethod objectInit ∈ lw_g := lw_at 27 (by decide +kernel) rfl
theorem kw_28 : Cond.code objectInit ⟨#[0xb1]⟩ 1 none ∈ lw_g := lw_at 28 (by decide +kernel) rfl
theorem kw_34 : Cond.methodLink RX5 3 objectInit ∈ lw_g := lw_at 34 (by decide +kernel) rfl
theorem dX5_init_4 : decode cX5_init 4 = .ok (.aload_n 0, 1) := by decide +kernel
theorem dX5_init_5 : decode cX5_init 5 = .ok (.sipush 400, 3) := by decide +kernel
theorem dX5_init_8 : decode cX5_init 8 = .ok (.newarray .int, 2) := by decide +kernel
theorem kw_72 : Cond.arrayClass .int ∈ lw_g := lw_at 72 (by decide +kernel) rfl
theorem dX5_init_10 : decode cX5_init 10 = .ok (.putfield 9, 3) := by decide +kernel
theorem kw_35 : Cond.fieldLink RX5 9 "SportsHouse$RuleText" "bytes" "[I" ∈ lw_g := lw_at 35 (by decide +kernel) rfl
theorem dX5_init_13 : decode cX5_init 13 = .ok (.aload_n 0, 1) := by decide +kernel
theorem dX5_init_14 : decode cX5_init 14 = .ok (.iconst (-1), 1) := by decide +kernel
theorem dX5_init_15 : decode cX5_init 15 = .ok (.putfield 15, 3) := by decide +kernel
theorem kw_41 : Cond.fieldLink RX5 15 "SportsHouse$RuleText" "faultAt" "I" ∈ lw_g := lw_at 41 (by decide +kernel) rfl
theorem dX5_init_18 : decode cX5_init 18 = .ok (.aload_n 0, 1) := by decide +kernel
theorem dX5_init_19 : decode cX5_init 19 = .ok (.bipush 16, 2) := by decide +kernel
theorem dX5_init_21 : decode cX5_init 21 = .ok (.newarray .int, 2) := by decide +kernel
theorem dX5_init_23 : decode cX5_init 23 = .ok (.putfield 19, 3) := by decide +kernel
theorem kw_43 : Cond.fieldLink RX5 19 "SportsHouse$RuleText" "values" "[I" ∈ lw_g := lw_at 43 (by decide +kernel) rfl
theorem dX5_init_26 : decode cX5_init 26 = .ok (.aload_n 0, 1) := by decide +kernel
theorem dX5_init_27 : decode cX5_init 27 = .ok (.bipush 7, 2) := by decide +kernel
theorem dX5_init_29 : decode cX5_init 29 = .ok (.newarray .int, 2) := by decide +kernel
theorem dX5_init_31 : decode cX5_init 31 = .ok (.putfield 22, 3) := by decide +kernel
theorem kw_45 : Cond.fieldLink RX5 22 "SportsHouse$RuleText" "keys" "[I" ∈ lw_g := lw_at 45 (by decide +kernel) rfl
theorem dX5_init_34 : decode cX5_init 34 = .ok (.return_, 1) := by decide +kernel
set_option maxHeartbeats 4000000 in
set_option maxRecDepth 100000 in
theorem ct_X5_init (l : Launch) (dC : Nat → ClassId) (dI : Nat → Nat → Nat) (h0 : Nat) (sz : Nat)  : Met l yX5_init (.code yX5_init cX5_init 1 none :: lw_g) ({ frames := 1, cells := 3, slots := 423, locals := 60 }) (ro_P dC dI [(h0, .inr (5, [.null, .int 0, .int 0, .int 0, .null, .null, .int 0, .int 0, .int 0, .int 0]))] [] sz [.ref h0]) (va_Qv (fun (_ : Unit) => True) (fun _ t => ∃ (q1 : Nat) (q3 : Nat) (q5 : Nat) (k2 : ClassId) (k4 : ClassId) (k6 : ClassId), va_P (dC, dI) vwCl [(h0, .inr (5, [.ref q1, .int 0, .int 0, .int (-1), .ref q3, .ref q5, .int 0, .int 0, .int 0, .int 0])), (q1, .inl (k2, 400, .inl (fun _ => 0))), (q3, .inl (k4, 16, .inl (fun _ => 0))), (q5, .inl (k6, 7, .inl (fun _ => 0)))] t.heap ∧ va_K (dC, dI) vwCl [(k2, .int), (k4, .int), (k6, .int)] t ∧ va_D (va_A [(h0, .inr (5, [.null, .int 0, .int 0, .int 0, .null, .null, .int 0, .int 0, .int 0, .int 0]))] sz) [(h0, .inr (5, [.ref q1, .int 0, .int 0, .int (-1), .ref q3, .ref q5, .int 0, .int 0, .int 0, .int 0])), (q1, .inl (k2, 400, .inl (fun _ => 0))), (q3, .inl (k4, 16, .inl (fun _ => 0))), (q5, .inl (k6, 7, .inl (fun _ => 0)))]) (va_A [(h0, .inr (5, [.null, .int 0, .int 0, .int 0, .null, .null, .int 0, .int 0, .int 0, .int 0]))] sz)) 3 423 (va_A [(h0, .inr (5, [.null, .int 0, .int 0, .int 0, .null, .null, .int 0, .int 0, .int 0, .int 0]))] sz) := by
  refine ro_entry (by decide) (Nat.le_of_ble_eq_true rfl) ?_
  intro p e s m below meth c ls hx hb hr hlocks ht hown hin hml hsz hP hK hD hE hl
  subst hsz
  have hD := hD.self (sz := s.heap.size)
  generalize hAe : va_A [(h0, .inr (5, [.null, .int 0, .int 0, .int 0, .null, .null, .int 0, .int 0, .int 0, .int 0]))] s.heap.size = A at hD ⊢
  have hA : ∀ q, s.heap.size ≤ q → A q := fun q h => by rw [← hAe]; exact Or.inr h
  have hS : va_S A s.heap s.heap [] := va_S.rf
  have hl : lv_has ls 1 [(0, .ref h0)] := hl
  have hown : s.vm.findClass RX5 = some m.cls := hown
  refine lv_aload_n hx hb dX5_init_0 rfl (lv_at hl 0 rfl) ?_
  refine W.objInit hx hb hown (ht _ kw_34) (ht _ kw_27) (ht _ kw_28) rfl (by rw [hml]; exact hl.1) rfl dX5_init_1 (Nat.le_of_ble_eq_true rfl) (Nat.le_of_ble_eq_true rfl) ?_
  refine W.eq (g2 := F0 m 4 ls []) rfl ?_
  refine lv_aload_n hx hb dX5_init_4 rfl (lv_at hl 0 rfl) ?_
  refine lv_sipush (v := 400) hx hb dX5_init_5 (by decide) ?_
  refine va_newa (atype := .int) (ty := .int) (a0 := (400, .inl (fun _ => 0))) hx hb (ht _ kw_72) rfl hK hP hD hS hA (fun _ => rfl) (by decide) (by decide) (Nat.le_of_ble_eq_true rfl) (Nat.le_of_ble_eq_true rfl) (Nat.le_of_ble_eq_true rfl) dX5_init_8 (fun q1 k2 H hK hP hD hS => ?_)
  have hP : va_P (dC, dI) vwCl [(h0, .inr (5, [.null, .int 0, .int 0, .int 0, .null, .null, .int 0, .int 0, .int 0, .int 0])), (q1, .inl (k2, 400, .inl (fun _ => 0)))] H := hP
  have hD : va_D A [(h0, .inr (5, [.null, .int 0, .int 0, .int 0, .null, .null, .int 0, .int 0, .int 0, .int 0])), (q1, .inl (k2, 400, .inl (fun _ => 0)))] := hD
  have hK : va_K (dC, dI) vwCl [(k2, .int)] s := hK
  refine W.widen (k := 1) (n := 400) (Nat.le_of_ble_eq_true rfl) (Nat.le_of_ble_eq_true rfl) ?_
  refine va_putF (D := (dC, dI)) (ci := 5) (v := .ref q1) (ty := .array .int) (C := RX5) (T := TX5) (N := 10) hx hb ht inX5 tyX5 tyX5_ok nmX5 hown hK hP hD hS 0 rfl rfl 0 (by decide) (ht _ kw_35) (fun _ h9 => h9) rfl hin rfl (by decide +kernel) rfl rfl (Nat.le_of_ble_eq_true rfl) dX5_init_10 (fun H locs hP hD hS => ?_)
  have hP : va_P (dC, dI) vwCl [(h0, .inr (5, [.ref q1, .int 0, .int 0, .int 0, .null, .null, .int 0, .int 0, .int 0, .int 0])), (q1, .inl (k2, 400, .inl (fun _ => 0)))] H := hP
  have hD : va_D A [(h0, .inr (5, [.ref q1, .int 0, .int 0, .int 0, .null, .null, .int 0, .int 0, .int 0, .int 0])), (q1, .inl (k2, 400, .inl (fun _ => 0)))] := hD
  refine lv_aload_n hx hb dX5_init_13 rfl (lv_at hl 0 rfl) ?_
  refine lv_iconst (v := (-1)) hx hb dX5_init_14 (by decide) ?_
  refine va_put (D := (dC, dI)) (ci := 5) (v := .int (-1)) (ty := .int) (C := RX5) (T := TX5) (N := 10) hx hb ht inX5 tyX5 tyX5_ok nmX5 hown hK hP hD hS 0 rfl rfl 3 (by decide) (ht _ kw_41) (fun _ h9 => h9) rfl (by decide +kernel) rfl rfl (Nat.le_of_ble_eq_true rfl) dX5_init_15 (fun H locs hP hD hS => ?_)
  have hP : va_P (dC, dI) vwCl [(h0, .inr (5, [.ref q1, .int 0, .int 0, .int (-1), .null, .null, .int 0, .int 0, .int 0, .int 0])), (q1, .inl (k2, 400, .inl (fun _ => 0)))] H := hP
  have hD : va_D A [(h0, .inr (5, [.ref q1, .int 0, .int 0, .int (-1), .null, .null, .int 0, .int 0, .int 0, .int 0])), (q1, .inl (k2, 400, .inl (fun _ => 0)))] := hD
  refine lv_aload_n hx hb dX5_init_18 rfl (lv_at hl 0 rfl) ?_
  refine lv_bipush (v := 16) hx hb dX5_init_19 (by decide) ?_
  refine va_newa (atype := .int) (ty := .int) (a0 := (16, .inl (fun _ => 0))) hx hb (ht _ kw_72) rfl hK hP hD hS hA (fun _ => rfl) (by decide) (by decide) (Nat.le_of_ble_eq_true rfl) (Nat.le_of_ble_eq_true rfl) (Nat.le_of_ble_eq_true rfl) dX5_init_21 (fun q3 k4 H hK hP hD hS => ?_)
  have hP : va_P (dC, dI) vwCl [(h0, .inr (5, [.ref q1, .int 0, .int 0, .int (-1), .null, .null, .int 0, .int 0, .int 0, .int 0])), (q1, .inl (k2, 400, .inl (fun _ => 0))), (q3, .inl (k4, 16, .inl (fun _ => 0)))] H := hP
  have hD : va_D A [(h0, .inr (5, [.ref q1, .int 0, .int 0, .int (-1), .null, .null, .int 0, .int 0, .int 0, .int 0])), (q1, .inl (k2, 400, .inl (fun _ => 0))), (q3, .inl (k4, 16, .inl (fun _ => 0)))] := hD
  have hK : va_K (dC, dI) vwCl [(k2, .int), (k4, .int)] s := hK
  refine W.widen (k := 2) (n := 416) (Nat.le_of_ble_eq_true rfl) (Nat.le_of_ble_eq_true rfl) ?_
  refine va_putF (D := (dC, dI)) (ci := 5) (v := .ref q3) (ty := .array .int) (C := RX5) (T := TX5) (N := 10) hx hb ht inX5 tyX5 tyX5_ok nmX5 hown hK hP hD hS 0 rfl rfl 4 (by decide) (ht _ kw_43) (fun _ h9 => h9) rfl hin rfl (by decide +kernel) rfl rfl (Nat.le_of_ble_eq_true rfl) dX5_init_23 (fun H locs hP hD hS => ?_)
  have hP : va_P (dC, dI) vwCl [(h0, .inr (5, [.ref q1, .int 0, .int 0, .int (-1), .ref q3, .null, .int 0, .int 0, .int 0, .int 0])), (q1, .inl (k2, 400, .inl (fun _ => 0))), (q3, .inl (k4, 16, .inl (fun _ => 0)))] H := hP
  have hD : va_D A [(h0, .inr (5, [.ref q1, .int 0, .int 0, .int (-1), .ref q3, .null, .int 0, .int 0, .int 0, .int 0])), (q1, .inl (k2, 400, .inl (fun _ => 0))), (q3, .inl (k4, 16, .inl (fun _ => 0)))] := hD
  refine lv_aload_n hx hb dX5_init_26 rfl (lv_at hl 0 rfl) ?_
  refine lv_bipush (v := 7) hx hb dX5_init_27 (by decide) ?_
  refine va_newa (atype := .int) (ty := .int) (a0 := (7, .inl (fun _ => 0))) hx hb (ht _ kw_72) rfl hK hP hD hS hA (fun _ => rfl) (by decide) (by decide) (Nat.le_of_ble_eq_true rfl) (Nat.le_of_ble_eq_true rfl) (Nat.le_of_ble_eq_true rfl) dX5_init_29 (fun q5 k6 H hK hP hD hS => ?_)
  have hP : va_P (dC, dI) vwCl [(h0, .inr (5, [.ref q1, .int 0, .int 0, .int (-1), .ref q3, .null, .int 0, .int 0, .int 0, .int 0])), (q1, .inl (k2, 400, .inl (fun _ => 0))), (q3, .inl (k4, 16, .inl (fun _ => 0))), (q5, .inl (k6, 7, .inl (fun _ => 0)))] H := hP
  have hD : va_D A [(h0, .inr (5, [.ref q1, .int 0, .int 0, .int (-1), .ref q3, .null, .int 0, .int 0, .int 0, .int 0])), (q1, .inl (k2, 400, .inl (fun _ => 0))), (q3, .inl (k4, 16, .inl (fun _ => 0))), (q5, .inl (k6, 7, .inl (fun _ => 0)))] := hD
  have hK : va_K (dC, dI) vwCl [(k2, .int), (k4, .int), (k6, .int)] s := hK
  refine W.widen (k := 3) (n := 423) (Nat.le_of_ble_eq_true rfl) (Nat.le_of_ble_eq_true rfl) ?_
  refine va_putF (D := (dC, dI)) (ci := 5) (v := .ref q5) (ty := .array .int) (C := RX5) (T := TX5) (N := 10) hx hb ht inX5 tyX5 tyX5_ok nmX5 hown hK hP hD hS 0 rfl rfl 5 (by decide) (ht _ kw_45) (fun _ h9 => h9) rfl hin rfl (by decide +kernel) rfl rfl (Nat.le_of_ble_eq_true rfl) dX5_init_31 (fun H locs hP hD hS => ?_)
  have hP : va_P (dC, dI) vwCl [(h0, .inr (5, [.ref q1, .int 0, .int 0, .int (-1), .ref q3, .ref q5, .int 0, .int 0, .int 0, .int 0])), (q1, .inl (k2, 400, .inl (fun _ => 0))), (q3, .inl (k4, 16, .inl (fun _ => 0))), (q5, .inl (k6, 7, .inl (fun _ => 0)))] H := hP
  have hD : va_D A [(h0, .inr (5, [.ref q1, .int 0, .int 0, .int (-1), .ref q3, .ref q5, .int 0, .int 0, .int 0, .int 0])), (q1, .inl (k2, 400, .inl (fun _ => 0))), (q3, .inl (k4, 16, .inl (fun _ => 0))), (q5, .inl (k6, 7, .inl (fun _ => 0)))] := hD
  exact W.vret hx hb hr (fun t ht9 hW => ⟨⟨(), rfl, trivial, q1, q3, q5, k2, k4, k6, by rw [ht9]; exact hP, va_K.moved hW.alike hK, hD⟩, hS.F ht9⟩) hS.2.2 dX5_init_34
abbrev cX8_init : ByteArray := prog_10_method_1_code
def yX8_init : MethodName := ⟨RX8, "<init>", "()V"⟩
theorem dX8_init_0 : decode cX8_init 0 = .ok (.aload_n 0, 1) := by decide +kernel
theorem dX8_init_1 : decode cX8_init 1 = .ok (.invokespecial 3, 3) := by decide +kernel
theorem kw_78 : Cond.methodLink RX8 3 objectInit ∈ lw_g := lw_at 78 (by decide +kernel) rfl
theorem dX8_init_4 : decode cX8_init 4 = .ok (.aload_n 0, 1) := by decide +kernel
theorem dX8_init_5 : decode cX8_init 5 = .ok (.bipush 12, 2) := by decide +kernel
theorem dX8_init_7 : decode cX8_init 7 = .ok (.newarray .int, 2) := by decide +kernel
theorem dX8_init_9 : decode cX8_init 9 = .ok (.putfield 9, 3) := by decide +kernel
theorem kw_79 : Cond.fieldLink RX8 9 "SportsHouse$Things" "stadium" "[I" ∈ lw_g := lw_at 79 (by decide +kernel) rfl
theorem dX8_init_12 : decode cX8_init 12 = .ok (.aload_n 0, 1) := by decide +kernel
theorem dX8_init_13 : decode cX8_init 13 = .ok (.bipush 12, 2) := by decide +kernel
theorem dX8_init_15 : decode cX8_init 15 = .ok (.newarray .int, 2) := by decide +kernel
theorem dX8_init_17 : decode cX8_init 17 = .ok (.putfield 15, 3) := by decide +kernel
theorem kw_83 : Cond.fieldLink RX8 15 "SportsHouse$Things" "country" "[I" ∈ lw_g := lw_at 83 (by decide +kernel) rfl
theorem dX8_init_20 : decode cX8_init 20 = .ok (.aload_n 0, 1) := by decide +kernel
theorem dX8_init_21 : decode cX8_init 21 = .ok (.sipush 200, 3) := by decide +kernel
theorem dX8_init_24 : decode cX8_init 24 = .ok (.newarray .int, 2) := by decide +kernel
theorem dX8_init_26 : decode cX8_init 26 = .ok (.putfield 18, 3) := by decide +kernel
theorem kw_89 : Cond.fieldLink RX8 18 "SportsHouse$Things" "firstSpan" "[I" ∈ lw_g := lw_at 89 (by decide +kernel) rfl
theorem dX8_init_29 : decode cX8_init 29 = .ok (.aload_n 0, 1) := by decide +kernel
theorem dX8_init_30 : decode cX8_init 30 = .ok (.sipush 300, 3) := by decide +kernel
theorem dX8_init_33 : decode cX8_init 33 = .ok (.newarray .int, 2) := by decide +kernel
theorem dX8_init_35 : decode cX8_init 35 = .ok (.putfield 21, 3) := by decide +kernel
theorem kw_93 : Cond.fieldLink RX8 21 "SportsHouse$Things" "spanClub" "[I" ∈ lw_g := lw_at 93 (by decide +kernel) rfl
theorem dX8_init_38 : decode cX8_init 38 = .ok (.aload_n 0, 1) := by decide +kernel
theorem dX8_init_39 : decode cX8_init 39 = .ok (.sipush 300, 3) := by decide +kernel
theorem dX8_init_42 : decode cX8_init 42 = .ok (.newarray .int, 2) := by decide +kernel
theorem dX8_init_44 : decode cX8_init 44 = .ok (.putfield 24, 3) := by decide +kernel
theorem kw_94 : Cond.fieldLink RX8 24 "SportsHouse$Things" "spanFrom" "[I" ∈ lw_g := lw_at 94 (by decide +kernel) rfl
theorem dX8_init_47 : decode cX8_init 47 = .ok (.aload_n 0, 1) := by decide +kernel
theorem dX8_init_48 : decode cX8_init 48 = .ok (.sipush 300, 3) := by decide +kernel
theorem dX8_init_51 : decode cX8_init 51 = .ok (.newarray .int, 2) := by decide +kernel
theorem dX8_init_53 : decode cX8_init 53 = .ok (.putfield 27, 3) := by decide +kernel
theorem kw_95 : Cond.fieldLink RX8 27 "SportsHouse$Things" "spanTo" "[I" ∈ lw_g := lw_at 95 (by decide +kernel) rfl
theorem dX8_init_56 : decode cX8_init 56 = .ok (.aload_n 0, 1) := by decide +kernel
theorem dX8_init_57 : decode cX8_init 57 = .ok (.sipush 300, 3) := by decide +kernel
theorem dX8_init_60 : decode cX8_init 60 = .ok (.newarray .int, 2) := by decide +kernel
theorem dX8_init_62 : decode cX8_init 62 = .ok (.putfield 30, 3) := by decide +kernel
theorem kw_96 : Cond.fieldLink RX8 30 "SportsHouse$Things" "nextSpan" "[I" ∈ lw_g := lw_at 96 (by decide +kernel) rfl
theorem dX8_init_65 : decode cX8_init 65 = .ok (.aload_n 0, 1) := by decide +kernel
theorem dX8_init_66 : decode cX8_init 66 = .ok (.bipush 8, 2) := by decide +kernel
theorem dX8_init_68 : decode cX8_init 68 = .ok (.newarray .int, 2) := by decide +kernel
theorem dX8_init_70 : decode cX8_init 70 = .ok (.putfield 33, 3) := by decide +kernel
theorem kw_97 : Cond.fieldLink RX8 33 "SportsHouse$Things" "officialHome" "[I" ∈ lw_g := lw_at 97 (by decide +kernel) rfl
theorem dX8_init_73 : decode cX8_init 73 = .ok (.aload_n 0, 1) := by decide +kernel
theorem dX8_init_74 : decode cX8_init 74 = .ok (.bipush 8, 2) := by decide +kernel
theorem dX8_init_76 : decode cX8_init 76 = .ok (.newarray .int, 2) := by decide +kernel
theorem dX8_init_78 : decode cX8_init 78 = .ok (.putfield 36, 3) := by decide +kernel
theorem kw_100 : Cond.fieldLink RX8 36 "SportsHouse$Things" "officialCountry" "[I" ∈ lw_g := lw_at 100 (by decide +kernel) rfl
theorem dX8_init_81 : decode cX8_init 81 = .ok (.return_, 1) := by decide +kernel
set_option maxHeartbeats 4000000 in
set_option maxRecDepth 100000 in
theorem ct_X8_init (l : Launch) (dC : Nat → ClassId) (dI : Nat → Nat → Nat) (h0 : Nat) (sz : Nat)  : Met l yX8_init (.code yX8_init cX8_init 1 none :: lw_g) ({ frames := 1, cells := 9, slots := 1440, locals := 60 }) (ro_P dC dI [(h0, .inr (8, [.null, .null, .int 0, .int 0, .null, .int 0, .null, .null, .null, .null, .null, .null, .int 0, .int 0]))] [] sz [.ref h0]) (va_Qv (fun (_ : Unit) => True) (fun _ t => ∃ (q1 : Nat) (q3 : Nat) (q5 : Nat) (q7 : Nat) (q9 : Nat) (q11 : Nat) (q13 : Nat) (q15 : Nat) (q17 : Nat) (k2 : ClassId) (k4 : ClassId) (k6 : ClassId) (k16 : ClassId) (k18 : ClassId), va_P (dC, dI) vwCl [(h0, .inr (8, [.ref q1, .ref q3, .int 0, .int 0, .ref q5, .int 0, .ref q7, .ref q9, .ref q11, .ref q13, .ref q15, .ref q17, .int 0, .int 0])), (q1, .inl (k2, 12, .inl (fun _ => 0))), (q3, .inl (k4, 12, .inl (fun _ => 0))), (q5, .inl (k6, 200, .inl (fun _ => 0))), (q15, .inl (k16, 8, .inl (fun _ => 0))), (q17, .inl (k18, 8, .inl (fun _ => 0)))] t.heap ∧ va_K (dC, dI) vwCl [(k2, .int), (k4, .int), (k6, .int), (k16, .int), (k18, .int)] t ∧ va_D (va_A [(h0, .inr (8, [.null, .null, .int 0, .int 0, .null, .int 0, .null, .null, .null, .null, .null, .null, .int 0, .int 0]))] sz) [(h0, .inr (8, [.ref q1, .ref q3, .int 0, .int 0, .ref q5, .int 0, .ref q7, .ref q9, .ref q11, .ref q13, .ref q15, .ref q17, .int 0, .int 0])), (q1, .inl (k2, 12, .inl (fun _ => 0))), (q3, .inl (k4, 12, .inl (fun _ => 0))), (q5, .inl (k6, 200, .inl (fun _ => 0))), (q15, .inl (k16, 8, .inl (fun _ => 0))), (q17, .inl (k18, 8, .inl (fun _ => 0)))]) (va_A [(h0, .inr (8, [.null, .null, .int 0, .int 0, .null, .int 0, .null, .null, .null, .null, .null, .null, .int 0, .int 0]))] sz)) 9 1440 (va_A [(h0, .inr (8, [.null, .null, .int 0, .int 0, .null, .int 0, .null, .null, .null, .null, .null, .null, .int 0, .int 0]))] sz) := by
  refine ro_entry (by decide) (Nat.le_of_ble_eq_true rfl) ?_
  intro p e s m below meth c ls hx hb hr hlocks ht hown hin hml hsz hP hK hD hE hl
  subst hsz
  have hD := hD.self (sz := s.heap.size)
  generalize hAe : va_A [(h0, .inr (8, [.null, .null, .int 0, .int 0, .null, .int 0, .null, .null, .null, .null, .null, .null, .int 0, .int 0]))] s.heap.size = A at hD ⊢
  have hA : ∀ q, s.heap.size ≤ q → A q := fun q h => by rw [← hAe]; exact Or.inr h
  have hS : va_S A s.heap s.heap [] := va_S.rf
  have hl : lv_has ls 1 [(0, .ref h0)] := hl
  have hown : s.vm.findClass RX8 = some m.cls := hown
  refine lv_aload_n hx hb dX8_init_0 rfl (lv_at hl 0 rfl) ?_
  refine W.objInit hx hb hown (ht _ kw_78) (ht _ kw_27) (ht _ kw_28) rfl (by rw [hml]; exact hl.1) rfl dX8_init_1 (Nat.le_of_ble_eq_true rfl) (Nat.le_of_ble_eq_true rfl) ?_
  refine W.eq (g2 := F0 m 4 ls []) rfl ?_
  refine lv_aload_n hx hb dX8_init_4 rfl (lv_at hl 0 rfl) ?_
  refine lv_bipush (v := 12) hx hb dX8_init_5 (by decide) ?_
  refine va_newa (atype := .int) (ty := .int) (a0 := (12, .inl (fun _ => 0))) hx hb (ht _ kw_72) rfl hK hP hD hS hA (fun _ => rfl) (by decide) (by decide) (Nat.le_of_ble_eq_true rfl) (Nat.le_of_ble_eq_true rfl) (Nat.le_of_ble_eq_true rfl) dX8_init_7 (fun q1 k2 H hK hP hD hS => ?_)
  have hP : va_P (dC, dI) vwCl [(h0, .inr (8, [.null, .null, .int 0, .int 0, .null, .int 0, .null, .null, .null, .null, .null, .null, .int 0, .int 0])), (q1, .inl (k2, 12, .inl (fun _ => 0)))] H := hP
  have hD : va_D A [(h0, .inr (8, [.null, .null, .int 0, .int 0, .null, .int 0, .null, .null, .null, .null, .null, .null, .int 0, .int 0])), (q1, .inl (k2, 12, .inl (fun _ => 0)))] := hD
  have hK : va_K (dC, dI) vwCl [(k2, .int)] s := hK
  refine W.widen (k := 1) (n := 12) (Nat.le_of_ble_eq_true rfl) (Nat.le_of_ble_eq_true rfl) ?_
  refine va_putF (D := (dC, dI)) (ci := 8) (v := .ref q1) (ty := .array .int) (C := RX8) (T := TX8) (N := 14) hx hb ht inX8 tyX8 tyX8_ok nmX8 hown hK hP hD hS 0 rfl rfl 0 (by decide) (ht _ kw_79) (fun _ h9 => h9) rfl hin rfl (by decide +kernel) rfl rfl (Nat.le_of_ble_eq_true rfl) dX8_init_9 (fun H locs hP hD hS => ?_)
  have hP : va_P (dC, dI) vwCl [(h0, .inr (8, [.ref q1, .null, .int 0, .int 0, .null, .int 0, .null, .null, .null, .null, .null, .null, .int 0, .int 0])), (q1, .inl (k2, 12, .inl (fun _ => 0)))] H := hP
  have hD : va_D A [(h0, .inr (8, [.ref q1, .null, .int 0, .int 0, .null, .int 0, .null, .null, .null, .null, .null, .null, .int 0, .int 0])), (q1, .inl (k2, 12, .inl (fun _ => 0)))] := hD
  refine lv_aload_n hx hb dX8_init_12 rfl (lv_at hl 0 rfl) ?_
  refine lv_bipush (v := 12) hx hb dX8_init_13 (by decide) ?_
  refine va_newa (atype := .int) (ty := .int) (a0 := (12, .inl (fun _ => 0))) hx hb (ht _ kw_72) rfl hK hP hD hS hA (fun _ => rfl) (by decide) (by decide) (Nat.le_of_ble_eq_true rfl) (Nat.le_of_ble_eq_true rfl) (Nat.le_of_ble_eq_true rfl) dX8_init_15 (fun q3 k4 H hK hP hD hS => ?_)
  have hP : va_P (dC, dI) vwCl [(h0, .inr (8, [.ref q1, .null, .int 0, .int 0, .null, .int 0, .null, .null, .null, .null, .null, .null, .int 0, .int 0])), (q1, .inl (k2, 12, .inl (fun _ => 0))), (q3, .inl (k4, 12, .inl (fun _ => 0)))] H := hP
  have hD : va_D A [(h0, .inr (8, [.ref q1, .null, .int 0, .int 0, .null, .int 0, .null, .null, .null, .null, .null, .null, .int 0, .int 0])), (q1, .inl (k2, 12, .inl (fun _ => 0))), (q3, .inl (k4, 12, .inl (fun _ => 0)))] := hD
  have hK : va_K (dC, dI) vwCl [(k2, .int), (k4, .int)] s := hK
  refine W.widen (k := 2) (n := 24) (Nat.le_of_ble_eq_true rfl) (Nat.le_of_ble_eq_true rfl) ?_
  refine va_putF (D := (dC, dI)) (ci := 8) (v := .ref q3) (ty := .array .int) (C := RX8) (T := TX8) (N := 14) hx hb ht inX8 tyX8 tyX8_ok nmX8 hown hK hP hD hS 0 rfl rfl 1 (by decide) (ht _ kw_83) (fun _ h9 => h9) rfl hin rfl (by decide +kernel) rfl rfl (Nat.le_of_ble_eq_true rfl) dX8_init_17 (fun H locs hP hD hS => ?_)
  have hP : va_P (dC, dI) vwCl [(h0, .inr (8, [.ref q1, .ref q3, .int 0, .int 0, .null, .int 0, .null, .null, .null, .null, .null, .null, .int 0, .int 0])), (q1, .inl (k2, 12, .inl (fun _ => 0))), (q3, .inl (k4, 12, .inl (fun _ => 0)))] H := hP
  have hD : va_D A [(h0, .inr (8, [.ref q1, .ref q3, .int 0, .int 0, .null, .int 0, .null, .null, .null, .null, .null, .null, .int 0, .int 0])), (q1, .inl (k2, 12, .inl (fun _ => 0))), (q3, .inl (k4, 12, .inl (fun _ => 0)))] := hD
  refine lv_aload_n hx hb dX8_init_20 rfl (lv_at hl 0 rfl) ?_
  refine lv_sipush (v := 200) hx hb dX8_init_21 (by decide) ?_
  refine va_newa (atype := .int) (ty := .int) (a0 := (200, .inl (fun _ => 0))) hx hb (ht _ kw_72) rfl hK hP hD hS hA (fun _ => rfl) (by decide) (by decide) (Nat.le_of_ble_eq_true rfl) (Nat.le_of_ble_eq_true rfl) (Nat.le_of_ble_eq_true rfl) dX8_init_24 (fun q5 k6 H hK hP hD hS => ?_)
  have hP : va_P (dC, dI) vwCl [(h0, .inr (8, [.ref q1, .ref q3, .int 0, .int 0, .null, .int 0, .null, .null, .null, .null, .null, .null, .int 0, .int 0])), (q1, .inl (k2, 12, .inl (fun _ => 0))), (q3, .inl (k4, 12, .inl (fun _ => 0))), (q5, .inl (k6, 200, .inl (fun _ => 0)))] H := hP
  have hD : va_D A [(h0, .inr (8, [.ref q1, .ref q3, .int 0, .int 0, .null, .int 0, .null, .null, .null, .null, .null, .null, .int 0, .int 0])), (q1, .inl (k2, 12, .inl (fun _ => 0))), (q3, .inl (k4, 12, .inl (fun _ => 0))), (q5, .inl (k6, 200, .inl (fun _ => 0)))] := hD
  have hK : va_K (dC, dI) vwCl [(k2, .int), (k4, .int), (k6, .int)] s := hK
  refine W.widen (k := 3) (n := 224) (Nat.le_of_ble_eq_true rfl) (Nat.le_of_ble_eq_true rfl) ?_
  refine va_putF (D := (dC, dI)) (ci := 8) (v := .ref q5) (ty := .array .int) (C := RX8) (T := TX8) (N := 14) hx hb ht inX8 tyX8 tyX8_ok nmX8 hown hK hP hD hS 0 rfl rfl 4 (by decide) (ht _ kw_89) (fun _ h9 => h9) rfl hin rfl (by decide +kernel) rfl rfl (Nat.le_of_ble_eq_true rfl) dX8_init_26 (fun H locs hP hD hS => ?_)
  have hP : va_P (dC, dI) vwCl [(h0, .inr (8, [.ref q1, .ref q3, .int 0, .int 0, .ref q5, .int 0, .null, .null, .null, .null, .null, .null, .int 0, .int 0])), (q1, .inl (k2, 12, .inl (fun _ => 0))), (q3, .inl (k4, 12, .inl (fun _ => 0))), (q5, .inl (k6, 200, .inl (fun _ => 0)))] H := hP
  have hD : va_D A [(h0, .inr (8, [.ref q1, .ref q3, .int 0, .int 0, .ref q5, .int 0, .null, .null, .null, .null, .null, .null, .int 0, .int 0])), (q1, .inl (k2, 12, .inl (fun _ => 0))), (q3, .inl (k4, 12, .inl (fun _ => 0))), (q5, .inl (k6, 200, .inl (fun _ => 0)))] := hD
  refine lv_aload_n hx hb dX8_init_29 rfl (lv_at hl 0 rfl) ?_
  refine lv_sipush (v := 300) hx hb dX8_init_30 (by decide) ?_
  refine va_newa (atype := .int) (ty := .int) (a0 := (300, .inl (fun _ => 0))) hx hb (ht _ kw_72) rfl hK hP hD hS hA (fun _ => rfl) (by decide) (by decide) (Nat.le_of_ble_eq_true rfl) (Nat.le_of_ble_eq_true rfl) (Nat.le_of_ble_eq_true rfl) dX8_init_33 (fun q7 k8 H hK hP hD hS => ?_)
  have hP : va_P (dC, dI) vwCl [(h0, .inr (8, [.ref q1, .ref q3, .int 0, .int 0, .ref q5, .int 0, .null, .null, .null, .null, .null, .null, .int 0, .int 0])), (q1, .inl (k2, 12, .inl (fun _ => 0))), (q3, .inl (k4, 12, .inl (fun _ => 0))), (q5, .inl (k6, 200, .inl (fun _ => 0))), (q7, .inl (k8, 300, .inl (fun _ => 0)))] H := hP
  have hD : va_D A [(h0, .inr (8, [.ref q1, .ref q3, .int 0, .int 0, .ref q5, .int 0, .null, .null, .null, .null, .null, .null, .int 0, .int 0])), (q1, .inl (k2, 12, .inl (fun _ => 0))), (q3, .inl (k4, 12, .inl (fun _ => 0))), (q5, .inl (k6, 200, .inl (fun _ => 0))), (q7, .inl (k8, 300, .inl (fun _ => 0)))] := hD
  have hK : va_K (dC, dI) vwCl [(k2, .int), (k4, .int), (k6, .int), (k8, .int)] s := hK
  refine W.widen (k := 4) (n := 524) (Nat.le_of_ble_eq_true rfl) (Nat.le_of_ble_eq_true rfl) ?_
  refine va_putF (D := (dC, dI)) (ci := 8) (v := .ref q7) (ty := .array .int) (C := RX8) (T := TX8) (N := 14) hx hb ht inX8 tyX8 tyX8_ok nmX8 hown hK hP hD hS 0 rfl rfl 6 (by decide) (ht _ kw_93) (fun _ h9 => h9) rfl hin rfl (by decide +kernel) rfl rfl (Nat.le_of_ble_eq_true rfl) dX8_init_35 (fun H locs hP hD hS => ?_)
  have hP : va_P (dC, dI) vwCl [(h0, .inr (8, [.ref q1, .ref q3, .int 0, .int 0, .ref q5, .int 0, .ref q7, .null, .null, .null, .null, .null, .int 0, .int 0])), (q1, .inl (k2, 12, .inl (fun _ => 0))), (q3, .inl (k4, 12, .inl (fun _ => 0))), (q5, .inl (k6, 200, .inl (fun _ => 0))), (q7, .inl (k8, 300, .inl (fun _ => 0)))] H := hP
  have hD : va_D A [(h0, .inr (8, [.ref q1, .ref q3, .int 0, .int 0, .ref q5, .int 0, .ref q7, .null, .null, .null, .null, .null, .int 0, .int 0])), (q1, .inl (k2, 12, .inl (fun _ => 0))), (q3, .inl (k4, 12, .inl (fun _ => 0))), (q5, .inl (k6, 200, .inl (fun _ => 0))), (q7, .inl (k8, 300, .inl (fun _ => 0)))] := hD
  refine lv_aload_n hx hb dX8_init_38 rfl (lv_at hl 0 rfl) ?_
  refine lv_sipush (v := 300) hx hb dX8_init_39 (by decide) ?_
  refine va_newa (atype := .int) (ty := .int) (a0 := (300, .inl (fun _ => 0))) hx hb (ht _ kw_72) rfl hK hP hD hS hA (fun _ => rfl) (by decide) (by decide) (Nat.le_of_ble_eq_true rfl) (Nat.le_of_ble_eq_true rfl) (Nat.le_of_ble_eq_true rfl) dX8_init_42 (fun q9 k10 H hK hP hD hS => ?_)
  have hP : va_P (dC, dI) vwCl [(h0, .inr (8, [.ref q1, .ref q3, .int 0, .int 0, .ref q5, .int 0, .ref q7, .null, .null, .null, .null, .null, .int 0, .int 0])), (q1, .inl (k2, 12, .inl (fun _ => 0))), (q3, .inl (k4, 12, .inl (fun _ => 0))), (q5, .inl (k6, 200, .inl (fun _ => 0))), (q7, .inl (k8, 300, .inl (fun _ => 0))), (q9, .inl (k10, 300, .inl (fun _ => 0)))] H := hP
  have hD : va_D A [(h0, .inr (8, [.ref q1, .ref q3, .int 0, .int 0, .ref q5, .int 0, .ref q7, .null, .null, .null, .null, .null, .int 0, .int 0])), (q1, .inl (k2, 12, .inl (fun _ => 0))), (q3, .inl (k4, 12, .inl (fun _ => 0))), (q5, .inl (k6, 200, .inl (fun _ => 0))), (q7, .inl (k8, 300, .inl (fun _ => 0))), (q9, .inl (k10, 300, .inl (fun _ => 0)))] := hD
  have hK : va_K (dC, dI) vwCl [(k2, .int), (k4, .int), (k6, .int), (k8, .int), (k10, .int)] s := hK
  refine W.widen (k := 5) (n := 824) (Nat.le_of_ble_eq_true rfl) (Nat.le_of_ble_eq_true rfl) ?_
  refine va_putF (D := (dC, dI)) (ci := 8) (v := .ref q9) (ty := .array .int) (C := RX8) (T := TX8) (N := 14) hx hb ht inX8 tyX8 tyX8_ok nmX8 hown hK hP hD hS 0 rfl rfl 7 (by decide) (ht _ kw_94) (fun _ h9 => h9) rfl hin rfl (by decide +kernel) rfl rfl (Nat.le_of_ble_eq_true rfl) dX8_init_44 (fun H locs hP hD hS => ?_)
  have hP : va_P (dC, dI) vwCl [(h0, .inr (8, [.ref q1, .ref q3, .int 0, .int 0, .ref q5, .int 0, .ref q7, .ref q9, .null, .null, .null, .null, .int 0, .int 0])), (q1, .inl (k2, 12, .inl (fun _ => 0))), (q3, .inl (k4, 12, .inl (fun _ => 0))), (q5, .inl (k6, 200, .inl (fun _ => 0))), (q7, .inl (k8, 300, .inl (fun _ => 0))), (q9, .inl (k10, 300, .inl (fun _ => 0)))] H := hP
  have hD : va_D A [(h0, .inr (8, [.ref q1, .ref q3, .int 0, .int 0, .ref q5, .int 0, .ref q7, .ref q9, .null, .null, .null, .null, .int 0, .int 0])), (q1, .inl (k2, 12, .inl (fun _ => 0))), (q3, .inl (k4, 12, .inl (fun _ => 0))), (q5, .inl (k6, 200, .inl (fun _ => 0))), (q7, .inl (k8, 300, .inl (fun _ => 0))), (q9, .inl (k10, 300, .inl (fun _ => 0)))] := hD
  refine lv_aload_n hx hb dX8_init_47 rfl (lv_at hl 0 rfl) ?_
  refine lv_sipush (v := 300) hx hb dX8_init_48 (by decide) ?_
  refine va_newa (atype := .int) (ty := .int) (a0 := (300, .inl (fun _ => 0))) hx hb (ht _ kw_72) rfl hK hP hD hS hA (fun _ => rfl) (by decide) (by decide) (Nat.le_of_ble_eq_true rfl) (Nat.le_of_ble_eq_true rfl) (Nat.le_of_ble_eq_true rfl) dX8_init_51 (fun q11 k12 H hK hP hD hS => ?_)
  have hP : va_P (dC, dI) vwCl [(h0, .inr (8, [.ref q1, .ref q3, .int 0, .int 0, .ref q5, .int 0, .ref q7, .ref q9, .null, .null, .null, .null, .int 0, .int 0])), (q1, .inl (k2, 12, .inl (fun _ => 0))), (q3, .inl (k4, 12, .inl (fun _ => 0))), (q5, .inl (k6, 200, .inl (fun _ => 0))), (q7, .inl (k8, 300, .inl (fun _ => 0))), (q9, .inl (k10, 300, .inl (fun _ => 0))), (q11, .inl (k12, 300, .inl (fun _ => 0)))] H := hP
  have hD : va_D A [(h0, .inr (8, [.ref q1, .ref q3, .int 0, .int 0, .ref q5, .int 0, .ref q7, .ref q9, .null, .null, .null, .null, .int 0, .int 0])), (q1, .inl (k2, 12, .inl (fun _ => 0))), (q3, .inl (k4, 12, .inl (fun _ => 0))), (q5, .inl (k6, 200, .inl (fun _ => 0))), (q7, .inl (k8, 300, .inl (fun _ => 0))), (q9, .inl (k10, 300, .inl (fun _ => 0))), (q11, .inl (k12, 300, .inl (fun _ => 0)))] := hD
  have hK : va_K (dC, dI) vwCl [(k2, .int), (k4, .int), (k6, .int), (k8, .int), (k10, .int), (k12, .int)] s := hK
  refine W.widen (k := 6) (n := 1124) (Nat.le_of_ble_eq_true rfl) (Nat.le_of_ble_eq_true rfl) ?_
  refine va_putF (D := (dC, dI)) (ci := 8) (v := .ref q11) (ty := .array .int) (C := RX8) (T := TX8) (N := 14) hx hb ht inX8 tyX8 tyX8_ok nmX8 hown hK hP hD hS 0 rfl rfl 8 (by decide) (ht _ kw_95) (fun _ h9 => h9) rfl hin rfl (by decide +kernel) rfl rfl (Nat.le_of_ble_eq_true rfl) dX8_init_53 (fun H locs hP hD hS => ?_)
  have hP : va_P (dC, dI) vwCl [(h0, .inr (8, [.ref q1, .ref q3, .int 0, .int 0, .ref q5, .int 0, .ref q7, .ref q9, .ref q11, .null, .null, .null, .int 0, .int 0])), (q1, .inl (k2, 12, .inl (fun _ => 0))), (q3, .inl (k4, 12, .inl (fun _ => 0))), (q5, .inl (k6, 200, .inl (fun _ => 0))), (q7, .inl (k8, 300, .inl (fun _ => 0))), (q9, .inl (k10, 300, .inl (fun _ => 0))), (q11, .inl (k12, 300, .inl (fun _ => 0)))] H := hP
  have hD : va_D A [(h0, .inr (8, [.ref q1, .ref q3, .int 0, .int 0, .ref q5, .int 0, .ref q7, .ref q9, .ref q11, .null, .null, .null, .int 0, .int 0])), (q1, .inl (k2, 12, .inl (fun _ => 0))), (q3, .inl (k4, 12, .inl (fun _ => 0))), (q5, .inl (k6, 200, .inl (fun _ => 0))), (q7, .inl (k8, 300, .inl (fun _ => 0))), (q9, .inl (k10, 300, .inl (fun _ => 0))), (q11, .inl (k12, 300, .inl (fun _ => 0)))] := hD
  refine lv_aload_n hx hb dX8_init_56 rfl (lv_at hl 0 rfl) ?_
  refine lv_sipush (v := 300) hx hb dX8_init_57 (by decide) ?_
  refine va_newa (atype := .int) (ty := .int) (a0 := (300, .inl (fun _ => 0))) hx hb (ht _ kw_72) rfl hK hP hD hS hA (fun _ => rfl) (by decide) (by decide) (Nat.le_of_ble_eq_true rfl) (Nat.le_of_ble_eq_true rfl) (Nat.le_of_ble_eq_true rfl) dX8_init_60 (fun q13 k14 H hK hP hD hS => ?_)
  have hP : va_P (dC, dI) vwCl [(h0, .inr (8, [.ref q1, .ref q3, .int 0, .int 0, .ref q5, .int 0, .ref q7, .ref q9, .ref q11, .null, .null, .null, .int 0, .int 0])), (q1, .inl (k2, 12, .inl (fun _ => 0))), (q3, .inl (k4, 12, .inl (fun _ => 0))), (q5, .inl (k6, 200, .inl (fun _ => 0))), (q7, .inl (k8, 300, .inl (fun _ => 0))), (q9, .inl (k10, 300, .inl (fun _ => 0))), (q11, .inl (k12, 300, .inl (fun _ => 0))), (q13, .inl (k14, 300, .inl (fun _ => 0)))] H := hP
  have hD : va_D A [(h0, .inr (8, [.ref q1, .ref q3, .int 0, .int 0, .ref q5, .int 0, .ref q7, .ref q9, .ref q11, .null, .null, .null, .int 0, .int 0])), (q1, .inl (k2, 12, .inl (fun _ => 0))), (q3, .inl (k4, 12, .inl (fun _ => 0))), (q5, .inl (k6, 200, .inl (fun _ => 0))), (q7, .inl (k8, 300, .inl (fun _ => 0))), (q9, .inl (k10, 300, .inl (fun _ => 0))), (q11, .inl (k12, 300, .inl (fun _ => 0))), (q13, .inl (k14, 300, .inl (fun _ => 0)))] := hD
  have hK : va_K (dC, dI) vwCl [(k2, .int), (k4, .int), (k6, .int), (k8, .int), (k10, .int), (k12, .int), (k14, .int)] s := hK
  refine W.widen (k := 7) (n := 1424) (Nat.le_of_ble_eq_true rfl) (Nat.le_of_ble_eq_true rfl) ?_
  refine va_putF (D := (dC, dI)) (ci := 8) (v := .ref q13) (ty := .array .int) (C := RX8) (T := TX8) (N := 14) hx hb ht inX8 tyX8 tyX8_ok nmX8 hown hK hP hD hS 0 rfl rfl 9 (by decide) (ht _ kw_96) (fun _ h9 => h9) rfl hin rfl (by decide +kernel) rfl rfl (Nat.le_of_ble_eq_true rfl) dX8_init_62 (fun H locs hP hD hS => ?_)
  have hP : va_P (dC, dI) vwCl [(h0, .inr (8, [.ref q1, .ref q3, .int 0, .int 0, .ref q5, .int 0, .ref q7, .ref q9, .ref q11, .ref q13, .null, .null, .int 0, .int 0])), (q1, .inl (k2, 12, .inl (fun _ => 0))), (q3, .inl (k4, 12, .inl (fun _ => 0))), (q5, .inl (k6, 200, .inl (fun _ => 0))), (q7, .inl (k8, 300, .inl (fun _ => 0))), (q9, .inl (k10, 300, .inl (fun _ => 0))), (q11, .inl (k12, 300, .inl (fun _ => 0))), (q13, .inl (k14, 300, .inl (fun _ => 0)))] H := hP
  have hD : va_D A [(h0, .inr (8, [.ref q1, .ref q3, .int 0, .int 0, .ref q5, .int 0, .ref q7, .ref q9, .ref q11, .ref q13, .null, .null, .int 0, .int 0])), (q1, .inl (k2, 12, .inl (fun _ => 0))), (q3, .inl (k4, 12, .inl (fun _ => 0))), (q5, .inl (k6, 200, .inl (fun _ => 0))), (q7, .inl (k8, 300, .inl (fun _ => 0))), (q9, .inl (k10, 300, .inl (fun _ => 0))), (q11, .inl (k12, 300, .inl (fun _ => 0))), (q13, .inl (k14, 300, .inl (fun _ => 0)))] := hD
  refine lv_aload_n hx hb dX8_init_65 rfl (lv_at hl 0 rfl) ?_
  refine lv_bipush (v := 8) hx hb dX8_init_66 (by decide) ?_
  refine va_newa (atype := .int) (ty := .int) (a0 := (8, .inl (fun _ => 0))) hx hb (ht _ kw_72) rfl hK hP hD hS hA (fun _ => rfl) (by decide) (by decide) (Nat.le_of_ble_eq_true rfl) (Nat.le_of_ble_eq_true rfl) (Nat.le_of_ble_eq_true rfl) dX8_init_68 (fun q15 k16 H hK hP hD hS => ?_)
  have hP : va_P (dC, dI) vwCl [(h0, .inr (8, [.ref q1, .ref q3, .int 0, .int 0, .ref q5, .int 0, .ref q7, .ref q9, .ref q11, .ref q13, .null, .null, .int 0, .int 0])), (q1, .inl (k2, 12, .inl (fun _ => 0))), (q3, .inl (k4, 12, .inl (fun _ => 0))), (q5, .inl (k6, 200, .inl (fun _ => 0))), (q7, .inl (k8, 300, .inl (fun _ => 0))), (q9, .inl (k10, 300, .inl (fun _ => 0))), (q11, .inl (k12, 300, .inl (fun _ => 0))), (q13, .inl (k14, 300, .inl (fun _ => 0))), (q15, .inl (k16, 8, .inl (fun _ => 0)))] H := hP
  have hD : va_D A [(h0, .inr (8, [.ref q1, .ref q3, .int 0, .int 0, .ref q5, .int 0, .ref q7, .ref q9, .ref q11, .ref q13, .null, .null, .int 0, .int 0])), (q1, .inl (k2, 12, .inl (fun _ => 0))), (q3, .inl (k4, 12, .inl (fun _ => 0))), (q5, .inl (k6, 200, .inl (fun _ => 0))), (q7, .inl (k8, 300, .inl (fun _ => 0))), (q9, .inl (k10, 300, .inl (fun _ => 0))), (q11, .inl (k12, 300, .inl (fun _ => 0))), (q13, .inl (k14, 300, .inl (fun _ => 0))), (q15, .inl (k16, 8, .inl (fun _ => 0)))] := hD
  have hK : va_K (dC, dI) vwCl [(k2, .int), (k4, .int), (k6, .int), (k8, .int), (k10, .int), (k12, .int), (k14, .int), (k16, .int)] s := hK
  refine W.widen (k := 8) (n := 1432) (Nat.le_of_ble_eq_true rfl) (Nat.le_of_ble_eq_true rfl) ?_
  refine va_putF (D := (dC, dI)) (ci := 8) (v := .ref q15) (ty := .array .int) (C := RX8) (T := TX8) (N := 14) hx hb ht inX8 tyX8 tyX8_ok nmX8 hown hK hP hD hS 0 rfl rfl 10 (by decide) (ht _ kw_97) (fun _ h9 => h9) rfl hin rfl (by decide +kernel) rfl rfl (Nat.le_of_ble_eq_true rfl) dX8_init_70 (fun H locs hP hD hS => ?_)
  have hP : va_P (dC, dI) vwCl [(h0, .inr (8, [.ref q1, .ref q3, .int 0, .int 0, .ref q5, .int 0, .ref q7, .ref q9, .ref q11, .ref q13, .ref q15, .null, .int 0, .int 0])), (q1, .inl (k2, 12, .inl (fun _ => 0))), (q3, .inl (k4, 12, .inl (fun _ => 0))), (q5, .inl (k6, 200, .inl (fun _ => 0))), (q7, .inl (k8, 300, .inl (fun _ => 0))), (q9, .inl (k10, 300, .inl (fun _ => 0))), (q11, .inl (k12, 300, .inl (fun _ => 0))), (q13, .inl (k14, 300, .inl (fun _ => 0))), (q15, .inl (k16, 8, .inl (fun _ => 0)))] H := hP
  have hD : va_D A [(h0, .inr (8, [.ref q1, .ref q3, .int 0, .int 0, .ref q5, .int 0, .ref q7, .ref q9, .ref q11, .ref q13, .ref q15, .null, .int 0, .int 0])), (q1, .inl (k2, 12, .inl (fun _ => 0))), (q3, .inl (k4, 12, .inl (fun _ => 0))), (q5, .inl (k6, 200, .inl (fun _ => 0))), (q7, .inl (k8, 300, .inl (fun _ => 0))), (q9, .inl (k10, 300, .inl (fun _ => 0))), (q11, .inl (k12, 300, .inl (fun _ => 0))), (q13, .inl (k14, 300, .inl (fun _ => 0))), (q15, .inl (k16, 8, .inl (fun _ => 0)))] := hD
  refine lv_aload_n hx hb dX8_init_73 rfl (lv_at hl 0 rfl) ?_
  refine lv_bipush (v := 8) hx hb dX8_init_74 (by decide) ?_
  refine va_newa (atype := .int) (ty := .int) (a0 := (8, .inl (fun _ => 0))) hx hb (ht _ kw_72) rfl hK hP hD hS hA (fun _ => rfl) (by decide) (by decide) (Nat.le_of_ble_eq_true rfl) (Nat.le_of_ble_eq_true rfl) (Nat.le_of_ble_eq_true rfl) dX8_init_76 (fun q17 k18 H hK hP hD hS => ?_)
  have hP : va_P (dC, dI) vwCl [(h0, .inr (8, [.ref q1, .ref q3, .int 0, .int 0, .ref q5, .int 0, .ref q7, .ref q9, .ref q11, .ref q13, .ref q15, .null, .int 0, .int 0])), (q1, .inl (k2, 12, .inl (fun _ => 0))), (q3, .inl (k4, 12, .inl (fun _ => 0))), (q5, .inl (k6, 200, .inl (fun _ => 0))), (q7, .inl (k8, 300, .inl (fun _ => 0))), (q9, .inl (k10, 300, .inl (fun _ => 0))), (q11, .inl (k12, 300, .inl (fun _ => 0))), (q13, .inl (k14, 300, .inl (fun _ => 0))), (q15, .inl (k16, 8, .inl (fun _ => 0))), (q17, .inl (k18, 8, .inl (fun _ => 0)))] H := hP
  have hD : va_D A [(h0, .inr (8, [.ref q1, .ref q3, .int 0, .int 0, .ref q5, .int 0, .ref q7, .ref q9, .ref q11, .ref q13, .ref q15, .null, .int 0, .int 0])), (q1, .inl (k2, 12, .inl (fun _ => 0))), (q3, .inl (k4, 12, .inl (fun _ => 0))), (q5, .inl (k6, 200, .inl (fun _ => 0))), (q7, .inl (k8, 300, .inl (fun _ => 0))), (q9, .inl (k10, 300, .inl (fun _ => 0))), (q11, .inl (k12, 300, .inl (fun _ => 0))), (q13, .inl (k14, 300, .inl (fun _ => 0))), (q15, .inl (k16, 8, .inl (fun _ => 0))), (q17, .inl (k18, 8, .inl (fun _ => 0)))] := hD
  have hK : va_K (dC, dI) vwCl [(k2, .int), (k4, .int), (k6, .int), (k8, .int), (k10, .int), (k12, .int), (k14, .int), (k16, .int), (k18, .int)] s := hK
  refine W.widen (k := 9) (n := 1440) (Nat.le_of_ble_eq_true rfl) (Nat.le_of_ble_eq_true rfl) ?_
  refine va_putF (D := (dC, dI)) (ci := 8) (v := .ref q17) (ty := .array .int) (C := RX8) (T := TX8) (N := 14) hx hb ht inX8 tyX8 tyX8_ok nmX8 hown hK hP hD hS 0 rfl rfl 11 (by decide) (ht _ kw_100) (fun _ h9 => h9) rfl hin rfl (by decide +kernel) rfl rfl (Nat.le_of_ble_eq_true rfl) dX8_init_78 (fun H locs hP hD hS => ?_)
  have hP : va_P (dC, dI) vwCl [(h0, .inr (8, [.ref q1, .ref q3, .int 0, .int 0, .ref q5, .int 0, .ref q7, .ref q9, .ref q11, .ref q13, .ref q15, .ref q17, .int 0, .int 0])), (q1, .inl (k2, 12, .inl (fun _ => 0))), (q3, .inl (k4, 12, .inl (fun _ => 0))), (q5, .inl (k6, 200, .inl (fun _ => 0))), (q7, .inl (k8, 300, .inl (fun _ => 0))), (q9, .inl (k10, 300, .inl (fun _ => 0))), (q11, .inl (k12, 300, .inl (fun _ => 0))), (q13, .inl (k14, 300, .inl (fun _ => 0))), (q15, .inl (k16, 8, .inl (fun _ => 0))), (q17, .inl (k18, 8, .inl (fun _ => 0)))] H := hP
  have hD : va_D A [(h0, .inr (8, [.ref q1, .ref q3, .int 0, .int 0, .ref q5, .int 0, .ref q7, .ref q9, .ref q11, .ref q13, .ref q15, .ref q17, .int 0, .int 0])), (q1, .inl (k2, 12, .inl (fun _ => 0))), (q3, .inl (k4, 12, .inl (fun _ => 0))), (q5, .inl (k6, 200, .inl (fun _ => 0))), (q7, .inl (k8, 300, .inl (fun _ => 0))), (q9, .inl (k10, 300, .inl (fun _ => 0))), (q11, .inl (k12, 300, .inl (fun _ => 0))), (q13, .inl (k14, 300, .inl (fun _ => 0))), (q15, .inl (k16, 8, .inl (fun _ => 0))), (q17, .inl (k18, 8, .inl (fun _ => 0)))] := hD
  have hP := hP.sub (ws' := [(h0, .inr (8, [.ref q1, .ref q3, .int 0, .int 0, .ref q5, .int 0, .ref q7, .ref q9, .ref q11, .ref q13, .ref q15, .ref q17, .int 0, .int 0])), (q1, .inl (k2, 12, .inl (fun _ => 0))), (q3, .inl (k4, 12, .inl (fun _ => 0))), (q5, .inl (k6, 200, .inl (fun _ => 0))), (q15, .inl (k16, 8, .inl (fun _ => 0))), (q17, .inl (k18, 8, .inl (fun _ => 0)))]) [0, 1, 2, 3, 8, 9] rfl
  have hD := hD.sub (ws' := [(h0, .inr (8, [.ref q1, .ref q3, .int 0, .int 0, .ref q5, .int 0, .ref q7, .ref q9, .ref q11, .ref q13, .ref q15, .ref q17, .int 0, .int 0])), (q1, .inl (k2, 12, .inl (fun _ => 0))), (q3, .inl (k4, 12, .inl (fun _ => 0))), (q5, .inl (k6, 200, .inl (fun _ => 0))), (q15, .inl (k16, 8, .inl (fun _ => 0))), (q17, .inl (k18, 8, .inl (fun _ => 0)))]) [0, 1, 2, 3, 8, 9] (by decide) rfl
  have hK := hK.sub (tys' := [(k2, .int), (k4, .int), (k6, .int), (k16, .int), (k18, .int)]) [0, 1, 2, 7, 8] rfl
  exact W.vret hx hb hr (fun t ht9 hW => ⟨⟨(), rfl, trivial, q1, q3, q5, q7, q9, q11, q13, q15, q17, k2, k4, k6, k16, k18, by rw [ht9]; exact hP, va_K.moved hW.alike hK, hD⟩, hS.F ht9⟩) hS.2.2 dX8_init_81
abbrev cX6_init : ByteArray := prog_8_method_1_code
def yX6_init : MethodName := ⟨RX6, "<init>", "(LSportsHouse$Things;)V"⟩
theorem dX6_init_0 : decode cX6_init 0 = .ok (.aload_n 0, 1) := by decide +kernel
theorem dX6_init_1 : decode cX6_init 1 = .ok (.invokespecial 3, 3) := by decide +kernel
theorem kw_141 : Cond.methodLink RX6 3 objectInit ∈ lw_g := lw_at 141 (by decide +kernel) rfl
theorem dX6_init_4 : decode cX6_init 4 = .ok (.aload_n 0, 1) := by decide +kernel
theorem dX6_init_5 : decode cX6_init 5 = .ok (.iconst 4, 1) := by decide +kernel
theorem dX6_init_6 : decode cX6_init 6 = .ok (.anewarray 9, 3) := by decide +kernel
theorem kw_142 : Cond.classLink RX6 9 RX0 ∈ lw_g := lw_at 142 (by decide +kernel) rfl
theorem dX6_init_9 : decode cX6_init 9 = .ok (.putfield 11, 3) := by decide +kernel
theorem kw_147 : Cond.fieldLink RX6 11 "SportsHouse$Season" "competitions" "[LSportsHouse$Competition;" ∈ lw_g := lw_at 147 (by decide +kernel) rfl
theorem dX6_init_12 : decode cX6_init 12 = .ok (.aload_n 0, 1) := by decide +kernel
theorem dX6_init_13 : decode cX6_init 13 = .ok (.sipush 400, 3) := by decide +kernel
theorem dX6_init_16 : decode cX6_init 16 = .ok (.anewarray 17, 3) := by decide +kernel
theorem kw_144 : Cond.classLink RX6 17 RX2 ∈ lw_g := lw_at 144 (by decide +kernel) rfl
theorem dX6_init_19 : decode cX6_init 19 = .ok (.putfield 19, 3) := by decide +kernel
theorem kw_150 : Cond.fieldLink RX6 19 "SportsHouse$Season" "matches" "[LSportsHouse$Match;" ∈ lw_g := lw_at 150 (by decide +kernel) rfl
theorem dX6_init_22 : decode cX6_init 22 = .ok (.aload_n 0, 1) := by decide +kernel
theorem dX6_init_23 : decode cX6_init 23 = .ok (.bipush 50, 2) := by decide +kernel
theorem dX6_init_25 : decode cX6_init 25 = .ok (.newarray .int, 2) := by decide +kernel
theorem dX6_init_27 : decode cX6_init 27 = .ok (.putfield 23, 3) := by decide +kernel
theorem kw_161 : Cond.fieldLink RX6 23 "SportsHouse$Season" "deductedIn" "[I" ∈ lw_g := lw_at 161 (by decide +kernel) rfl
theorem dX6_init_30 : decode cX6_init 30 = .ok (.aload_n 0, 1) := by decide +kernel
theorem dX6_init_31 : decode cX6_init 31 = .ok (.bipush 50, 2) := by decide +kernel
theorem dX6_init_33 : decode cX6_init 33 = .ok (.newarray .int, 2) := by decide +kernel
theorem dX6_init_35 : decode cX6_init 35 = .ok (.putfield 27, 3) := by decide +kernel
theorem kw_162 : Cond.fieldLink RX6 27 "SportsHouse$Season" "deductedFrom" "[I" ∈ lw_g := lw_at 162 (by decide +kernel) rfl
theorem dX6_init_38 : decode cX6_init 38 = .ok (.aload_n 0, 1) := by decide +kernel
theorem dX6_init_39 : decode cX6_init 39 = .ok (.bipush 50, 2) := by decide +kernel
theorem dX6_init_41 : decode cX6_init 41 = .ok (.newarray .int, 2) := by decide +kernel
theorem dX6_init_43 : decode cX6_init 43 = .ok (.putfield 30, 3) := by decide +kernel
theorem kw_163 : Cond.fieldLink RX6 30 "SportsHouse$Season" "deductedPoints" "[I" ∈ lw_g := lw_at 163 (by decide +kernel) rfl
theorem dX6_init_46 : decode cX6_init 46 = .ok (.aload_n 0, 1) := by decide +kernel
theorem dX6_init_47 : decode cX6_init 47 = .ok (.bipush 50, 2) := by decide +kernel
theorem dX6_init_49 : decode cX6_init 49 = .ok (.newarray .int, 2) := by decide +kernel
theorem dX6_init_51 : decode cX6_init 51 = .ok (.putfield 33, 3) := by decide +kernel
theorem kw_164 : Cond.fieldLink RX6 33 "SportsHouse$Season" "deductedOn" "[I" ∈ lw_g := lw_at 164 (by decide +kernel) rfl
theorem dX6_init_54 : decode cX6_init 54 = .ok (.aload_n 0, 1) := by decide +kernel
theorem dX6_init_55 : decode cX6_init 55 = .ok (.sipush 400, 3) := by decide +kernel
theorem dX6_init_58 : decode cX6_init 58 = .ok (.newarray .int, 2) := by decide +kernel
theorem dX6_init_60 : decode cX6_init 60 = .ok (.putfield 36, 3) := by decide +kernel
theorem kw_165 : Cond.fieldLink RX6 36 "SportsHouse$Season" "movedMatches" "[I" ∈ lw_g := lw_at 165 (by decide +kernel) rfl
theorem dX6_init_63 : decode cX6_init 63 = .ok (.aload_n 0, 1) := by decide +kernel
theorem dX6_init_64 : decode cX6_init 64 = .ok (.sipush 400, 3) := by decide +kernel
theorem dX6_init_67 : decode cX6_init 67 = .ok (.newarray .int, 2) := by decide +kernel
theorem dX6_init_69 : decode cX6_init 69 = .ok (.putfield 39, 3) := by decide +kernel
theorem kw_169 : Cond.fieldLink RX6 39 "SportsHouse$Season" "listed" "[I" ∈ lw_g := lw_at 169 (by decide +kernel) rfl
theorem dX6_init_72 : decode cX6_init 72 = .ok (.aload_n 0, 1) := by decide +kernel
theorem dX6_init_73 : decode cX6_init 73 = .ok (.sipush 400, 3) := by decide +kernel
theorem dX6_init_76 : decode cX6_init 76 = .ok (.newarray .int, 2) := by decide +kernel
theorem dX6_init_78 : decode cX6_init 78 = .ok (.putfield 42, 3) := by decide +kernel
theorem kw_170 : Cond.fieldLink RX6 42 "SportsHouse$Season" "datesBefore" "[I" ∈ lw_g := lw_at 170 (by decide +kernel) rfl
theorem dX6_init_81 : decode cX6_init 81 = .ok (.aload_n 0, 1) := by decide +kernel
theorem dX6_init_82 : decode cX6_init 82 = .ok (.sipush 1000, 3) := by decide +kernel
theorem dX6_init_85 : decode cX6_init 85 = .ok (.newarray .int, 2) := by decide +kernel
theorem dX6_init_87 : decode cX6_init 87 = .ok (.putfield 45, 3) := by decide +kernel
theorem kw_171 : Cond.fieldLink RX6 45 "SportsHouse$Season" "blocked" "[I" ∈ lw_g := lw_at 171 (by decide +kernel) rfl
theorem dX6_init_90 : decode cX6_init 90 = .ok (.aload_n 0, 1) := by decide +kernel
theorem dX6_init_91 : decode cX6_init 91 = .ok (.aload_n 1, 1) := by decide +kernel
theorem dX6_init_92 : decode cX6_init 92 = .ok (.putfield 48, 3) := by decide +kernel
theorem kw_146 : Cond.fieldLink RX6 48 "SportsHouse$Season" "things" "LSportsHouse$Things;" ∈ lw_g := lw_at 146 (by decide +kernel) rfl
theorem dX6_init_95 : decode cX6_init 95 = .ok (.return_, 1) := by decide +kernel
set_option maxHeartbeats 4000000 in
set_option maxRecDepth 100000 in
theorem ct_X6_init (l : Launch) (dC : Nat → ClassId) (dI : Nat → Nat → Nat) (h0 : Nat) (th : Nat) (sz : Nat)  : Met l yX6_init (.code yX6_init cX6_init 2 none :: lw_g) ({ frames := 1, cells := 10, slots := 2804, locals := 60 }) (ro_P dC dI [(h0, .inr (6, [.null, .null, .int 0, .null, .int 0, .int 0, .int 0, .null, .null, .null, .null, .null, .int 0, .null, .null, .null]))] [] sz [.ref h0, .ref th]) (va_Qv (fun (_ : Unit) => True) (fun _ t => ∃ (q1 : Nat) (q3 : Nat) (q5 : Nat) (q7 : Nat) (q9 : Nat) (q11 : Nat) (q13 : Nat) (q15 : Nat) (q17 : Nat) (q19 : Nat) (k2 : ClassId), va_P (dC, dI) vwCl [(h0, .inr (6, [.ref th, .ref q1, .int 0, .ref q3, .int 0, .int 0, .int 0, .ref q5, .ref q7, .ref q9, .ref q11, .ref q13, .int 0, .ref q15, .ref q17, .ref q19])), (q1, .inl (k2, 4, .inr (.inr (.inr (.inr (fun _ => none))))))] t.heap ∧ va_K (dC, dI) vwCl [(k2, .object RX0)] t ∧ va_D (va_A [(h0, .inr (6, [.null, .null, .int 0, .null, .int 0, .int 0, .int 0, .null, .null, .null, .null, .null, .int 0, .null, .null, .null]))] sz) [(h0, .inr (6, [.ref th, .ref q1, .int 0, .ref q3, .int 0, .int 0, .int 0, .ref q5, .ref q7, .ref q9, .ref q11, .ref q13, .int 0, .ref q15, .ref q17, .ref q19])), (q1, .inl (k2, 4, .inr (.inr (.inr (.inr (fun _ => none))))))]) (va_A [(h0, .inr (6, [.null, .null, .int 0, .null, .int 0, .int 0, .int 0, .null, .null, .null, .null, .null, .int 0, .null, .null, .null]))] sz)) 10 2804 (va_A [(h0, .inr (6, [.null, .null, .int 0, .null, .int 0, .int 0, .int 0, .null, .null, .null, .null, .null, .int 0, .null, .null, .null]))] sz) := by
  refine ro_entry (by decide) (Nat.le_of_ble_eq_true rfl) ?_
  intro p e s m below meth c ls hx hb hr hlocks ht hown hin hml hsz hP hK hD hE hl
  subst hsz
  have hD := hD.self (sz := s.heap.size)
  generalize hAe : va_A [(h0, .inr (6, [.null, .null, .int 0, .null, .int 0, .int 0, .int 0, .null, .null, .null, .null, .null, .int 0, .null, .null, .null]))] s.heap.size = A at hD ⊢
  have hA : ∀ q, s.heap.size ≤ q → A q := fun q h => by rw [← hAe]; exact Or.inr h
  have hS : va_S A s.heap s.heap [] := va_S.rf
  have hl : lv_has ls 2 [(0, .ref h0), (1, .ref th)] := hl
  have hown : s.vm.findClass RX6 = some m.cls := hown
  refine lv_aload_n hx hb dX6_init_0 rfl (lv_at hl 0 rfl) ?_
  refine W.objInit hx hb hown (ht _ kw_141) (ht _ kw_27) (ht _ kw_28) rfl (by rw [hml]; exact hl.1) rfl dX6_init_1 (Nat.le_of_ble_eq_true rfl) (Nat.le_of_ble_eq_true rfl) ?_
  refine W.eq (g2 := F0 m 4 ls []) rfl ?_
  refine lv_aload_n hx hb dX6_init_4 rfl (lv_at hl 0 rfl) ?_
  refine lv_iconst (v := 4) hx hb dX6_init_5 (by decide) ?_
  refine va_newq (C := RX0) (N' := 4) hx hb hown (ht _ kw_142) hE.1 hK hP hD hS hA (by decide) (by decide) (Nat.le_of_ble_eq_true rfl) (Nat.le_of_ble_eq_true rfl) (Nat.le_of_ble_eq_true rfl) dX6_init_6 (fun q1 k2 H hK hP hD hS => ?_)
  have hP : va_P (dC, dI) vwCl [(h0, .inr (6, [.null, .null, .int 0, .null, .int 0, .int 0, .int 0, .null, .null, .null, .null, .null, .int 0, .null, .null, .null])), (q1, .inl (k2, 4, .inr (.inr (.inr (.inr (fun _ => none))))))] H := hP
  have hD : va_D A [(h0, .inr (6, [.null, .null, .int 0, .null, .int 0, .int 0, .int 0, .null, .null, .null, .null, .null, .int 0, .null, .null, .null])), (q1, .inl (k2, 4, .inr (.inr (.inr (.inr (fun _ => none))))))] := hD
  have hK : va_K (dC, dI) vwCl [(k2, .object RX0)] s := hK
  refine W.widen (k := 1) (n := 4) (Nat.le_of_ble_eq_true rfl) (Nat.le_of_ble_eq_true rfl) ?_
  refine va_putF (D := (dC, dI)) (ci := 6) (v := .ref q1) (ty := .array (.object "SportsHouse$Competition")) (C := RX6) (T := TX6) (N := 16) hx hb ht inX6 tyX6 tyX6_ok nmX6 hown hK hP hD hS 0 rfl rfl 1 (by decide) (ht _ kw_147) (fun _ h9 => h9) rfl hin rfl (by decide +kernel) rfl rfl (Nat.le_of_ble_eq_true rfl) dX6_init_9 (fun H locs hP hD hS => ?_)
  have hP : va_P (dC, dI) vwCl [(h0, .inr (6, [.null, .ref q1, .int 0, .null, .int 0, .int 0, .int 0, .null, .null, .null, .null, .null, .int 0, .null, .null, .null])), (q1, .inl (k2, 4, .inr (.inr (.inr (.inr (fun _ => none))))))] H := hP
  have hD : va_D A [(h0, .inr (6, [.null, .ref q1, .int 0, .null, .int 0, .int 0, .int 0, .null, .null, .null, .null, .null, .int 0, .null, .null, .null])), (q1, .inl (k2, 4, .inr (.inr (.inr (.inr (fun _ => none))))))] := hD
  refine lv_aload_n hx hb dX6_init_12 rfl (lv_at hl 0 rfl) ?_
  refine lv_sipush (v := 400) hx hb dX6_init_13 (by decide) ?_
  refine va_newq (C := RX2) (N' := 400) hx hb hown (ht _ kw_144) hE.2.1 hK hP hD hS hA (by decide) (by decide) (Nat.le_of_ble_eq_true rfl) (Nat.le_of_ble_eq_true rfl) (Nat.le_of_ble_eq_true rfl) dX6_init_16 (fun q3 k4 H hK hP hD hS => ?_)
  have hP : va_P (dC, dI) vwCl [(h0, .inr (6, [.null, .ref q1, .int 0, .null, .int 0, .int 0, .int 0, .null, .null, .null, .null, .null, .int 0, .null, .null, .null])), (q1, .inl (k2, 4, .inr (.inr (.inr (.inr (fun _ => none)))))), (q3, .inl (k4, 400, .inr (.inr (.inr (.inr (fun _ => none))))))] H := hP
  have hD : va_D A [(h0, .inr (6, [.null, .ref q1, .int 0, .null, .int 0, .int 0, .int 0, .null, .null, .null, .null, .null, .int 0, .null, .null, .null])), (q1, .inl (k2, 4, .inr (.inr (.inr (.inr (fun _ => none)))))), (q3, .inl (k4, 400, .inr (.inr (.inr (.inr (fun _ => none))))))] := hD
  have hK : va_K (dC, dI) vwCl [(k2, .object RX0), (k4, .object RX2)] s := hK
  refine W.widen (k := 2) (n := 404) (Nat.le_of_ble_eq_true rfl) (Nat.le_of_ble_eq_true rfl) ?_
  refine va_putF (D := (dC, dI)) (ci := 6) (v := .ref q3) (ty := .array (.object "SportsHouse$Match")) (C := RX6) (T := TX6) (N := 16) hx hb ht inX6 tyX6 tyX6_ok nmX6 hown hK hP hD hS 0 rfl rfl 3 (by decide) (ht _ kw_150) (fun _ h9 => h9) rfl hin rfl (by decide +kernel) rfl rfl (Nat.le_of_ble_eq_true rfl) dX6_init_19 (fun H locs hP hD hS => ?_)
  have hP : va_P (dC, dI) vwCl [(h0, .inr (6, [.null, .ref q1, .int 0, .ref q3, .int 0, .int 0, .int 0, .null, .null, .null, .null, .null, .int 0, .null, .null, .null])), (q1, .inl (k2, 4, .inr (.inr (.inr (.inr (fun _ => none)))))), (q3, .inl (k4, 400, .inr (.inr (.inr (.inr (fun _ => none))))))] H := hP
  have hD : va_D A [(h0, .inr (6, [.null, .ref q1, .int 0, .ref q3, .int 0, .int 0, .int 0, .null, .null, .null, .null, .null, .int 0, .null, .null, .null])), (q1, .inl (k2, 4, .inr (.inr (.inr (.inr (fun _ => none)))))), (q3, .inl (k4, 400, .inr (.inr (.inr (.inr (fun _ => none))))))] := hD
  refine lv_aload_n hx hb dX6_init_22 rfl (lv_at hl 0 rfl) ?_
  refine lv_bipush (v := 50) hx hb dX6_init_23 (by decide) ?_
  refine va_newa (atype := .int) (ty := .int) (a0 := (50, .inl (fun _ => 0))) hx hb (ht _ kw_72) rfl hK hP hD hS hA (fun _ => rfl) (by decide) (by decide) (Nat.le_of_ble_eq_true rfl) (Nat.le_of_ble_eq_true rfl) (Nat.le_of_ble_eq_true rfl) dX6_init_25 (fun q5 k6 H hK hP hD hS => ?_)
  have hP : va_P (dC, dI) vwCl [(h0, .inr (6, [.null, .ref q1, .int 0, .ref q3, .int 0, .int 0, .int 0, .null, .null, .null, .null, .null, .int 0, .null, .null, .null])), (q1, .inl (k2, 4, .inr (.inr (.inr (.inr (fun _ => none)))))), (q3, .inl (k4, 400, .inr (.inr (.inr (.inr (fun _ => none)))))), (q5, .inl (k6, 50, .inl (fun _ => 0)))] H := hP
  have hD : va_D A [(h0, .inr (6, [.null, .ref q1, .int 0, .ref q3, .int 0, .int 0, .int 0, .null, .null, .null, .null, .null, .int 0, .null, .null, .null])), (q1, .inl (k2, 4, .inr (.inr (.inr (.inr (fun _ => none)))))), (q3, .inl (k4, 400, .inr (.inr (.inr (.inr (fun _ => none)))))), (q5, .inl (k6, 50, .inl (fun _ => 0)))] := hD
  have hK : va_K (dC, dI) vwCl [(k2, .object RX0), (k4, .object RX2), (k6, .int)] s := hK
  refine W.widen (k := 3) (n := 454) (Nat.le_of_ble_eq_true rfl) (Nat.le_of_ble_eq_true rfl) ?_
  refine va_putF (D := (dC, dI)) (ci := 6) (v := .ref q5) (ty := .array .int) (C := RX6) (T := TX6) (N := 16) hx hb ht inX6 tyX6 tyX6_ok nmX6 hown hK hP hD hS 0 rfl rfl 7 (by decide) (ht _ kw_161) (fun _ h9 => h9) rfl hin rfl (by decide +kernel) rfl rfl (Nat.le_of_ble_eq_true rfl) dX6_init_27 (fun H locs hP hD hS => ?_)
  have hP : va_P (dC, dI) vwCl [(h0, .inr (6, [.null, .ref q1, .int 0, .ref q3, .int 0, .int 0, .int 0, .ref q5, .null, .null, .null, .null, .int 0, .null, .null, .null])), (q1, .inl (k2, 4, .inr (.inr (.inr (.inr (fun _ => none)))))), (q3, .inl (k4, 400, .inr (.inr (.inr (.inr (fun _ => none)))))), (q5, .inl (k6, 50, .inl (fun _ => 0)))] H := hP
  have hD : va_D A [(h0, .inr (6, [.null, .ref q1, .int 0, .ref q3, .int 0, .int 0, .int 0, .ref q5, .null, .null, .null, .null, .int 0, .null, .null, .null])), (q1, .inl (k2, 4, .inr (.inr (.inr (.inr (fun _ => none)))))), (q3, .inl (k4, 400, .inr (.inr (.inr (.inr (fun _ => none)))))), (q5, .inl (k6, 50, .inl (fun _ => 0)))] := hD
  refine lv_aload_n hx hb dX6_init_30 rfl (lv_at hl 0 rfl) ?_
  refine lv_bipush (v := 50) hx hb dX6_init_31 (by decide) ?_
  refine va_newa (atype := .int) (ty := .int) (a0 := (50, .inl (fun _ => 0))) hx hb (ht _ kw_72) rfl hK hP hD hS hA (fun _ => rfl) (by decide) (by decide) (Nat.le_of_ble_eq_true rfl) (Nat.le_of_ble_eq_true rfl) (Nat.le_of_ble_eq_true rfl) dX6_init_33 (fun q7 k8 H hK hP hD hS => ?_)
  have hP : va_P (dC, dI) vwCl [(h0, .inr (6, [.null, .ref q1, .int 0, .ref q3, .int 0, .int 0, .int 0, .ref q5, .null, .null, .null, .null, .int 0, .null, .null, .null])), (q1, .inl (k2, 4, .inr (.inr (.inr (.inr (fun _ => none)))))), (q3, .inl (k4, 400, .inr (.inr (.inr (.inr (fun _ => none)))))), (q5, .inl (k6, 50, .inl (fun _ => 0))), (q7, .inl (k8, 50, .inl (fun _ => 0)))] H := hP
  have hD : va_D A [(h0, .inr (6, [.null, .ref q1, .int 0, .ref q3, .int 0, .int 0, .int 0, .ref q5, .null, .null, .null, .null, .int 0, .null, .null, .null])), (q1, .inl (k2, 4, .inr (.inr (.inr (.inr (fun _ => none)))))), (q3, .inl (k4, 400, .inr (.inr (.inr (.inr (fun _ => none)))))), (q5, .inl (k6, 50, .inl (fun _ => 0))), (q7, .inl (k8, 50, .inl (fun _ => 0)))] := hD
  have hK : va_K (dC, dI) vwCl [(k2, .object RX0), (k4, .object RX2), (k6, .int), (k8, .int)] s := hK
  refine W.widen (k := 4) (n := 504) (Nat.le_of_ble_eq_true rfl) (Nat.le_of_ble_eq_true rfl) ?_
  refine va_putF (D := (dC, dI)) (ci := 6) (v := .ref q7) (ty := .array .int) (C := RX6) (T := TX6) (N := 16) hx hb ht inX6 tyX6 tyX6_ok nmX6 hown hK hP hD hS 0 rfl rfl 8 (by decide) (ht _ kw_162) (fun _ h9 => h9) rfl hin rfl (by decide +kernel) rfl rfl (Nat.le_of_ble_eq_true rfl) dX6_init_35 (fun H locs hP hD hS => ?_)
  have hP : va_P (dC, dI) vwCl [(h0, .inr (6, [.null, .ref q1, .int 0, .ref q3, .int 0, .int 0, .int 0, .ref q5, .ref q7, .null, .null, .null, .int 0, .null, .null, .null])), (q1, .inl (k2, 4, .inr (.inr (.inr (.inr (fun _ => none)))))), (q3, .inl (k4, 400, .inr (.inr (.inr (.inr (fun _ => none)))))), (q5, .inl (k6, 50, .inl (fun _ => 0))), (q7, .inl (k8, 50, .inl (fun _ => 0)))] H := hP
  have hD : va_D A [(h0, .inr (6, [.null, .ref q1, .int 0, .ref q3, .int 0, .int 0, .int 0, .ref q5, .ref q7, .null, .null, .null, .int 0, .null, .null, .null])), (q1, .inl (k2, 4, .inr (.inr (.inr (.inr (fun _ => none)))))), (q3, .inl (k4, 400, .inr (.inr (.inr (.inr (fun _ => none)))))), (q5, .inl (k6, 50, .inl (fun _ => 0))), (q7, .inl (k8, 50, .inl (fun _ => 0)))] := hD
  refine lv_aload_n hx hb dX6_init_38 rfl (lv_at hl 0 rfl) ?_
  refine lv_bipush (v := 50) hx hb dX6_init_39 (by decide) ?_
  refine va_newa (atype := .int) (ty := .int) (a0 := (50, .inl (fun _ => 0))) hx hb (ht _ kw_72) rfl hK hP hD hS hA (fun _ => rfl) (by decide) (by decide) (Nat.le_of_ble_eq_true rfl) (Nat.le_of_ble_eq_true rfl) (Nat.le_of_ble_eq_true rfl) dX6_init_41 (fun q9 k10 H hK hP hD hS => ?_)
  have hP : va_P (dC, dI) vwCl [(h0, .inr (6, [.null, .ref q1, .int 0, .ref q3, .int 0, .int 0, .int 0, .ref q5, .ref q7, .null, .null, .null, .int 0, .null, .null, .null])), (q1, .inl (k2, 4, .inr (.inr (.inr (.inr (fun _ => none)))))), (q3, .inl (k4, 400, .inr (.inr (.inr (.inr (fun _ => none)))))), (q5, .inl (k6, 50, .inl (fun _ => 0))), (q7, .inl (k8, 50, .inl (fun _ => 0))), (q9, .inl (k10, 50, .inl (fun _ => 0)))] H := hP
  have hD : va_D A [(h0, .inr (6, [.null, .ref q1, .int 0, .ref q3, .int 0, .int 0, .int 0, .ref q5, .ref q7, .null, .null, .null, .int 0, .null, .null, .null])), (q1, .inl (k2, 4, .inr (.inr (.inr (.inr (fun _ => none)))))), (q3, .inl (k4, 400, .inr (.inr (.inr (.inr (fun _ => none)))))), (q5, .inl (k6, 50, .inl (fun _ => 0))), (q7, .inl (k8, 50, .inl (fun _ => 0))), (q9, .inl (k10, 50, .inl (fun _ => 0)))] := hD
  have hK : va_K (dC, dI) vwCl [(k2, .object RX0), (k4, .object RX2), (k6, .int), (k8, .int), (k10, .int)] s := hK
  refine W.widen (k := 5) (n := 554) (Nat.le_of_ble_eq_true rfl) (Nat.le_of_ble_eq_true rfl) ?_
  refine va_putF (D := (dC, dI)) (ci := 6) (v := .ref q9) (ty := .array .int) (C := RX6) (T := TX6) (N := 16) hx hb ht inX6 tyX6 tyX6_ok nmX6 hown hK hP hD hS 0 rfl rfl 9 (by decide) (ht _ kw_163) (fun _ h9 => h9) rfl hin rfl (by decide +kernel) rfl rfl (Nat.le_of_ble_eq_true rfl) dX6_init_43 (fun H locs hP hD hS => ?_)
  have hP : va_P (dC, dI) vwCl [(h0, .inr (6, [.null, .ref q1, .int 0, .ref q3, .int 0, .int 0, .int 0, .ref q5, .ref q7, .ref q9, .null, .null, .int 0, .null, .null, .null])), (q1, .inl (k2, 4, .inr (.inr (.inr (.inr (fun _ => none)))))), (q3, .inl (k4, 400, .inr (.inr (.inr (.inr (fun _ => none)))))), (q5, .inl (k6, 50, .inl (fun _ => 0))), (q7, .inl (k8, 50, .inl (fun _ => 0))), (q9, .inl (k10, 50, .inl (fun _ => 0)))] H := hP
  have hD : va_D A [(h0, .inr (6, [.null, .ref q1, .int 0, .ref q3, .int 0, .int 0, .int 0, .ref q5, .ref q7, .ref q9, .null, .null, .int 0, .null, .null, .null])), (q1, .inl (k2, 4, .inr (.inr (.inr (.inr (fun _ => none)))))), (q3, .inl (k4, 400, .inr (.inr (.inr (.inr (fun _ => none)))))), (q5, .inl (k6, 50, .inl (fun _ => 0))), (q7, .inl (k8, 50, .inl (fun _ => 0))), (q9, .inl (k10, 50, .inl (fun _ => 0)))] := hD
  refine lv_aload_n hx hb dX6_init_46 rfl (lv_at hl 0 rfl) ?_
  refine lv_bipush (v := 50) hx hb dX6_init_47 (by decide) ?_
  refine va_newa (atype := .int) (ty := .int) (a0 := (50, .inl (fun _ => 0))) hx hb (ht _ kw_72) rfl hK hP hD hS hA (fun _ => rfl) (by decide) (by decide) (Nat.le_of_ble_eq_true rfl) (Nat.le_of_ble_eq_true rfl) (Nat.le_of_ble_eq_true rfl) dX6_init_49 (fun q11 k12 H hK hP hD hS => ?_)
  have hP : va_P (dC, dI) vwCl [(h0, .inr (6, [.null, .ref q1, .int 0, .ref q3, .int 0, .int 0, .int 0, .ref q5, .ref q7, .ref q9, .null, .null, .int 0, .null, .null, .null])), (q1, .inl (k2, 4, .inr (.inr (.inr (.inr (fun _ => none)))))), (q3, .inl (k4, 400, .inr (.inr (.inr (.inr (fun _ => none)))))), (q5, .inl (k6, 50, .inl (fun _ => 0))), (q7, .inl (k8, 50, .inl (fun _ => 0))), (q9, .inl (k10, 50, .inl (fun _ => 0))), (q11, .inl (k12, 50, .inl (fun _ => 0)))] H := hP
  have hD : va_D A [(h0, .inr (6, [.null, .ref q1, .int 0, .ref q3, .int 0, .int 0, .int 0, .ref q5, .ref q7, .ref q9, .null, .null, .int 0, .null, .null, .null])), (q1, .inl (k2, 4, .inr (.inr (.inr (.inr (fun _ => none)))))), (q3, .inl (k4, 400, .inr (.inr (.inr (.inr (fun _ => none)))))), (q5, .inl (k6, 50, .inl (fun _ => 0))), (q7, .inl (k8, 50, .inl (fun _ => 0))), (q9, .inl (k10, 50, .inl (fun _ => 0))), (q11, .inl (k12, 50, .inl (fun _ => 0)))] := hD
  have hK : va_K (dC, dI) vwCl [(k2, .object RX0), (k4, .object RX2), (k6, .int), (k8, .int), (k10, .int), (k12, .int)] s := hK
  refine W.widen (k := 6) (n := 604) (Nat.le_of_ble_eq_true rfl) (Nat.le_of_ble_eq_true rfl) ?_
  refine va_putF (D := (dC, dI)) (ci := 6) (v := .ref q11) (ty := .array .int) (C := RX6) (T := TX6) (N := 16) hx hb ht inX6 tyX6 tyX6_ok nmX6 hown hK hP hD hS 0 rfl rfl 10 (by decide) (ht _ kw_164) (fun _ h9 => h9) rfl hin rfl (by decide +kernel) rfl rfl (Nat.le_of_ble_eq_true rfl) dX6_init_51 (fun H locs hP hD hS => ?_)
  have hP : va_P (dC, dI) vwCl [(h0, .inr (6, [.null, .ref q1, .int 0, .ref q3, .int 0, .int 0, .int 0, .ref q5, .ref q7, .ref q9, .ref q11, .null, .int 0, .null, .null, .null])), (q1, .inl (k2, 4, .inr (.inr (.inr (.inr (fun _ => none)))))), (q3, .inl (k4, 400, .inr (.inr (.inr (.inr (fun _ => none)))))), (q5, .inl (k6, 50, .inl (fun _ => 0))), (q7, .inl (k8, 50, .inl (fun _ => 0))), (q9, .inl (k10, 50, .inl (fun _ => 0))), (q11, .inl (k12, 50, .inl (fun _ => 0)))] H := hP
  have hD : va_D A [(h0, .inr (6, [.null, .ref q1, .int 0, .ref q3, .int 0, .int 0, .int 0, .ref q5, .ref q7, .ref q9, .ref q11, .null, .int 0, .null, .null, .null])), (q1, .inl (k2, 4, .inr (.inr (.inr (.inr (fun _ => none)))))), (q3, .inl (k4, 400, .inr (.inr (.inr (.inr (fun _ => none)))))), (q5, .inl (k6, 50, .inl (fun _ => 0))), (q7, .inl (k8, 50, .inl (fun _ => 0))), (q9, .inl (k10, 50, .inl (fun _ => 0))), (q11, .inl (k12, 50, .inl (fun _ => 0)))] := hD
  refine lv_aload_n hx hb dX6_init_54 rfl (lv_at hl 0 rfl) ?_
  refine lv_sipush (v := 400) hx hb dX6_init_55 (by decide) ?_
  refine va_newa (atype := .int) (ty := .int) (a0 := (400, .inl (fun _ => 0))) hx hb (ht _ kw_72) rfl hK hP hD hS hA (fun _ => rfl) (by decide) (by decide) (Nat.le_of_ble_eq_true rfl) (Nat.le_of_ble_eq_true rfl) (Nat.le_of_ble_eq_true rfl) dX6_init_58 (fun q13 k14 H hK hP hD hS => ?_)
  have hP : va_P (dC, dI) vwCl [(h0, .inr (6, [.null, .ref q1, .int 0, .ref q3, .int 0, .int 0, .int 0, .ref q5, .ref q7, .ref q9, .ref q11, .null, .int 0, .null, .null, .null])), (q1, .inl (k2, 4, .inr (.inr (.inr (.inr (fun _ => none)))))), (q3, .inl (k4, 400, .inr (.inr (.inr (.inr (fun _ => none)))))), (q5, .inl (k6, 50, .inl (fun _ => 0))), (q7, .inl (k8, 50, .inl (fun _ => 0))), (q9, .inl (k10, 50, .inl (fun _ => 0))), (q11, .inl (k12, 50, .inl (fun _ => 0))), (q13, .inl (k14, 400, .inl (fun _ => 0)))] H := hP
  have hD : va_D A [(h0, .inr (6, [.null, .ref q1, .int 0, .ref q3, .int 0, .int 0, .int 0, .ref q5, .ref q7, .ref q9, .ref q11, .null, .int 0, .null, .null, .null])), (q1, .inl (k2, 4, .inr (.inr (.inr (.inr (fun _ => none)))))), (q3, .inl (k4, 400, .inr (.inr (.inr (.inr (fun _ => none)))))), (q5, .inl (k6, 50, .inl (fun _ => 0))), (q7, .inl (k8, 50, .inl (fun _ => 0))), (q9, .inl (k10, 50, .inl (fun _ => 0))), (q11, .inl (k12, 50, .inl (fun _ => 0))), (q13, .inl (k14, 400, .inl (fun _ => 0)))] := hD
  have hK : va_K (dC, dI) vwCl [(k2, .object RX0), (k4, .object RX2), (k6, .int), (k8, .int), (k10, .int), (k12, .int), (k14, .int)] s := hK
  refine W.widen (k := 7) (n := 1004) (Nat.le_of_ble_eq_true rfl) (Nat.le_of_ble_eq_true rfl) ?_
  refine va_putF (D := (dC, dI)) (ci := 6) (v := .ref q13) (ty := .array .int) (C := RX6) (T := TX6) (N := 16) hx hb ht inX6 tyX6 tyX6_ok nmX6 hown hK hP hD hS 0 rfl rfl 11 (by decide) (ht _ kw_165) (fun _ h9 => h9) rfl hin rfl (by decide +kernel) rfl rfl (Nat.le_of_ble_eq_true rfl) dX6_init_60 (fun H locs hP hD hS => ?_)
  have hP : va_P (dC, dI) vwCl [(h0, .inr (6, [.null, .ref q1, .int 0, .ref q3, .int 0, .int 0, .int 0, .ref q5, .ref q7, .ref q9, .ref q11, .ref q13, .int 0, .null, .null, .null])), (q1, .inl (k2, 4, .inr (.inr (.inr (.inr (fun _ => none)))))), (q3, .inl (k4, 400, .inr (.inr (.inr (.inr (fun _ => none)))))), (q5, .inl (k6, 50, .inl (fun _ => 0))), (q7, .inl (k8, 50, .inl (fun _ => 0))), (q9, .inl (k10, 50, .inl (fun _ => 0))), (q11, .inl (k12, 50, .inl (fun _ => 0))), (q13, .inl (k14, 400, .inl (fun _ => 0)))] H := hP
  have hD : va_D A [(h0, .inr (6, [.null, .ref q1, .int 0, .ref q3, .int 0, .int 0, .int 0, .ref q5, .ref q7, .ref q9, .ref q11, .ref q13, .int 0, .null, .null, .null])), (q1, .inl (k2, 4, .inr (.inr (.inr (.inr (fun _ => none)))))), (q3, .inl (k4, 400, .inr (.inr (.inr (.inr (fun _ => none)))))), (q5, .inl (k6, 50, .inl (fun _ => 0))), (q7, .inl (k8, 50, .inl (fun _ => 0))), (q9, .inl (k10, 50, .inl (fun _ => 0))), (q11, .inl (k12, 50, .inl (fun _ => 0))), (q13, .inl (k14, 400, .inl (fun _ => 0)))] := hD
  refine lv_aload_n hx hb dX6_init_63 rfl (lv_at hl 0 rfl) ?_
  refine lv_sipush (v := 400) hx hb dX6_init_64 (by decide) ?_
  refine va_newa (atype := .int) (ty := .int) (a0 := (400, .inl (fun _ => 0))) hx hb (ht _ kw_72) rfl hK hP hD hS hA (fun _ => rfl) (by decide) (by decide) (Nat.le_of_ble_eq_true rfl) (Nat.le_of_ble_eq_true rfl) (Nat.le_of_ble_eq_true rfl) dX6_init_67 (fun q15 k16 H hK hP hD hS => ?_)
  have hP : va_P (dC, dI) vwCl [(h0, .inr (6, [.null, .ref q1, .int 0, .ref q3, .int 0, .int 0, .int 0, .ref q5, .ref q7, .ref q9, .ref q11, .ref q13, .int 0, .null, .null, .null])), (q1, .inl (k2, 4, .inr (.inr (.inr (.inr (fun _ => none)))))), (q3, .inl (k4, 400, .inr (.inr (.inr (.inr (fun _ => none)))))), (q5, .inl (k6, 50, .inl (fun _ => 0))), (q7, .inl (k8, 50, .inl (fun _ => 0))), (q9, .inl (k10, 50, .inl (fun _ => 0))), (q11, .inl (k12, 50, .inl (fun _ => 0))), (q13, .inl (k14, 400, .inl (fun _ => 0))), (q15, .inl (k16, 400, .inl (fun _ => 0)))] H := hP
  have hD : va_D A [(h0, .inr (6, [.null, .ref q1, .int 0, .ref q3, .int 0, .int 0, .int 0, .ref q5, .ref q7, .ref q9, .ref q11, .ref q13, .int 0, .null, .null, .null])), (q1, .inl (k2, 4, .inr (.inr (.inr (.inr (fun _ => none)))))), (q3, .inl (k4, 400, .inr (.inr (.inr (.inr (fun _ => none)))))), (q5, .inl (k6, 50, .inl (fun _ => 0))), (q7, .inl (k8, 50, .inl (fun _ => 0))), (q9, .inl (k10, 50, .inl (fun _ => 0))), (q11, .inl (k12, 50, .inl (fun _ => 0))), (q13, .inl (k14, 400, .inl (fun _ => 0))), (q15, .inl (k16, 400, .inl (fun _ => 0)))] := hD
  have hK : va_K (dC, dI) vwCl [(k2, .object RX0), (k4, .object RX2), (k6, .int), (k8, .int), (k10, .int), (k12, .int), (k14, .int), (k16, .int)] s := hK
  refine W.widen (k := 8) (n := 1404) (Nat.le_of_ble_eq_true rfl) (Nat.le_of_ble_eq_true rfl) ?_
  refine va_putF (D := (dC, dI)) (ci := 6) (v := .ref q15) (ty := .array .int) (C := RX6) (T := TX6) (N := 16) hx hb ht inX6 tyX6 tyX6_ok nmX6 hown hK hP hD hS 0 rfl rfl 13 (by decide) (ht _ kw_169) (fun _ h9 => h9) rfl hin rfl (by decide +kernel) rfl rfl (Nat.le_of_ble_eq_true rfl) dX6_init_69 (fun H locs hP hD hS => ?_)
  have hP : va_P (dC, dI) vwCl [(h0, .inr (6, [.null, .ref q1, .int 0, .ref q3, .int 0, .int 0, .int 0, .ref q5, .ref q7, .ref q9, .ref q11, .ref q13, .int 0, .ref q15, .null, .null])), (q1, .inl (k2, 4, .inr (.inr (.inr (.inr (fun _ => none)))))), (q3, .inl (k4, 400, .inr (.inr (.inr (.inr (fun _ => none)))))), (q5, .inl (k6, 50, .inl (fun _ => 0))), (q7, .inl (k8, 50, .inl (fun _ => 0))), (q9, .inl (k10, 50, .inl (fun _ => 0))), (q11, .inl (k12, 50, .inl (fun _ => 0))), (q13, .inl (k14, 400, .inl (fun _ => 0))), (q15, .inl (k16, 400, .inl (fun _ => 0)))] H := hP
  have hD : va_D A [(h0, .inr (6, [.null, .ref q1, .int 0, .ref q3, .int 0, .int 0, .int 0, .ref q5, .ref q7, .ref q9, .ref q11, .ref q13, .int 0, .ref q15, .null, .null])), (q1, .inl (k2, 4, .inr (.inr (.inr (.inr (fun _ => none)))))), (q3, .inl (k4, 400, .inr (.inr (.inr (.inr (fun _ => none)))))), (q5, .inl (k6, 50, .inl (fun _ => 0))), (q7, .inl (k8, 50, .inl (fun _ => 0))), (q9, .inl (k10, 50, .inl (fun _ => 0))), (q11, .inl (k12, 50, .inl (fun _ => 0))), (q13, .inl (k14, 400, .inl (fun _ => 0))), (q15, .inl (k16, 400, .inl (fun _ => 0)))] := hD
  refine lv_aload_n hx hb dX6_init_72 rfl (lv_at hl 0 rfl) ?_
  refine lv_sipush (v := 400) hx hb dX6_init_73 (by decide) ?_
  refine va_newa (atype := .int) (ty := .int) (a0 := (400, .inl (fun _ => 0))) hx hb (ht _ kw_72) rfl hK hP hD hS hA (fun _ => rfl) (by decide) (by decide) (Nat.le_of_ble_eq_true rfl) (Nat.le_of_ble_eq_true rfl) (Nat.le_of_ble_eq_true rfl) dX6_init_76 (fun q17 k18 H hK hP hD hS => ?_)
  have hP : va_P (dC, dI) vwCl [(h0, .inr (6, [.null, .ref q1, .int 0, .ref q3, .int 0, .int 0, .int 0, .ref q5, .ref q7, .ref q9, .ref q11, .ref q13, .int 0, .ref q15, .null, .null])), (q1, .inl (k2, 4, .inr (.inr (.inr (.inr (fun _ => none)))))), (q3, .inl (k4, 400, .inr (.inr (.inr (.inr (fun _ => none)))))), (q5, .inl (k6, 50, .inl (fun _ => 0))), (q7, .inl (k8, 50, .inl (fun _ => 0))), (q9, .inl (k10, 50, .inl (fun _ => 0))), (q11, .inl (k12, 50, .inl (fun _ => 0))), (q13, .inl (k14, 400, .inl (fun _ => 0))), (q15, .inl (k16, 400, .inl (fun _ => 0))), (q17, .inl (k18, 400, .inl (fun _ => 0)))] H := hP
  have hD : va_D A [(h0, .inr (6, [.null, .ref q1, .int 0, .ref q3, .int 0, .int 0, .int 0, .ref q5, .ref q7, .ref q9, .ref q11, .ref q13, .int 0, .ref q15, .null, .null])), (q1, .inl (k2, 4, .inr (.inr (.inr (.inr (fun _ => none)))))), (q3, .inl (k4, 400, .inr (.inr (.inr (.inr (fun _ => none)))))), (q5, .inl (k6, 50, .inl (fun _ => 0))), (q7, .inl (k8, 50, .inl (fun _ => 0))), (q9, .inl (k10, 50, .inl (fun _ => 0))), (q11, .inl (k12, 50, .inl (fun _ => 0))), (q13, .inl (k14, 400, .inl (fun _ => 0))), (q15, .inl (k16, 400, .inl (fun _ => 0))), (q17, .inl (k18, 400, .inl (fun _ => 0)))] := hD
  have hK : va_K (dC, dI) vwCl [(k2, .object RX0), (k4, .object RX2), (k6, .int), (k8, .int), (k10, .int), (k12, .int), (k14, .int), (k16, .int), (k18, .int)] s := hK
  refine W.widen (k := 9) (n := 1804) (Nat.le_of_ble_eq_true rfl) (Nat.le_of_ble_eq_true rfl) ?_
  refine va_putF (D := (dC, dI)) (ci := 6) (v := .ref q17) (ty := .array .int) (C := RX6) (T := TX6) (N := 16) hx hb ht inX6 tyX6 tyX6_ok nmX6 hown hK hP hD hS 0 rfl rfl 14 (by decide) (ht _ kw_170) (fun _ h9 => h9) rfl hin rfl (by decide +kernel) rfl rfl (Nat.le_of_ble_eq_true rfl) dX6_init_78 (fun H locs hP hD hS => ?_)
  have hP : va_P (dC, dI) vwCl [(h0, .inr (6, [.null, .ref q1, .int 0, .ref q3, .int 0, .int 0, .int 0, .ref q5, .ref q7, .ref q9, .ref q11, .ref q13, .int 0, .ref q15, .ref q17, .null])), (q1, .inl (k2, 4, .inr (.inr (.inr (.inr (fun _ => none)))))), (q3, .inl (k4, 400, .inr (.inr (.inr (.inr (fun _ => none)))))), (q5, .inl (k6, 50, .inl (fun _ => 0))), (q7, .inl (k8, 50, .inl (fun _ => 0))), (q9, .inl (k10, 50, .inl (fun _ => 0))), (q11, .inl (k12, 50, .inl (fun _ => 0))), (q13, .inl (k14, 400, .inl (fun _ => 0))), (q15, .inl (k16, 400, .inl (fun _ => 0))), (q17, .inl (k18, 400, .inl (fun _ => 0)))] H := hP
  have hD : va_D A [(h0, .inr (6, [.null, .ref q1, .int 0, .ref q3, .int 0, .int 0, .int 0, .ref q5, .ref q7, .ref q9, .ref q11, .ref q13, .int 0, .ref q15, .ref q17, .null])), (q1, .inl (k2, 4, .inr (.inr (.inr (.inr (fun _ => none)))))), (q3, .inl (k4, 400, .inr (.inr (.inr (.inr (fun _ => none)))))), (q5, .inl (k6, 50, .inl (fun _ => 0))), (q7, .inl (k8, 50, .inl (fun _ => 0))), (q9, .inl (k10, 50, .inl (fun _ => 0))), (q11, .inl (k12, 50, .inl (fun _ => 0))), (q13, .inl (k14, 400, .inl (fun _ => 0))), (q15, .inl (k16, 400, .inl (fun _ => 0))), (q17, .inl (k18, 400, .inl (fun _ => 0)))] := hD
  refine lv_aload_n hx hb dX6_init_81 rfl (lv_at hl 0 rfl) ?_
  refine lv_sipush (v := 1000) hx hb dX6_init_82 (by decide) ?_
  refine va_newa (atype := .int) (ty := .int) (a0 := (1000, .inl (fun _ => 0))) hx hb (ht _ kw_72) rfl hK hP hD hS hA (fun _ => rfl) (by decide) (by decide) (Nat.le_of_ble_eq_true rfl) (Nat.le_of_ble_eq_true rfl) (Nat.le_of_ble_eq_true rfl) dX6_init_85 (fun q19 k20 H hK hP hD hS => ?_)
  have hP : va_P (dC, dI) vwCl [(h0, .inr (6, [.null, .ref q1, .int 0, .ref q3, .int 0, .int 0, .int 0, .ref q5, .ref q7, .ref q9, .ref q11, .ref q13, .int 0, .ref q15, .ref q17, .null])), (q1, .inl (k2, 4, .inr (.inr (.inr (.inr (fun _ => none)))))), (q3, .inl (k4, 400, .inr (.inr (.inr (.inr (fun _ => none)))))), (q5, .inl (k6, 50, .inl (fun _ => 0))), (q7, .inl (k8, 50, .inl (fun _ => 0))), (q9, .inl (k10, 50, .inl (fun _ => 0))), (q11, .inl (k12, 50, .inl (fun _ => 0))), (q13, .inl (k14, 400, .inl (fun _ => 0))), (q15, .inl (k16, 400, .inl (fun _ => 0))), (q17, .inl (k18, 400, .inl (fun _ => 0))), (q19, .inl (k20, 1000, .inl (fun _ => 0)))] H := hP
  have hD : va_D A [(h0, .inr (6, [.null, .ref q1, .int 0, .ref q3, .int 0, .int 0, .int 0, .ref q5, .ref q7, .ref q9, .ref q11, .ref q13, .int 0, .ref q15, .ref q17, .null])), (q1, .inl (k2, 4, .inr (.inr (.inr (.inr (fun _ => none)))))), (q3, .inl (k4, 400, .inr (.inr (.inr (.inr (fun _ => none)))))), (q5, .inl (k6, 50, .inl (fun _ => 0))), (q7, .inl (k8, 50, .inl (fun _ => 0))), (q9, .inl (k10, 50, .inl (fun _ => 0))), (q11, .inl (k12, 50, .inl (fun _ => 0))), (q13, .inl (k14, 400, .inl (fun _ => 0))), (q15, .inl (k16, 400, .inl (fun _ => 0))), (q17, .inl (k18, 400, .inl (fun _ => 0))), (q19, .inl (k20, 1000, .inl (fun _ => 0)))] := hD
  have hK : va_K (dC, dI) vwCl [(k2, .object RX0), (k4, .object RX2), (k6, .int), (k8, .int), (k10, .int), (k12, .int), (k14, .int), (k16, .int), (k18, .int), (k20, .int)] s := hK
  refine W.widen (k := 10) (n := 2804) (Nat.le_of_ble_eq_true rfl) (Nat.le_of_ble_eq_true rfl) ?_
  refine va_putF (D := (dC, dI)) (ci := 6) (v := .ref q19) (ty := .array .int) (C := RX6) (T := TX6) (N := 16) hx hb ht inX6 tyX6 tyX6_ok nmX6 hown hK hP hD hS 0 rfl rfl 15 (by decide) (ht _ kw_171) (fun _ h9 => h9) rfl hin rfl (by decide +kernel) rfl rfl (Nat.le_of_ble_eq_true rfl) dX6_init_87 (fun H locs hP hD hS => ?_)
  have hP : va_P (dC, dI) vwCl [(h0, .inr (6, [.null, .ref q1, .int 0, .ref q3, .int 0, .int 0, .int 0, .ref q5, .ref q7, .ref q9, .ref q11, .ref q13, .int 0, .ref q15, .ref q17, .ref q19])), (q1, .inl (k2, 4, .inr (.inr (.inr (.inr (fun _ => none)))))), (q3, .inl (k4, 400, .inr (.inr (.inr (.inr (fun _ => none)))))), (q5, .inl (k6, 50, .inl (fun _ => 0))), (q7, .inl (k8, 50, .inl (fun _ => 0))), (q9, .inl (k10, 50, .inl (fun _ => 0))), (q11, .inl (k12, 50, .inl (fun _ => 0))), (q13, .inl (k14, 400, .inl (fun _ => 0))), (q15, .inl (k16, 400, .inl (fun _ => 0))), (q17, .inl (k18, 400, .inl (fun _ => 0))), (q19, .inl (k20, 1000, .inl (fun _ => 0)))] H := hP
  have hD : va_D A [(h0, .inr (6, [.null, .ref q1, .int 0, .ref q3, .int 0, .int 0, .int 0, .ref q5, .ref q7, .ref q9, .ref q11, .ref q13, .int 0, .ref q15, .ref q17, .ref q19])), (q1, .inl (k2, 4, .inr (.inr (.inr (.inr (fun _ => none)))))), (q3, .inl (k4, 400, .inr (.inr (.inr (.inr (fun _ => none)))))), (q5, .inl (k6, 50, .inl (fun _ => 0))), (q7, .inl (k8, 50, .inl (fun _ => 0))), (q9, .inl (k10, 50, .inl (fun _ => 0))), (q11, .inl (k12, 50, .inl (fun _ => 0))), (q13, .inl (k14, 400, .inl (fun _ => 0))), (q15, .inl (k16, 400, .inl (fun _ => 0))), (q17, .inl (k18, 400, .inl (fun _ => 0))), (q19, .inl (k20, 1000, .inl (fun _ => 0)))] := hD
  refine lv_aload_n hx hb dX6_init_90 rfl (lv_at hl 0 rfl) ?_
  refine lv_aload_n hx hb dX6_init_91 rfl (lv_at hl 1 rfl) ?_
  refine va_putF (D := (dC, dI)) (ci := 6) (v := .ref th) (ty := .object "SportsHouse$Things") (C := RX6) (T := TX6) (N := 16) hx hb ht inX6 tyX6 tyX6_ok nmX6 hown hK hP hD hS 0 rfl rfl 0 (by decide) (ht _ kw_146) (fun _ h9 => h9) rfl hin rfl (by decide +kernel) rfl rfl (Nat.le_of_ble_eq_true rfl) dX6_init_92 (fun H locs hP hD hS => ?_)
  have hP : va_P (dC, dI) vwCl [(h0, .inr (6, [.ref th, .ref q1, .int 0, .ref q3, .int 0, .int 0, .int 0, .ref q5, .ref q7, .ref q9, .ref q11, .ref q13, .int 0, .ref q15, .ref q17, .ref q19])), (q1, .inl (k2, 4, .inr (.inr (.inr (.inr (fun _ => none)))))), (q3, .inl (k4, 400, .inr (.inr (.inr (.inr (fun _ => none)))))), (q5, .inl (k6, 50, .inl (fun _ => 0))), (q7, .inl (k8, 50, .inl (fun _ => 0))), (q9, .inl (k10, 50, .inl (fun _ => 0))), (q11, .inl (k12, 50, .inl (fun _ => 0))), (q13, .inl (k14, 400, .inl (fun _ => 0))), (q15, .inl (k16, 400, .inl (fun _ => 0))), (q17, .inl (k18, 400, .inl (fun _ => 0))), (q19, .inl (k20, 1000, .inl (fun _ => 0)))] H := hP
  have hD : va_D A [(h0, .inr (6, [.ref th, .ref q1, .int 0, .ref q3, .int 0, .int 0, .int 0, .ref q5, .ref q7, .ref q9, .ref q11, .ref q13, .int 0, .ref q15, .ref q17, .ref q19])), (q1, .inl (k2, 4, .inr (.inr (.inr (.inr (fun _ => none)))))), (q3, .inl (k4, 400, .inr (.inr (.inr (.inr (fun _ => none)))))), (q5, .inl (k6, 50, .inl (fun _ => 0))), (q7, .inl (k8, 50, .inl (fun _ => 0))), (q9, .inl (k10, 50, .inl (fun _ => 0))), (q11, .inl (k12, 50, .inl (fun _ => 0))), (q13, .inl (k14, 400, .inl (fun _ => 0))), (q15, .inl (k16, 400, .inl (fun _ => 0))), (q17, .inl (k18, 400, .inl (fun _ => 0))), (q19, .inl (k20, 1000, .inl (fun _ => 0)))] := hD
  have hP := hP.sub (ws' := [(h0, .inr (6, [.ref th, .ref q1, .int 0, .ref q3, .int 0, .int 0, .int 0, .ref q5, .ref q7, .ref q9, .ref q11, .ref q13, .int 0, .ref q15, .ref q17, .ref q19])), (q1, .inl (k2, 4, .inr (.inr (.inr (.inr (fun _ => none))))))]) [0, 1] rfl
  have hD := hD.sub (ws' := [(h0, .inr (6, [.ref th, .ref q1, .int 0, .ref q3, .int 0, .int 0, .int 0, .ref q5, .ref q7, .ref q9, .ref q11, .ref q13, .int 0, .ref q15, .ref q17, .ref q19])), (q1, .inl (k2, 4, .inr (.inr (.inr (.inr (fun _ => none))))))]) [0, 1] (by decide) rfl
  have hK := hK.sub (tys' := [(k2, .object RX0)]) [0] rfl
  exact W.vret hx hb hr (fun t ht9 hW => ⟨⟨(), rfl, trivial, q1, q3, q5, q7, q9, q11, q13, q15, q17, q19, k2, by rw [ht9]; exact hP, va_K.moved hW.alike hK, hD⟩, hS.F ht9⟩) hS.2.2 dX6_init_95
abbrev cX7_init : ByteArray := prog_9_method_1_code
def yX7_init : MethodName := ⟨RX7, "<init>", "(LSportsHouse$Season;)V"⟩
theorem dX7_init_0 : decode cX7_init 0 = .ok (.aload_n 0, 1) := by decide +kernel
theorem dX7_init_1 : decode cX7_init 1 = .ok (.invokespecial 3, 3) := by decide +kernel
theorem kw_210 : Cond.methodLink RX7 3 objectInit ∈ lw_g := lw_at 210 (by decide +kernel) rfl
theorem dX7_init_4 : decode cX7_init 4 = .ok (.aload_n 0, 1) := by decide +kernel
theorem dX7_init_5 : decode cX7_init 5 = .ok (.bipush 96, 2) := by decide +kernel
theorem dX7_init_7 : decode cX7_init 7 = .ok (.newarray .int, 2) := by decide +kernel
theorem dX7_init_9 : decode cX7_init 9 = .ok (.putfield 11, 3) := by decide +kernel
theorem kw_213 : Cond.fieldLink RX7 11 "SportsHouse$Standings" "lines" "[I" ∈ lw_g := lw_at 213 (by decide +kernel) rfl
theorem dX7_init_12 : decode cX7_init 12 = .ok (.aload_n 0, 1) := by decide +kernel
theorem dX7_init_13 : decode cX7_init 13 = .ok (.bipush 12, 2) := by decide +kernel
theorem dX7_init_15 : decode cX7_init 15 = .ok (.newarray .int, 2) := by decide +kernel
theorem dX7_init_17 : decode cX7_init 17 = .ok (.putfield 15, 3) := by decide +kernel
theorem kw_216 : Cond.fieldLink RX7 15 "SportsHouse$Standings" "away" "[I" ∈ lw_g := lw_at 216 (by decide +kernel) rfl
theorem dX7_init_20 : decode cX7_init 20 = .ok (.aload_n 0, 1) := by decide +kernel
theorem dX7_init_21 : decode cX7_init 21 = .ok (.bipush 12, 2) := by decide +kernel
theorem dX7_init_23 : decode cX7_init 23 = .ok (.newarray .int, 2) := by decide +kernel
theorem dX7_init_25 : decode cX7_init 25 = .ok (.putfield 18, 3) := by decide +kernel
theorem kw_217 : Cond.fieldLink RX7 18 "SportsHouse$Standings" "fair" "[I" ∈ lw_g := lw_at 217 (by decide +kernel) rfl
theorem dX7_init_28 : decode cX7_init 28 = .ok (.aload_n 0, 1) := by decide +kernel
theorem dX7_init_29 : decode cX7_init 29 = .ok (.sipush 144, 3) := by decide +kernel
theorem dX7_init_32 : decode cX7_init 32 = .ok (.newarray .int, 2) := by decide +kernel
theorem dX7_init_34 : decode cX7_init 34 = .ok (.putfield 21, 3) := by decide +kernel
theorem kw_218 : Cond.fieldLink RX7 21 "SportsHouse$Standings" "headPoints" "[I" ∈ lw_g := lw_at 218 (by decide +kernel) rfl
theorem dX7_init_37 : decode cX7_init 37 = .ok (.aload_n 0, 1) := by decide +kernel
theorem dX7_init_38 : decode cX7_init 38 = .ok (.sipush 144, 3) := by decide +kernel
theorem dX7_init_41 : decode cX7_init 41 = .ok (.newarray .int, 2) := by decide +kernel
theorem dX7_init_43 : decode cX7_init 43 = .ok (.putfield 24, 3) := by decide +kernel
theorem kw_219 : Cond.fieldLink RX7 24 "SportsHouse$Standings" "headScored" "[I" ∈ lw_g := lw_at 219 (by decide +kernel) rfl
theorem dX7_init_46 : decode cX7_init 46 = .ok (.aload_n 0, 1) := by decide +kernel
theorem dX7_init_47 : decode cX7_init 47 = .ok (.bipush 12, 2) := by decide +kernel
theorem dX7_init_49 : decode cX7_init 49 = .ok (.newarray .int, 2) := by decide +kernel
theorem dX7_init_51 : decode cX7_init 51 = .ok (.putfield 27, 3) := by decide +kernel
theorem kw_220 : Cond.fieldLink RX7 27 "SportsHouse$Standings" "order" "[I" ∈ lw_g := lw_at 220 (by decide +kernel) rfl
theorem dX7_init_54 : decode cX7_init 54 = .ok (.aload_n 0, 1) := by decide +kernel
theorem dX7_init_55 : decode cX7_init 55 = .ok (.bipush 12, 2) := by decide +kernel
theorem dX7_init_57 : decode cX7_init 57 = .ok (.newarray .int, 2) := by decide +kernel
theorem dX7_init_59 : decode cX7_init 59 = .ok (.putfield 30, 3) := by decide +kernel
theorem kw_222 : Cond.fieldLink RX7 30 "SportsHouse$Standings" "partedBy" "[I" ∈ lw_g := lw_at 222 (by decide +kernel) rfl
theorem dX7_init_62 : decode cX7_init 62 = .ok (.aload_n 0, 1) := by decide +kernel
theorem dX7_init_63 : decode cX7_init 63 = .ok (.bipush 12, 2) := by decide +kernel
theorem dX7_init_65 : decode cX7_init 65 = .ok (.newarray .long, 2) := by decide +kernel
theorem kw_258 : Cond.arrayClass .long ∈ lw_g := lw_at 258 (by decide +kernel) rfl
theorem dX7_init_67 : decode cX7_init 67 = .ok (.putfield 33, 3) := by decide +kernel
theorem kw_224 : Cond.fieldLink RX7 33 "SportsHouse$Standings" "worth" "[J" ∈ lw_g := lw_at 224 (by decide +kernel) rfl
theorem dX7_init_70 : decode cX7_init 70 = .ok (.aload_n 0, 1) := by decide +kernel
theorem dX7_init_71 : decode cX7_init 71 = .ok (.bipush 16, 2) := by decide +kernel
theorem dX7_init_73 : decode cX7_init 73 = .ok (.newarray .int, 2) := by decide +kernel
theorem dX7_init_75 : decode cX7_init 75 = .ok (.putfield 37, 3) := by decide +kernel
theorem kw_225 : Cond.fieldLink RX7 37 "SportsHouse$Standings" "waitingFrom" "[I" ∈ lw_g := lw_at 225 (by decide +kernel) rfl
theorem dX7_init_78 : decode cX7_init 78 = .ok (.aload_n 0, 1) := by decide +kernel
theorem dX7_init_79 : decode cX7_init 79 = .ok (.bipush 16, 2) := by decide +kernel
theorem dX7_init_81 : decode cX7_init 81 = .ok (.newarray .int, 2) := by decide +kernel
theorem dX7_init_83 : decode cX7_init 83 = .ok (.putfield 40, 3) := by decide +kernel
theorem kw_226 : Cond.fieldLink RX7 40 "SportsHouse$Standings" "waitingTo" "[I" ∈ lw_g := lw_at 226 (by decide +kernel) rfl
theorem dX7_init_86 : decode cX7_init 86 = .ok (.aload_n 0, 1) := by decide +kernel
theorem dX7_init_87 : decode cX7_init 87 = .ok (.bipush 16, 2) := by decide +kernel
theorem dX7_init_89 : decode cX7_init 89 = .ok (.newarray .int, 2) := by decide +kernel
theorem dX7_init_91 : decode cX7_init 91 = .ok (.putfield 43, 3) := by decide +kernel
theorem kw_227 : Cond.fieldLink RX7 43 "SportsHouse$Standings" "waitingKey" "[I" ∈ lw_g := lw_at 227 (by decide +kernel) rfl
theorem dX7_init_94 : decode cX7_init 94 = .ok (.aload_n 0, 1) := by decide +kernel
theorem dX7_init_95 : decode cX7_init 95 = .ok (.aload_n 1, 1) := by decide +kernel
theorem dX7_init_96 : decode cX7_init 96 = .ok (.putfield 46, 3) := by decide +kernel
theorem kw_211 : Cond.fieldLink RX7 46 "SportsHouse$Standings" "season" "LSportsHouse$Season;" ∈ lw_g := lw_at 211 (by decide +kernel) rfl
theorem dX7_init_99 : decode cX7_init 99 = .ok (.return_, 1) := by decide +kernel
set_option maxHeartbeats 4000000 in
set_option maxRecDepth 100000 in
theorem ct_X7_init (l : Launch) (dC : Nat → ClassId) (dI : Nat → Nat → Nat) (h0 : Nat) (se : Nat) (sz : Nat)  : Met l yX7_init (.code yX7_init cX7_init 2 none :: lw_g) ({ frames := 1, cells := 11, slots := 492, locals := 60 }) (ro_P dC dI [(h0, .inr (7, [.null, .null, .null, .null, .null, .null, .null, .null, .null, .null, .null, .null, .null, .int 0]))] [] sz [.ref h0, .ref se]) (va_Qv (fun (_ : Unit) => True) (fun _ t => ∃ (q1 : Nat) (q3 : Nat) (q5 : Nat) (q7 : Nat) (q9 : Nat) (q11 : Nat) (q13 : Nat) (q15 : Nat) (q17 : Nat) (q19 : Nat) (q21 : Nat), va_P (dC, dI) vwCl [(h0, .inr (7, [.ref se, .null, .ref q1, .ref q3, .ref q5, .ref q7, .ref q9, .ref q11, .ref q13, .ref q15, .ref q17, .ref q19, .ref q21, .int 0]))] t.heap ∧ va_K (dC, dI) vwCl [] t ∧ va_D (va_A [(h0, .inr (7, [.null, .null, .null, .null, .null, .null, .null, .null, .null, .null, .null, .null, .null, .int 0]))] sz) [(h0, .inr (7, [.ref se, .null, .ref q1, .ref q3, .ref q5, .ref q7, .ref q9, .ref q11, .ref q13, .ref q15, .ref q17, .ref q19, .ref q21, .int 0]))]) (va_A [(h0, .inr (7, [.null, .null, .null, .null, .null, .null, .null, .null, .null, .null, .null, .null, .null, .int 0]))] sz)) 11 492 (va_A [(h0, .inr (7, [.null, .null, .null, .null, .null, .null, .null, .null, .null, .null, .null, .null, .null, .int 0]))] sz) := by
  refine ro_entry (by decide) (Nat.le_of_ble_eq_true rfl) ?_
  intro p e s m below meth c ls hx hb hr hlocks ht hown hin hml hsz hP hK hD hE hl
  subst hsz
  have hD := hD.self (sz := s.heap.size)
  generalize hAe : va_A [(h0, .inr (7, [.null, .null, .null, .null, .null, .null, .null, .null, .null, .null, .null, .null, .null, .int 0]))] s.heap.size = A at hD ⊢
  have hA : ∀ q, s.heap.size ≤ q → A q := fun q h => by rw [← hAe]; exact Or.inr h
  have hS : va_S A s.heap s.heap [] := va_S.rf
  have hl : lv_has ls 2 [(0, .ref h0), (1, .ref se)] := hl
  have hown : s.vm.findClass RX7 = some m.cls := hown
  refine lv_aload_n hx hb dX7_init_0 rfl (lv_at hl 0 rfl) ?_
  refine W.objInit hx hb hown (ht _ kw_210) (ht _ kw_27) (ht _ kw_28) rfl (by rw [hml]; exact hl.1) rfl dX7_init_1 (Nat.le_of_ble_eq_true rfl) (Nat.le_of_ble_eq_true rfl) ?_
  refine W.eq (g2 := F0 m 4 ls []) rfl ?_
  refine lv_aload_n hx hb dX7_init_4 rfl (lv_at hl 0 rfl) ?_
  refine lv_bipush (v := 96) hx hb dX7_init_5 (by decide) ?_
  refine va_newa (atype := .int) (ty := .int) (a0 := (96, .inl (fun _ => 0))) hx hb (ht _ kw_72) rfl hK hP hD hS hA (fun _ => rfl) (by decide) (by decide) (Nat.le_of_ble_eq_true rfl) (Nat.le_of_ble_eq_true rfl) (Nat.le_of_ble_eq_true rfl) dX7_init_7 (fun q1 k2 H hK hP hD hS => ?_)
  have hP : va_P (dC, dI) vwCl [(h0, .inr (7, [.null, .null, .null, .null, .null, .null, .null, .null, .null, .null, .null, .null, .null, .int 0])), (q1, .inl (k2, 96, .inl (fun _ => 0)))] H := hP
  have hD : va_D A [(h0, .inr (7, [.null, .null, .null, .null, .null, .null, .null, .null, .null, .null, .null, .null, .null, .int 0])), (q1, .inl (k2, 96, .inl (fun _ => 0)))] := hD
  have hK : va_K (dC, dI) vwCl [(k2, .int)] s := hK
  refine W.widen (k := 1) (n := 96) (Nat.le_of_ble_eq_true rfl) (Nat.le_of_ble_eq_true rfl) ?_
  refine va_putF (D := (dC, dI)) (ci := 7) (v := .ref q1) (ty := .array .int) (C := RX7) (T := TX7) (N := 14) hx hb ht inX7 tyX7 tyX7_ok nmX7 hown hK hP hD hS 0 rfl rfl 2 (by decide) (ht _ kw_213) (fun _ h9 => h9) rfl hin rfl (by decide +kernel) rfl rfl (Nat.le_of_ble_eq_true rfl) dX7_init_9 (fun H locs hP hD hS => ?_)
  have hP : va_P (dC, dI) vwCl [(h0, .inr (7, [.null, .null, .ref q1, .null, .null, .null, .null, .null, .null, .null, .null, .null, .null, .int 0])), (q1, .inl (k2, 96, .inl (fun _ => 0)))] H := hP
  have hD : va_D A [(h0, .inr (7, [.null, .null, .ref q1, .null, .null, .null, .null, .null, .null, .null, .null, .null, .null, .int 0])), (q1, .inl (k2, 96, .inl (fun _ => 0)))] := hD
  refine lv_aload_n hx hb dX7_init_12 rfl (lv_at hl 0 rfl) ?_
  refine lv_bipush (v := 12) hx hb dX7_init_13 (by decide) ?_
  refine va_newa (atype := .int) (ty := .int) (a0 := (12, .inl (fun _ => 0))) hx hb (ht _ kw_72) rfl hK hP hD hS hA (fun _ => rfl) (by decide) (by decide) (Nat.le_of_ble_eq_true rfl) (Nat.le_of_ble_eq_true rfl) (Nat.le_of_ble_eq_true rfl) dX7_init_15 (fun q3 k4 H hK hP hD hS => ?_)
  have hP : va_P (dC, dI) vwCl [(h0, .inr (7, [.null, .null, .ref q1, .null, .null, .null, .null, .null, .null, .null, .null, .null, .null, .int 0])), (q1, .inl (k2, 96, .inl (fun _ => 0))), (q3, .inl (k4, 12, .inl (fun _ => 0)))] H := hP
  have hD : va_D A [(h0, .inr (7, [.null, .null, .ref q1, .null, .null, .null, .null, .null, .null, .null, .null, .null, .null, .int 0])), (q1, .inl (k2, 96, .inl (fun _ => 0))), (q3, .inl (k4, 12, .inl (fun _ => 0)))] := hD
  have hK : va_K (dC, dI) vwCl [(k2, .int), (k4, .int)] s := hK
  refine W.widen (k := 2) (n := 108) (Nat.le_of_ble_eq_true rfl) (Nat.le_of_ble_eq_true rfl) ?_
  refine va_putF (D := (dC, dI)) (ci := 7) (v := .ref q3) (ty := .array .int) (C := RX7) (T := TX7) (N := 14) hx hb ht inX7 tyX7 tyX7_ok nmX7 hown hK hP hD hS 0 rfl rfl 3 (by decide) (ht _ kw_216) (fun _ h9 => h9) rfl hin rfl (by decide +kernel) rfl rfl (Nat.le_of_ble_eq_true rfl) dX7_init_17 (fun H locs hP hD hS => ?_)
  have hP : va_P (dC, dI) vwCl [(h0, .inr (7, [.null, .null, .ref q1, .ref q3, .null, .null, .null, .null, .null, .null, .null, .null, .null, .int 0])), (q1, .inl (k2, 96, .inl (fun _ => 0))), (q3, .inl (k4, 12, .inl (fun _ => 0)))] H := hP
  have hD : va_D A [(h0, .inr (7, [.null, .null, .ref q1, .ref q3, .null, .null, .null, .null, .null, .null, .null, .null, .null, .int 0])), (q1, .inl (k2, 96, .inl (fun _ => 0))), (q3, .inl (k4, 12, .inl (fun _ => 0)))] := hD
  refine lv_aload_n hx hb dX7_init_20 rfl (lv_at hl 0 rfl) ?_
  refine lv_bipush (v := 12) hx hb dX7_init_21 (by decide) ?_
  refine va_newa (atype := .int) (ty := .int) (a0 := (12, .inl (fun _ => 0))) hx hb (ht _ kw_72) rfl hK hP hD hS hA (fun _ => rfl) (by decide) (by decide) (Nat.le_of_ble_eq_true rfl) (Nat.le_of_ble_eq_true rfl) (Nat.le_of_ble_eq_true rfl) dX7_init_23 (fun q5 k6 H hK hP hD hS => ?_)
  have hP : va_P (dC, dI) vwCl [(h0, .inr (7, [.null, .null, .ref q1, .ref q3, .null, .null, .null, .null, .null, .null, .null, .null, .null, .int 0])), (q1, .inl (k2, 96, .inl (fun _ => 0))), (q3, .inl (k4, 12, .inl (fun _ => 0))), (q5, .inl (k6, 12, .inl (fun _ => 0)))] H := hP
  have hD : va_D A [(h0, .inr (7, [.null, .null, .ref q1, .ref q3, .null, .null, .null, .null, .null, .null, .null, .null, .null, .int 0])), (q1, .inl (k2, 96, .inl (fun _ => 0))), (q3, .inl (k4, 12, .inl (fun _ => 0))), (q5, .inl (k6, 12, .inl (fun _ => 0)))] := hD
  have hK : va_K (dC, dI) vwCl [(k2, .int), (k4, .int), (k6, .int)] s := hK
  refine W.widen (k := 3) (n := 120) (Nat.le_of_ble_eq_true rfl) (Nat.le_of_ble_eq_true rfl) ?_
  refine va_putF (D := (dC, dI)) (ci := 7) (v := .ref q5) (ty := .array .int) (C := RX7) (T := TX7) (N := 14) hx hb ht inX7 tyX7 tyX7_ok nmX7 hown hK hP hD hS 0 rfl rfl 4 (by decide) (ht _ kw_217) (fun _ h9 => h9) rfl hin rfl (by decide +kernel) rfl rfl (Nat.le_of_ble_eq_true rfl) dX7_init_25 (fun H locs hP hD hS => ?_)
  have hP : va_P (dC, dI) vwCl [(h0, .inr (7, [.null, .null, .ref q1, .ref q3, .ref q5, .null, .null, .null, .null, .null, .null, .null, .null, .int 0])), (q1, .inl (k2, 96, .inl (fun _ => 0))), (q3, .inl (k4, 12, .inl (fun _ => 0))), (q5, .inl (k6, 12, .inl (fun _ => 0)))] H := hP
  have hD : va_D A [(h0, .inr (7, [.null, .null, .ref q1, .ref q3, .ref q5, .null, .null, .null, .null, .null, .null, .null, .null, .int 0])), (q1, .inl (k2, 96, .inl (fun _ => 0))), (q3, .inl (k4, 12, .inl (fun _ => 0))), (q5, .inl (k6, 12, .inl (fun _ => 0)))] := hD
  refine lv_aload_n hx hb dX7_init_28 rfl (lv_at hl 0 rfl) ?_
  refine lv_sipush (v := 144) hx hb dX7_init_29 (by decide) ?_
  refine va_newa (atype := .int) (ty := .int) (a0 := (144, .inl (fun _ => 0))) hx hb (ht _ kw_72) rfl hK hP hD hS hA (fun _ => rfl) (by decide) (by decide) (Nat.le_of_ble_eq_true rfl) (Nat.le_of_ble_eq_true rfl) (Nat.le_of_ble_eq_true rfl) dX7_init_32 (fun q7 k8 H hK hP hD hS => ?_)
  have hP : va_P (dC, dI) vwCl [(h0, .inr (7, [.null, .null, .ref q1, .ref q3, .ref q5, .null, .null, .null, .null, .null, .null, .null, .null, .int 0])), (q1, .inl (k2, 96, .inl (fun _ => 0))), (q3, .inl (k4, 12, .inl (fun _ => 0))), (q5, .inl (k6, 12, .inl (fun _ => 0))), (q7, .inl (k8, 144, .inl (fun _ => 0)))] H := hP
  have hD : va_D A [(h0, .inr (7, [.null, .null, .ref q1, .ref q3, .ref q5, .null, .null, .null, .null, .null, .null, .null, .null, .int 0])), (q1, .inl (k2, 96, .inl (fun _ => 0))), (q3, .inl (k4, 12, .inl (fun _ => 0))), (q5, .inl (k6, 12, .inl (fun _ => 0))), (q7, .inl (k8, 144, .inl (fun _ => 0)))] := hD
  have hK : va_K (dC, dI) vwCl [(k2, .int), (k4, .int), (k6, .int), (k8, .int)] s := hK
  refine W.widen (k := 4) (n := 264) (Nat.le_of_ble_eq_true rfl) (Nat.le_of_ble_eq_true rfl) ?_
  refine va_putF (D := (dC, dI)) (ci := 7) (v := .ref q7) (ty := .array .int) (C := RX7) (T := TX7) (N := 14) hx hb ht inX7 tyX7 tyX7_ok nmX7 hown hK hP hD hS 0 rfl rfl 5 (by decide) (ht _ kw_218) (fun _ h9 => h9) rfl hin rfl (by decide +kernel) rfl rfl (Nat.le_of_ble_eq_true rfl) dX7_init_34 (fun H locs hP hD hS => ?_)
  have hP : va_P (dC, dI) vwCl [(h0, .inr (7, [.null, .null, .ref q1, .ref q3, .ref q5, .ref q7, .null, .null, .null, .null, .null, .null, .null, .int 0])), (q1, .inl (k2, 96, .inl (fun _ => 0))), (q3, .inl (k4, 12, .inl (fun _ => 0))), (q5, .inl (k6, 12, .inl (fun _ => 0))), (q7, .inl (k8, 144, .inl (fun _ => 0)))] H := hP
  have hD : va_D A [(h0, .inr (7, [.null, .null, .ref q1, .ref q3, .ref q5, .ref q7, .null, .null, .null, .null, .null, .null, .null, .int 0])), (q1, .inl (k2, 96, .inl (fun _ => 0))), (q3, .inl (k4, 12, .inl (fun _ => 0))), (q5, .inl (k6, 12, .inl (fun _ => 0))), (q7, .inl (k8, 144, .inl (fun _ => 0)))] := hD
  refine lv_aload_n hx hb dX7_init_37 rfl (lv_at hl 0 rfl) ?_
  refine lv_sipush (v := 144) hx hb dX7_init_38 (by decide) ?_
  refine va_newa (atype := .int) (ty := .int) (a0 := (144, .inl (fun _ => 0))) hx hb (ht _ kw_72) rfl hK hP hD hS hA (fun _ => rfl) (by decide) (by decide) (Nat.le_of_ble_eq_true rfl) (Nat.le_of_ble_eq_true rfl) (Nat.le_of_ble_eq_true rfl) dX7_init_41 (fun q9 k10 H hK hP hD hS => ?_)
  have hP : va_P (dC, dI) vwCl [(h0, .inr (7, [.null, .null, .ref q1, .ref q3, .ref q5, .ref q7, .null, .null, .null, .null, .null, .null, .null, .int 0])), (q1, .inl (k2, 96, .inl (fun _ => 0))), (q3, .inl (k4, 12, .inl (fun _ => 0))), (q5, .inl (k6, 12, .inl (fun _ => 0))), (q7, .inl (k8, 144, .inl (fun _ => 0))), (q9, .inl (k10, 144, .inl (fun _ => 0)))] H := hP
  have hD : va_D A [(h0, .inr (7, [.null, .null, .ref q1, .ref q3, .ref q5, .ref q7, .null, .null, .null, .null, .null, .null, .null, .int 0])), (q1, .inl (k2, 96, .inl (fun _ => 0))), (q3, .inl (k4, 12, .inl (fun _ => 0))), (q5, .inl (k6, 12, .inl (fun _ => 0))), (q7, .inl (k8, 144, .inl (fun _ => 0))), (q9, .inl (k10, 144, .inl (fun _ => 0)))] := hD
  have hK : va_K (dC, dI) vwCl [(k2, .int), (k4, .int), (k6, .int), (k8, .int), (k10, .int)] s := hK
  refine W.widen (k := 5) (n := 408) (Nat.le_of_ble_eq_true rfl) (Nat.le_of_ble_eq_true rfl) ?_
  refine va_putF (D := (dC, dI)) (ci := 7) (v := .ref q9) (ty := .array .int) (C := RX7) (T := TX7) (N := 14) hx hb ht inX7 tyX7 tyX7_ok nmX7 hown hK hP hD hS 0 rfl rfl 6 (by decide) (ht _ kw_219) (fun _ h9 => h9) rfl hin rfl (by decide +kernel) rfl rfl (Nat.le_of_ble_eq_true rfl) dX7_init_43 (fun H locs hP hD hS => ?_)
  have hP : va_P (dC, dI) vwCl [(h0, .inr (7, [.null, .null, .ref q1, .ref q3, .ref q5, .ref q7, .ref q9, .null, .null, .null, .null, .null, .null, .int 0])), (q1, .inl (k2, 96, .inl (fun _ => 0))), (q3, .inl (k4, 12, .inl (fun _ => 0))), (q5, .inl (k6, 12, .inl (fun _ => 0))), (q7, .inl (k8, 144, .inl (fun _ => 0))), (q9, .inl (k10, 144, .inl (fun _ => 0)))] H := hP
  have hD : va_D A [(h0, .inr (7, [.null, .null, .ref q1, .ref q3, .ref q5, .ref q7, .ref q9, .null, .null, .null, .null, .null, .null, .int 0])), (q1, .inl (k2, 96, .inl (fun _ => 0))), (q3, .inl (k4, 12, .inl (fun _ => 0))), (q5, .inl (k6, 12, .inl (fun _ => 0))), (q7, .inl (k8, 144, .inl (fun _ => 0))), (q9, .inl (k10, 144, .inl (fun _ => 0)))] := hD
  refine lv_aload_n hx hb dX7_init_46 rfl (lv_at hl 0 rfl) ?_
  refine lv_bipush (v := 12) hx hb dX7_init_47 (by decide) ?_
  refine va_newa (atype := .int) (ty := .int) (a0 := (12, .inl (fun _ => 0))) hx hb (ht _ kw_72) rfl hK hP hD hS hA (fun _ => rfl) (by decide) (by decide) (Nat.le_of_ble_eq_true rfl) (Nat.le_of_ble_eq_true rfl) (Nat.le_of_ble_eq_true rfl) dX7_init_49 (fun q11 k12 H hK hP hD hS => ?_)
  have hP : va_P (dC, dI) vwCl [(h0, .inr (7, [.null, .null, .ref q1, .ref q3, .ref q5, .ref q7, .ref q9, .null, .null, .null, .null, .null, .null, .int 0])), (q1, .inl (k2, 96, .inl (fun _ => 0))), (q3, .inl (k4, 12, .inl (fun _ => 0))), (q5, .inl (k6, 12, .inl (fun _ => 0))), (q7, .inl (k8, 144, .inl (fun _ => 0))), (q9, .inl (k10, 144, .inl (fun _ => 0))), (q11, .inl (k12, 12, .inl (fun _ => 0)))] H := hP
  have hD : va_D A [(h0, .inr (7, [.null, .null, .ref q1, .ref q3, .ref q5, .ref q7, .ref q9, .null, .null, .null, .null, .null, .null, .int 0])), (q1, .inl (k2, 96, .inl (fun _ => 0))), (q3, .inl (k4, 12, .inl (fun _ => 0))), (q5, .inl (k6, 12, .inl (fun _ => 0))), (q7, .inl (k8, 144, .inl (fun _ => 0))), (q9, .inl (k10, 144, .inl (fun _ => 0))), (q11, .inl (k12, 12, .inl (fun _ => 0)))] := hD
  have hK : va_K (dC, dI) vwCl [(k2, .int), (k4, .int), (k6, .int), (k8, .int), (k10, .int), (k12, .int)] s := hK
  refine W.widen (k := 6) (n := 420) (Nat.le_of_ble_eq_true rfl) (Nat.le_of_ble_eq_true rfl) ?_
  refine va_putF (D := (dC, dI)) (ci := 7) (v := .ref q11) (ty := .array .int) (C := RX7) (T := TX7) (N := 14) hx hb ht inX7 tyX7 tyX7_ok nmX7 hown hK hP hD hS 0 rfl rfl 7 (by decide) (ht _ kw_220) (fun _ h9 => h9) rfl hin rfl (by decide +kernel) rfl rfl (Nat.le_of_ble_eq_true rfl) dX7_init_51 (fun H locs hP hD hS => ?_)
  have hP : va_P (dC, dI) vwCl [(h0, .inr (7, [.null, .null, .ref q1, .ref q3, .ref q5, .ref q7, .ref q9, .ref q11, .null, .null, .null, .null, .null, .int 0])), (q1, .inl (k2, 96, .inl (fun _ => 0))), (q3, .inl (k4, 12, .inl (fun _ => 0))), (q5, .inl (k6, 12, .inl (fun _ => 0))), (q7, .inl (k8, 144, .inl (fun _ => 0))), (q9, .inl (k10, 144, .inl (fun _ => 0))), (q11, .inl (k12, 12, .inl (fun _ => 0)))] H := hP
  have hD : va_D A [(h0, .inr (7, [.null, .null, .ref q1, .ref q3, .ref q5, .ref q7, .ref q9, .ref q11, .null, .null, .null, .null, .null, .int 0])), (q1, .inl (k2, 96, .inl (fun _ => 0))), (q3, .inl (k4, 12, .inl (fun _ => 0))), (q5, .inl (k6, 12, .inl (fun _ => 0))), (q7, .inl (k8, 144, .inl (fun _ => 0))), (q9, .inl (k10, 144, .inl (fun _ => 0))), (q11, .inl (k12, 12, .inl (fun _ => 0)))] := hD
  refine lv_aload_n hx hb dX7_init_54 rfl (lv_at hl 0 rfl) ?_
  refine lv_bipush (v := 12) hx hb dX7_init_55 (by decide) ?_
  refine va_newa (atype := .int) (ty := .int) (a0 := (12, .inl (fun _ => 0))) hx hb (ht _ kw_72) rfl hK hP hD hS hA (fun _ => rfl) (by decide) (by decide) (Nat.le_of_ble_eq_true rfl) (Nat.le_of_ble_eq_true rfl) (Nat.le_of_ble_eq_true rfl) dX7_init_57 (fun q13 k14 H hK hP hD hS => ?_)
  have hP : va_P (dC, dI) vwCl [(h0, .inr (7, [.null, .null, .ref q1, .ref q3, .ref q5, .ref q7, .ref q9, .ref q11, .null, .null, .null, .null, .null, .int 0])), (q1, .inl (k2, 96, .inl (fun _ => 0))), (q3, .inl (k4, 12, .inl (fun _ => 0))), (q5, .inl (k6, 12, .inl (fun _ => 0))), (q7, .inl (k8, 144, .inl (fun _ => 0))), (q9, .inl (k10, 144, .inl (fun _ => 0))), (q11, .inl (k12, 12, .inl (fun _ => 0))), (q13, .inl (k14, 12, .inl (fun _ => 0)))] H := hP
  have hD : va_D A [(h0, .inr (7, [.null, .null, .ref q1, .ref q3, .ref q5, .ref q7, .ref q9, .ref q11, .null, .null, .null, .null, .null, .int 0])), (q1, .inl (k2, 96, .inl (fun _ => 0))), (q3, .inl (k4, 12, .inl (fun _ => 0))), (q5, .inl (k6, 12, .inl (fun _ => 0))), (q7, .inl (k8, 144, .inl (fun _ => 0))), (q9, .inl (k10, 144, .inl (fun _ => 0))), (q11, .inl (k12, 12, .inl (fun _ => 0))), (q13, .inl (k14, 12, .inl (fun _ => 0)))] := hD
  have hK : va_K (dC, dI) vwCl [(k2, .int), (k4, .int), (k6, .int), (k8, .int), (k10, .int), (k12, .int), (k14, .int)] s := hK
  refine W.widen (k := 7) (n := 432) (Nat.le_of_ble_eq_true rfl) (Nat.le_of_ble_eq_true rfl) ?_
  refine va_putF (D := (dC, dI)) (ci := 7) (v := .ref q13) (ty := .array .int) (C := RX7) (T := TX7) (N := 14) hx hb ht inX7 tyX7 tyX7_ok nmX7 hown hK hP hD hS 0 rfl rfl 8 (by decide) (ht _ kw_222) (fun _ h9 => h9) rfl hin rfl (by decide +kernel) rfl rfl (Nat.le_of_ble_eq_true rfl) dX7_init_59 (fun H locs hP hD hS => ?_)
  have hP : va_P (dC, dI) vwCl [(h0, .inr (7, [.null, .null, .ref q1, .ref q3, .ref q5, .ref q7, .ref q9, .ref q11, .ref q13, .null, .null, .null, .null, .int 0])), (q1, .inl (k2, 96, .inl (fun _ => 0))), (q3, .inl (k4, 12, .inl (fun _ => 0))), (q5, .inl (k6, 12, .inl (fun _ => 0))), (q7, .inl (k8, 144, .inl (fun _ => 0))), (q9, .inl (k10, 144, .inl (fun _ => 0))), (q11, .inl (k12, 12, .inl (fun _ => 0))), (q13, .inl (k14, 12, .inl (fun _ => 0)))] H := hP
  have hD : va_D A [(h0, .inr (7, [.null, .null, .ref q1, .ref q3, .ref q5, .ref q7, .ref q9, .ref q11, .ref q13, .null, .null, .null, .null, .int 0])), (q1, .inl (k2, 96, .inl (fun _ => 0))), (q3, .inl (k4, 12, .inl (fun _ => 0))), (q5, .inl (k6, 12, .inl (fun _ => 0))), (q7, .inl (k8, 144, .inl (fun _ => 0))), (q9, .inl (k10, 144, .inl (fun _ => 0))), (q11, .inl (k12, 12, .inl (fun _ => 0))), (q13, .inl (k14, 12, .inl (fun _ => 0)))] := hD
  refine lv_aload_n hx hb dX7_init_62 rfl (lv_at hl 0 rfl) ?_
  refine lv_bipush (v := 12) hx hb dX7_init_63 (by decide) ?_
  refine va_newa (atype := .long) (ty := .long) (a0 := (12, .inr (.inl (fun _ => 0)))) hx hb (ht _ kw_258) rfl hK hP hD hS hA (fun _ => rfl) (by decide) (by decide) (Nat.le_of_ble_eq_true rfl) (Nat.le_of_ble_eq_true rfl) (Nat.le_of_ble_eq_true rfl) dX7_init_65 (fun q15 k16 H hK hP hD hS => ?_)
  have hP : va_P (dC, dI) vwCl [(h0, .inr (7, [.null, .null, .ref q1, .ref q3, .ref q5, .ref q7, .ref q9, .ref q11, .ref q13, .null, .null, .null, .null, .int 0])), (q1, .inl (k2, 96, .inl (fun _ => 0))), (q3, .inl (k4, 12, .inl (fun _ => 0))), (q5, .inl (k6, 12, .inl (fun _ => 0))), (q7, .inl (k8, 144, .inl (fun _ => 0))), (q9, .inl (k10, 144, .inl (fun _ => 0))), (q11, .inl (k12, 12, .inl (fun _ => 0))), (q13, .inl (k14, 12, .inl (fun _ => 0))), (q15, .inl (k16, 12, .inr (.inl (fun _ => 0))))] H := hP
  have hD : va_D A [(h0, .inr (7, [.null, .null, .ref q1, .ref q3, .ref q5, .ref q7, .ref q9, .ref q11, .ref q13, .null, .null, .null, .null, .int 0])), (q1, .inl (k2, 96, .inl (fun _ => 0))), (q3, .inl (k4, 12, .inl (fun _ => 0))), (q5, .inl (k6, 12, .inl (fun _ => 0))), (q7, .inl (k8, 144, .inl (fun _ => 0))), (q9, .inl (k10, 144, .inl (fun _ => 0))), (q11, .inl (k12, 12, .inl (fun _ => 0))), (q13, .inl (k14, 12, .inl (fun _ => 0))), (q15, .inl (k16, 12, .inr (.inl (fun _ => 0))))] := hD
  have hK : va_K (dC, dI) vwCl [(k2, .int), (k4, .int), (k6, .int), (k8, .int), (k10, .int), (k12, .int), (k14, .int), (k16, .long)] s := hK
  refine W.widen (k := 8) (n := 444) (Nat.le_of_ble_eq_true rfl) (Nat.le_of_ble_eq_true rfl) ?_
  refine va_putF (D := (dC, dI)) (ci := 7) (v := .ref q15) (ty := .array .long) (C := RX7) (T := TX7) (N := 14) hx hb ht inX7 tyX7 tyX7_ok nmX7 hown hK hP hD hS 0 rfl rfl 9 (by decide) (ht _ kw_224) (fun _ h9 => h9) rfl hin rfl (by decide +kernel) rfl rfl (Nat.le_of_ble_eq_true rfl) dX7_init_67 (fun H locs hP hD hS => ?_)
  have hP : va_P (dC, dI) vwCl [(h0, .inr (7, [.null, .null, .ref q1, .ref q3, .ref q5, .ref q7, .ref q9, .ref q11, .ref q13, .ref q15, .null, .null, .null, .int 0])), (q1, .inl (k2, 96, .inl (fun _ => 0))), (q3, .inl (k4, 12, .inl (fun _ => 0))), (q5, .inl (k6, 12, .inl (fun _ => 0))), (q7, .inl (k8, 144, .inl (fun _ => 0))), (q9, .inl (k10, 144, .inl (fun _ => 0))), (q11, .inl (k12, 12, .inl (fun _ => 0))), (q13, .inl (k14, 12, .inl (fun _ => 0))), (q15, .inl (k16, 12, .inr (.inl (fun _ => 0))))] H := hP
  have hD : va_D A [(h0, .inr (7, [.null, .null, .ref q1, .ref q3, .ref q5, .ref q7, .ref q9, .ref q11, .ref q13, .ref q15, .null, .null, .null, .int 0])), (q1, .inl (k2, 96, .inl (fun _ => 0))), (q3, .inl (k4, 12, .inl (fun _ => 0))), (q5, .inl (k6, 12, .inl (fun _ => 0))), (q7, .inl (k8, 144, .inl (fun _ => 0))), (q9, .inl (k10, 144, .inl (fun _ => 0))), (q11, .inl (k12, 12, .inl (fun _ => 0))), (q13, .inl (k14, 12, .inl (fun _ => 0))), (q15, .inl (k16, 12, .inr (.inl (fun _ => 0))))] := hD
  refine lv_aload_n hx hb dX7_init_70 rfl (lv_at hl 0 rfl) ?_
  refine lv_bipush (v := 16) hx hb dX7_init_71 (by decide) ?_
  refine va_newa (atype := .int) (ty := .int) (a0 := (16, .inl (fun _ => 0))) hx hb (ht _ kw_72) rfl hK hP hD hS hA (fun _ => rfl) (by decide) (by decide) (Nat.le_of_ble_eq_true rfl) (Nat.le_of_ble_eq_true rfl) (Nat.le_of_ble_eq_true rfl) dX7_init_73 (fun q17 k18 H hK hP hD hS => ?_)
  have hP : va_P (dC, dI) vwCl [(h0, .inr (7, [.null, .null, .ref q1, .ref q3, .ref q5, .ref q7, .ref q9, .ref q11, .ref q13, .ref q15, .null, .null, .null, .int 0])), (q1, .inl (k2, 96, .inl (fun _ => 0))), (q3, .inl (k4, 12, .inl (fun _ => 0))), (q5, .inl (k6, 12, .inl (fun _ => 0))), (q7, .inl (k8, 144, .inl (fun _ => 0))), (q9, .inl (k10, 144, .inl (fun _ => 0))), (q11, .inl (k12, 12, .inl (fun _ => 0))), (q13, .inl (k14, 12, .inl (fun _ => 0))), (q15, .inl (k16, 12, .inr (.inl (fun _ => 0)))), (q17, .inl (k18, 16, .inl (fun _ => 0)))] H := hP
  have hD : va_D A [(h0, .inr (7, [.null, .null, .ref q1, .ref q3, .ref q5, .ref q7, .ref q9, .ref q11, .ref q13, .ref q15, .null, .null, .null, .int 0])), (q1, .inl (k2, 96, .inl (fun _ => 0))), (q3, .inl (k4, 12, .inl (fun _ => 0))), (q5, .inl (k6, 12, .inl (fun _ => 0))), (q7, .inl (k8, 144, .inl (fun _ => 0))), (q9, .inl (k10, 144, .inl (fun _ => 0))), (q11, .inl (k12, 12, .inl (fun _ => 0))), (q13, .inl (k14, 12, .inl (fun _ => 0))), (q15, .inl (k16, 12, .inr (.inl (fun _ => 0)))), (q17, .inl (k18, 16, .inl (fun _ => 0)))] := hD
  have hK : va_K (dC, dI) vwCl [(k2, .int), (k4, .int), (k6, .int), (k8, .int), (k10, .int), (k12, .int), (k14, .int), (k16, .long), (k18, .int)] s := hK
  refine W.widen (k := 9) (n := 460) (Nat.le_of_ble_eq_true rfl) (Nat.le_of_ble_eq_true rfl) ?_
  refine va_putF (D := (dC, dI)) (ci := 7) (v := .ref q17) (ty := .array .int) (C := RX7) (T := TX7) (N := 14) hx hb ht inX7 tyX7 tyX7_ok nmX7 hown hK hP hD hS 0 rfl rfl 10 (by decide) (ht _ kw_225) (fun _ h9 => h9) rfl hin rfl (by decide +kernel) rfl rfl (Nat.le_of_ble_eq_true rfl) dX7_init_75 (fun H locs hP hD hS => ?_)
  have hP : va_P (dC, dI) vwCl [(h0, .inr (7, [.null, .null, .ref q1, .ref q3, .ref q5, .ref q7, .ref q9, .ref q11, .ref q13, .ref q15, .ref q17, .null, .null, .int 0])), (q1, .inl (k2, 96, .inl (fun _ => 0))), (q3, .inl (k4, 12, .inl (fun _ => 0))), (q5, .inl (k6, 12, .inl (fun _ => 0))), (q7, .inl (k8, 144, .inl (fun _ => 0))), (q9, .inl (k10, 144, .inl (fun _ => 0))), (q11, .inl (k12, 12, .inl (fun _ => 0))), (q13, .inl (k14, 12, .inl (fun _ => 0))), (q15, .inl (k16, 12, .inr (.inl (fun _ => 0)))), (q17, .inl (k18, 16, .inl (fun _ => 0)))] H := hP
  have hD : va_D A [(h0, .inr (7, [.null, .null, .ref q1, .ref q3, .ref q5, .ref q7, .ref q9, .ref q11, .ref q13, .ref q15, .ref q17, .null, .null, .int 0])), (q1, .inl (k2, 96, .inl (fun _ => 0))), (q3, .inl (k4, 12, .inl (fun _ => 0))), (q5, .inl (k6, 12, .inl (fun _ => 0))), (q7, .inl (k8, 144, .inl (fun _ => 0))), (q9, .inl (k10, 144, .inl (fun _ => 0))), (q11, .inl (k12, 12, .inl (fun _ => 0))), (q13, .inl (k14, 12, .inl (fun _ => 0))), (q15, .inl (k16, 12, .inr (.inl (fun _ => 0)))), (q17, .inl (k18, 16, .inl (fun _ => 0)))] := hD
  refine lv_aload_n hx hb dX7_init_78 rfl (lv_at hl 0 rfl) ?_
  refine lv_bipush (v := 16) hx hb dX7_init_79 (by decide) ?_
  refine va_newa (atype := .int) (ty := .int) (a0 := (16, .inl (fun _ => 0))) hx hb (ht _ kw_72) rfl hK hP hD hS hA (fun _ => rfl) (by decide) (by decide) (Nat.le_of_ble_eq_true rfl) (Nat.le_of_ble_eq_true rfl) (Nat.le_of_ble_eq_true rfl) dX7_init_81 (fun q19 k20 H hK hP hD hS => ?_)
  have hP : va_P (dC, dI) vwCl [(h0, .inr (7, [.null, .null, .ref q1, .ref q3, .ref q5, .ref q7, .ref q9, .ref q11, .ref q13, .ref q15, .ref q17, .null, .null, .int 0])), (q1, .inl (k2, 96, .inl (fun _ => 0))), (q3, .inl (k4, 12, .inl (fun _ => 0))), (q5, .inl (k6, 12, .inl (fun _ => 0))), (q7, .inl (k8, 144, .inl (fun _ => 0))), (q9, .inl (k10, 144, .inl (fun _ => 0))), (q11, .inl (k12, 12, .inl (fun _ => 0))), (q13, .inl (k14, 12, .inl (fun _ => 0))), (q15, .inl (k16, 12, .inr (.inl (fun _ => 0)))), (q17, .inl (k18, 16, .inl (fun _ => 0))), (q19, .inl (k20, 16, .inl (fun _ => 0)))] H := hP
  have hD : va_D A [(h0, .inr (7, [.null, .null, .ref q1, .ref q3, .ref q5, .ref q7, .ref q9, .ref q11, .ref q13, .ref q15, .ref q17, .null, .null, .int 0])), (q1, .inl (k2, 96, .inl (fun _ => 0))), (q3, .inl (k4, 12, .inl (fun _ => 0))), (q5, .inl (k6, 12, .inl (fun _ => 0))), (q7, .inl (k8, 144, .inl (fun _ => 0))), (q9, .inl (k10, 144, .inl (fun _ => 0))), (q11, .inl (k12, 12, .inl (fun _ => 0))), (q13, .inl (k14, 12, .inl (fun _ => 0))), (q15, .inl (k16, 12, .inr (.inl (fun _ => 0)))), (q17, .inl (k18, 16, .inl (fun _ => 0))), (q19, .inl (k20, 16, .inl (fun _ => 0)))] := hD
  have hK : va_K (dC, dI) vwCl [(k2, .int), (k4, .int), (k6, .int), (k8, .int), (k10, .int), (k12, .int), (k14, .int), (k16, .long), (k18, .int), (k20, .int)] s := hK
  refine W.widen (k := 10) (n := 476) (Nat.le_of_ble_eq_true rfl) (Nat.le_of_ble_eq_true rfl) ?_
  refine va_putF (D := (dC, dI)) (ci := 7) (v := .ref q19) (ty := .array .int) (C := RX7) (T := TX7) (N := 14) hx hb ht inX7 tyX7 tyX7_ok nmX7 hown hK hP hD hS 0 rfl rfl 11 (by decide) (ht _ kw_226) (fun _ h9 => h9) rfl hin rfl (by decide +kernel) rfl rfl (Nat.le_of_ble_eq_true rfl) dX7_init_83 (fun H locs hP hD hS => ?_)
  have hP : va_P (dC, dI) vwCl [(h0, .inr (7, [.null, .null, .ref q1, .ref q3, .ref q5, .ref q7, .ref q9, .ref q11, .ref q13, .ref q15, .ref q17, .ref q19, .null, .int 0])), (q1, .inl (k2, 96, .inl (fun _ => 0))), (q3, .inl (k4, 12, .inl (fun _ => 0))), (q5, .inl (k6, 12, .inl (fun _ => 0))), (q7, .inl (k8, 144, .inl (fun _ => 0))), (q9, .inl (k10, 144, .inl (fun _ => 0))), (q11, .inl (k12, 12, .inl (fun _ => 0))), (q13, .inl (k14, 12, .inl (fun _ => 0))), (q15, .inl (k16, 12, .inr (.inl (fun _ => 0)))), (q17, .inl (k18, 16, .inl (fun _ => 0))), (q19, .inl (k20, 16, .inl (fun _ => 0)))] H := hP
  have hD : va_D A [(h0, .inr (7, [.null, .null, .ref q1, .ref q3, .ref q5, .ref q7, .ref q9, .ref q11, .ref q13, .ref q15, .ref q17, .ref q19, .null, .int 0])), (q1, .inl (k2, 96, .inl (fun _ => 0))), (q3, .inl (k4, 12, .inl (fun _ => 0))), (q5, .inl (k6, 12, .inl (fun _ => 0))), (q7, .inl (k8, 144, .inl (fun _ => 0))), (q9, .inl (k10, 144, .inl (fun _ => 0))), (q11, .inl (k12, 12, .inl (fun _ => 0))), (q13, .inl (k14, 12, .inl (fun _ => 0))), (q15, .inl (k16, 12, .inr (.inl (fun _ => 0)))), (q17, .inl (k18, 16, .inl (fun _ => 0))), (q19, .inl (k20, 16, .inl (fun _ => 0)))] := hD
  refine lv_aload_n hx hb dX7_init_86 rfl (lv_at hl 0 rfl) ?_
  refine lv_bipush (v := 16) hx hb dX7_init_87 (by decide) ?_
  refine va_newa (atype := .int) (ty := .int) (a0 := (16, .inl (fun _ => 0))) hx hb (ht _ kw_72) rfl hK hP hD hS hA (fun _ => rfl) (by decide) (by decide) (Nat.le_of_ble_eq_true rfl) (Nat.le_of_ble_eq_true rfl) (Nat.le_of_ble_eq_true rfl) dX7_init_89 (fun q21 k22 H hK hP hD hS => ?_)
  have hP : va_P (dC, dI) vwCl [(h0, .inr (7, [.null, .null, .ref q1, .ref q3, .ref q5, .ref q7, .ref q9, .ref q11, .ref q13, .ref q15, .ref q17, .ref q19, .null, .int 0])), (q1, .inl (k2, 96, .inl (fun _ => 0))), (q3, .inl (k4, 12, .inl (fun _ => 0))), (q5, .inl (k6, 12, .inl (fun _ => 0))), (q7, .inl (k8, 144, .inl (fun _ => 0))), (q9, .inl (k10, 144, .inl (fun _ => 0))), (q11, .inl (k12, 12, .inl (fun _ => 0))), (q13, .inl (k14, 12, .inl (fun _ => 0))), (q15, .inl (k16, 12, .inr (.inl (fun _ => 0)))), (q17, .inl (k18, 16, .inl (fun _ => 0))), (q19, .inl (k20, 16, .inl (fun _ => 0))), (q21, .inl (k22, 16, .inl (fun _ => 0)))] H := hP
  have hD : va_D A [(h0, .inr (7, [.null, .null, .ref q1, .ref q3, .ref q5, .ref q7, .ref q9, .ref q11, .ref q13, .ref q15, .ref q17, .ref q19, .null, .int 0])), (q1, .inl (k2, 96, .inl (fun _ => 0))), (q3, .inl (k4, 12, .inl (fun _ => 0))), (q5, .inl (k6, 12, .inl (fun _ => 0))), (q7, .inl (k8, 144, .inl (fun _ => 0))), (q9, .inl (k10, 144, .inl (fun _ => 0))), (q11, .inl (k12, 12, .inl (fun _ => 0))), (q13, .inl (k14, 12, .inl (fun _ => 0))), (q15, .inl (k16, 12, .inr (.inl (fun _ => 0)))), (q17, .inl (k18, 16, .inl (fun _ => 0))), (q19, .inl (k20, 16, .inl (fun _ => 0))), (q21, .inl (k22, 16, .inl (fun _ => 0)))] := hD
  have hK : va_K (dC, dI) vwCl [(k2, .int), (k4, .int), (k6, .int), (k8, .int), (k10, .int), (k12, .int), (k14, .int), (k16, .long), (k18, .int), (k20, .int), (k22, .int)] s := hK
  refine W.widen (k := 11) (n := 492) (Nat.le_of_ble_eq_true rfl) (Nat.le_of_ble_eq_true rfl) ?_
  refine va_putF (D := (dC, dI)) (ci := 7) (v := .ref q21) (ty := .array .int) (C := RX7) (T := TX7) (N := 14) hx hb ht inX7 tyX7 tyX7_ok nmX7 hown hK hP hD hS 0 rfl rfl 12 (by decide) (ht _ kw_227) (fun _ h9 => h9) rfl hin rfl (by decide +kernel) rfl rfl (Nat.le_of_ble_eq_true rfl) dX7_init_91 (fun H locs hP hD hS => ?_)
  have hP : va_P (dC, dI) vwCl [(h0, .inr (7, [.null, .null, .ref q1, .ref q3, .ref q5, .ref q7, .ref q9, .ref q11, .ref q13, .ref q15, .ref q17, .ref q19, .ref q21, .int 0])), (q1, .inl (k2, 96, .inl (fun _ => 0))), (q3, .inl (k4, 12, .inl (fun _ => 0))), (q5, .inl (k6, 12, .inl (fun _ => 0))), (q7, .inl (k8, 144, .inl (fun _ => 0))), (q9, .inl (k10, 144, .inl (fun _ => 0))), (q11, .inl (k12, 12, .inl (fun _ => 0))), (q13, .inl (k14, 12, .inl (fun _ => 0))), (q15, .inl (k16, 12, .inr (.inl (fun _ => 0)))), (q17, .inl (k18, 16, .inl (fun _ => 0))), (q19, .inl (k20, 16, .inl (fun _ => 0))), (q21, .inl (k22, 16, .inl (fun _ => 0)))] H := hP
  have hD : va_D A [(h0, .inr (7, [.null, .null, .ref q1, .ref q3, .ref q5, .ref q7, .ref q9, .ref q11, .ref q13, .ref q15, .ref q17, .ref q19, .ref q21, .int 0])), (q1, .inl (k2, 96, .inl (fun _ => 0))), (q3, .inl (k4, 12, .inl (fun _ => 0))), (q5, .inl (k6, 12, .inl (fun _ => 0))), (q7, .inl (k8, 144, .inl (fun _ => 0))), (q9, .inl (k10, 144, .inl (fun _ => 0))), (q11, .inl (k12, 12, .inl (fun _ => 0))), (q13, .inl (k14, 12, .inl (fun _ => 0))), (q15, .inl (k16, 12, .inr (.inl (fun _ => 0)))), (q17, .inl (k18, 16, .inl (fun _ => 0))), (q19, .inl (k20, 16, .inl (fun _ => 0))), (q21, .inl (k22, 16, .inl (fun _ => 0)))] := hD
  refine lv_aload_n hx hb dX7_init_94 rfl (lv_at hl 0 rfl) ?_
  refine lv_aload_n hx hb dX7_init_95 rfl (lv_at hl 1 rfl) ?_
  refine va_putF (D := (dC, dI)) (ci := 7) (v := .ref se) (ty := .object "SportsHouse$Season") (C := RX7) (T := TX7) (N := 14) hx hb ht inX7 tyX7 tyX7_ok nmX7 hown hK hP hD hS 0 rfl rfl 0 (by decide) (ht _ kw_211) (fun _ h9 => h9) rfl hin rfl (by decide +kernel) rfl rfl (Nat.le_of_ble_eq_true rfl) dX7_init_96 (fun H locs hP hD hS => ?_)
  have hP : va_P (dC, dI) vwCl [(h0, .inr (7, [.ref se, .null, .ref q1, .ref q3, .ref q5, .ref q7, .ref q9, .ref q11, .ref q13, .ref q15, .ref q17, .ref q19, .ref q21, .int 0])), (q1, .inl (k2, 96, .inl (fun _ => 0))), (q3, .inl (k4, 12, .inl (fun _ => 0))), (q5, .inl (k6, 12, .inl (fun _ => 0))), (q7, .inl (k8, 144, .inl (fun _ => 0))), (q9, .inl (k10, 144, .inl (fun _ => 0))), (q11, .inl (k12, 12, .inl (fun _ => 0))), (q13, .inl (k14, 12, .inl (fun _ => 0))), (q15, .inl (k16, 12, .inr (.inl (fun _ => 0)))), (q17, .inl (k18, 16, .inl (fun _ => 0))), (q19, .inl (k20, 16, .inl (fun _ => 0))), (q21, .inl (k22, 16, .inl (fun _ => 0)))] H := hP
  have hD : va_D A [(h0, .inr (7, [.ref se, .null, .ref q1, .ref q3, .ref q5, .ref q7, .ref q9, .ref q11, .ref q13, .ref q15, .ref q17, .ref q19, .ref q21, .int 0])), (q1, .inl (k2, 96, .inl (fun _ => 0))), (q3, .inl (k4, 12, .inl (fun _ => 0))), (q5, .inl (k6, 12, .inl (fun _ => 0))), (q7, .inl (k8, 144, .inl (fun _ => 0))), (q9, .inl (k10, 144, .inl (fun _ => 0))), (q11, .inl (k12, 12, .inl (fun _ => 0))), (q13, .inl (k14, 12, .inl (fun _ => 0))), (q15, .inl (k16, 12, .inr (.inl (fun _ => 0)))), (q17, .inl (k18, 16, .inl (fun _ => 0))), (q19, .inl (k20, 16, .inl (fun _ => 0))), (q21, .inl (k22, 16, .inl (fun _ => 0)))] := hD
  have hP := hP.sub (ws' := [(h0, .inr (7, [.ref se, .null, .ref q1, .ref q3, .ref q5, .ref q7, .ref q9, .ref q11, .ref q13, .ref q15, .ref q17, .ref q19, .ref q21, .int 0]))]) [0] rfl
  have hD := hD.sub (ws' := [(h0, .inr (7, [.ref se, .null, .ref q1, .ref q3, .ref q5, .ref q7, .ref q9, .ref q11, .ref q13, .ref q15, .ref q17, .ref q19, .ref q21, .int 0]))]) [0] (by decide) rfl
  have hK := hK.sub (tys' := []) [] rfl
  exact W.vret hx hb hr (fun t ht9 hW => ⟨⟨(), rfl, trivial, q1, q3, q5, q7, q9, q11, q13, q15, q17, q19, q21, by rw [ht9]; exact hP, va_K.moved hW.alike hK, hD⟩, hS.F ht9⟩) hS.2.2 dX7_init_99
abbrev cX9_init : ByteArray := prog_11_method_1_code
def yX9_init : MethodName := ⟨RX9, "<init>", "(LSportsHouse$Season;LSportsHouse$Standings;)V"⟩
theorem dX9_init_0 : decode cX9_init 0 = .ok (.aload_n 0, 1) := by decide +kernel
theorem dX9_init_1 : decode cX9_init 1 = .ok (.invokespecial 3, 3) := by decide +kernel
theorem kw_264 : Cond.methodLink RX9 3 objectInit ∈ lw_g := lw_at 264 (by decide +kernel) rfl
theorem dX9_init_4 : decode cX9_init 4 = .ok (.aload_n 0, 1) := by decide +kernel
theorem dX9_init_5 : decode cX9_init 5 = .ok (.iconst (-1), 1) := by decide +kernel
theorem dX9_init_6 : decode cX9_init 6 = .ok (.putfield 9, 3) := by decide +kernel
theorem kw_270 : Cond.fieldLink RX9 9 "SportsHouse$Title" "answer" "I" ∈ lw_g := lw_at 270 (by decide +kernel) rfl
theorem dX9_init_9 : decode cX9_init 9 = .ok (.aload_n 0, 1) := by decide +kernel
theorem dX9_init_10 : decode cX9_init 10 = .ok (.sipush 400, 3) := by decide +kernel
theorem dX9_init_13 : decode cX9_init 13 = .ok (.newarray .int, 2) := by decide +kernel
theorem dX9_init_15 : decode cX9_init 15 = .ok (.putfield 15, 3) := by decide +kernel
theorem kw_274 : Cond.fieldLink RX9 15 "SportsHouse$Title" "results" "[I" ∈ lw_g := lw_at 274 (by decide +kernel) rfl
theorem dX9_init_18 : decode cX9_init 18 = .ok (.aload_n 0, 1) := by decide +kernel
theorem dX9_init_19 : decode cX9_init 19 = .ok (.bipush 12, 2) := by decide +kernel
theorem dX9_init_21 : decode cX9_init 21 = .ok (.newarray .int, 2) := by decide +kernel
theorem dX9_init_23 : decode cX9_init 23 = .ok (.putfield 19, 3) := by decide +kernel
theorem kw_278 : Cond.fieldLink RX9 19 "SportsHouse$Title" "points" "[I" ∈ lw_g := lw_at 278 (by decide +kernel) rfl
theorem dX9_init_26 : decode cX9_init 26 = .ok (.aload_n 0, 1) := by decide +kernel
theorem dX9_init_27 : decode cX9_init 27 = .ok (.bipush 40, 2) := by decide +kernel
theorem dX9_init_29 : decode cX9_init 29 = .ok (.newarray .int, 2) := by decide +kernel
theorem dX9_init_31 : decode cX9_init 31 = .ok (.putfield 22, 3) := by decide +kernel
theorem kw_279 : Cond.fieldLink RX9 22 "SportsHouse$Title" "open" "[I" ∈ lw_g := lw_at 279 (by decide +kernel) rfl
theorem dX9_init_34 : decode cX9_init 34 = .ok (.aload_n 0, 1) := by decide +kernel
theorem dX9_init_35 : decode cX9_init 35 = .ok (.bipush 40, 2) := by decide +kernel
theorem dX9_init_37 : decode cX9_init 37 = .ok (.newarray .int, 2) := by decide +kernel
theorem dX9_init_39 : decode cX9_init 39 = .ok (.putfield 25, 3) := by decide +kernel
theorem kw_281 : Cond.fieldLink RX9 25 "SportsHouse$Title" "homeParts" "[I" ∈ lw_g := lw_at 281 (by decide +kernel) rfl
theorem dX9_init_42 : decode cX9_init 42 = .ok (.aload_n 0, 1) := by decide +kernel
theorem dX9_init_43 : decode cX9_init 43 = .ok (.bipush 12, 2) := by decide +kernel
theorem dX9_init_45 : decode cX9_init 45 = .ok (.newarray .int, 2) := by decide +kernel
theorem dX9_init_47 : decode cX9_init 47 = .ok (.putfield 28, 3) := by decide +kernel
theorem kw_282 : Cond.fieldLink RX9 28 "SportsHouse$Title" "cap" "[I" ∈ lw_g := lw_at 282 (by decide +kernel) rfl
theorem dX9_init_50 : decode cX9_init 50 = .ok (.aload_n 0, 1) := by decide +kernel
theorem dX9_init_51 : decode cX9_init 51 = .ok (.bipush 12, 2) := by decide +kernel
theorem dX9_init_53 : decode cX9_init 53 = .ok (.newarray .int, 2) := by decide +kernel
theorem dX9_init_55 : decode cX9_init 55 = .ok (.putfield 31, 3) := by decide +kernel
theorem kw_283 : Cond.fieldLink RX9 31 "SportsHouse$Title" "load" "[I" ∈ lw_g := lw_at 283 (by decide +kernel) rfl
theorem dX9_init_58 : decode cX9_init 58 = .ok (.aload_n 0, 1) := by decide +kernel
theorem dX9_init_59 : decode cX9_init 59 = .ok (.bipush 12, 2) := by decide +kernel
theorem dX9_init_61 : decode cX9_init 61 = .ok (.newarray .int, 2) := by decide +kernel
theorem dX9_init_63 : decode cX9_init 63 = .ok (.putfield 34, 3) := by decide +kernel
theorem kw_284 : Cond.fieldLink RX9 34 "SportsHouse$Title" "via" "[I" ∈ lw_g := lw_at 284 (by decide +kernel) rfl
theorem dX9_init_66 : decode cX9_init 66 = .ok (.aload_n 0, 1) := by decide +kernel
theorem dX9_init_67 : decode cX9_init 67 = .ok (.bipush 12, 2) := by decide +kernel
theorem dX9_init_69 : decode cX9_init 69 = .ok (.newarray .int, 2) := by decide +kernel
theorem dX9_init_71 : decode cX9_init 71 = .ok (.putfield 37, 3) := by decide +kernel
theorem kw_285 : Cond.fieldLink RX9 37 "SportsHouse$Title" "queue" "[I" ∈ lw_g := lw_at 285 (by decide +kernel) rfl
theorem dX9_init_74 : decode cX9_init 74 = .ok (.aload_n 0, 1) := by decide +kernel
theorem dX9_init_75 : decode cX9_init 75 = .ok (.aload_n 1, 1) := by decide +kernel
theorem dX9_init_76 : decode cX9_init 76 = .ok (.putfield 40, 3) := by decide +kernel
theorem kw_268 : Cond.fieldLink RX9 40 "SportsHouse$Title" "season" "LSportsHouse$Season;" ∈ lw_g := lw_at 268 (by decide +kernel) rfl
theorem dX9_init_79 : decode cX9_init 79 = .ok (.aload_n 0, 1) := by decide +kernel
theorem dX9_init_80 : decode cX9_init 80 = .ok (.aload_n 2, 1) := by decide +kernel
theorem dX9_init_81 : decode cX9_init 81 = .ok (.putfield 44, 3) := by decide +kernel
theorem kw_269 : Cond.fieldLink RX9 44 "SportsHouse$Title" "standings" "LSportsHouse$Standings;" ∈ lw_g := lw_at 269 (by decide +kernel) rfl
theorem dX9_init_84 : decode cX9_init 84 = .ok (.aload_n 0, 1) := by decide +kernel
theorem dX9_init_85 : decode cX9_init 85 = .ok (.getfield 15, 3) := by decide +kernel
theorem dX9_init_88 : decode cX9_init 88 = .ok (.iconst (-1), 1) := by decide +kernel
theorem dX9_init_89 : decode cX9_init 89 = .ok (.invokestatic 48, 3) := by decide +kernel
theorem kw_265 : Cond.methodLink RX9 48 yJ7_fill_53178 ∈ lw_g := lw_at 265 (by decide +kernel) rfl
theorem kw_266 : Cond.static yJ7_fill_53178 ∈ lw_g := lw_at 266 (by decide +kernel) rfl
theorem kw_7 : Cond.initialized RJ7 ∈ lw_g := lw_at 7 (by decide +kernel) rfl
theorem gv_X9_48 : GoodIn lw_g (va_wsS RX9 48 yJ7_fill_53178 (.code yJ7_fill_53178 cJ7_fill_53178 4 none :: lw_g)) := gi_S kw_265 kw_266 kw_7 kw_267
theorem dX9_init_92 : decode cX9_init 92 = .ok (.return_, 1) := by decide +kernel
set_option maxHeartbeats 4000000 in
set_option maxRecDepth 100000 in
theorem ct_X9_init (l : Launch) (dC : Nat → ClassId) (dI : Nat → Nat → Nat) (h0 : Nat) (se : Nat) (sd : Nat) (sz : Nat)  : Met l yX9_init (.code yX9_init cX9_init 3 none :: lw_g) ({ frames := 1, cells := 8, slots := 540, locals := 60 }) (ro_P dC dI [(h0, .inr (9, [.null, .null, .int 0, .int 0, .null, .null, .int 0, .null, .null, .int 0, .null, .null, .null, .null, .null, .null]))] [] sz [.ref h0, .ref se, .ref sd]) (va_Qv (fun (_ : Unit) => True) (fun _ t => ∃ (q1 : Nat) (q3 : Nat) (q5 : Nat) (q7 : Nat) (q9 : Nat) (q11 : Nat) (q13 : Nat) (q15 : Nat), va_P (dC, dI) vwCl [(h0, .inr (9, [.ref se, .ref sd, .int (-1), .int 0, .ref q1, .null, .int 0, .ref q3, .ref q5, .int 0, .ref q7, .ref q9, .ref q11, .ref q13, .ref q15, .null]))] t.heap ∧ va_K (dC, dI) vwCl [] t ∧ va_D (va_A [(h0, .inr (9, [.null, .null, .int 0, .int 0, .null, .null, .int 0, .null, .null, .int 0, .null, .null, .null, .null, .null, .null]))] sz) [(h0, .inr (9, [.ref se, .ref sd, .int (-1), .int 0, .ref q1, .null, .int 0, .ref q3, .ref q5, .int 0, .ref q7, .ref q9, .ref q11, .ref q13, .ref q15, .null]))]) (va_A [(h0, .inr (9, [.null, .null, .int 0, .int 0, .null, .null, .int 0, .null, .null, .int 0, .null, .null, .null, .null, .null, .null]))] sz)) 8 540 (va_A [(h0, .inr (9, [.null, .null, .int 0, .int 0, .null, .null, .int 0, .null, .null, .int 0, .null, .null, .null, .null, .null, .null]))] sz) := by
  refine ro_entry (by decide) (Nat.le_of_ble_eq_true rfl) ?_
  intro p e s m below meth c ls hx hb hr hlocks ht hown hin hml hsz hP hK hD hE hl
  subst hsz
  have hD := hD.self (sz := s.heap.size)
  generalize hAe : va_A [(h0, .inr (9, [.null, .null, .int 0, .int 0, .null, .null, .int 0, .null, .null, .int 0, .null, .null, .null, .null, .null, .null]))] s.heap.size = A at hD ⊢
  have hA : ∀ q, s.heap.size ≤ q → A q := fun q h => by rw [← hAe]; exact Or.inr h
  have hS : va_S A s.heap s.heap [] := va_S.rf
  have hl : lv_has ls 3 [(0, .ref h0), (1, .ref se), (2, .ref sd)] := hl
  have hown : s.vm.findClass RX9 = some m.cls := hown
  refine lv_aload_n hx hb dX9_init_0 rfl (lv_at hl 0 rfl) ?_
  refine W.objInit hx hb hown (ht _ kw_264) (ht _ kw_27) (ht _ kw_28) rfl (by rw [hml]; exact hl.1) rfl dX9_init_1 (Nat.le_of_ble_eq_true rfl) (Nat.le_of_ble_eq_true rfl) ?_
  refine W.eq (g2 := F0 m 4 ls []) rfl ?_
  refine lv_aload_n hx hb dX9_init_4 rfl (lv_at hl 0 rfl) ?_
  refine lv_iconst (v := (-1)) hx hb dX9_init_5 (by decide) ?_
  refine va_put (D := (dC, dI)) (ci := 9) (v := .int (-1)) (ty := .int) (C := RX9) (T := TX9) (N := 16) hx hb ht inX9 tyX9 tyX9_ok nmX9 hown hK hP hD hS 0 rfl rfl 2 (by decide) (ht _ kw_270) (fun _ h9 => h9) rfl (by decide +kernel) rfl rfl (Nat.le_of_ble_eq_true rfl) dX9_init_6 (fun H locs hP hD hS => ?_)
  have hP : va_P (dC, dI) vwCl [(h0, .inr (9, [.null, .null, .int (-1), .int 0, .null, .null, .int 0, .null, .null, .int 0, .null, .null, .null, .null, .null, .null]))] H := hP
  have hD : va_D A [(h0, .inr (9, [.null, .null, .int (-1), .int 0, .null, .null, .int 0, .null, .null, .int 0, .null, .null, .null, .null, .null, .null]))] := hD
  refine lv_aload_n hx hb dX9_init_9 rfl (lv_at hl 0 rfl) ?_
  refine lv_sipush (v := 400) hx hb dX9_init_10 (by decide) ?_
  refine va_newa (atype := .int) (ty := .int) (a0 := (400, .inl (fun _ => 0))) hx hb (ht _ kw_72) rfl hK hP hD hS hA (fun _ => rfl) (by decide) (by decide) (Nat.le_of_ble_eq_true rfl) (Nat.le_of_ble_eq_true rfl) (Nat.le_of_ble_eq_true rfl) dX9_init_13 (fun q1 k2 H hK hP hD hS => ?_)
  have hP : va_P (dC, dI) vwCl [(h0, .inr (9, [.null, .null, .int (-1), .int 0, .null, .null, .int 0, .null, .null, .int 0, .null, .null, .null, .null, .null, .null])), (q1, .inl (k2, 400, .inl (fun _ => 0)))] H := hP
  have hD : va_D A [(h0, .inr (9, [.null, .null, .int (-1), .int 0, .null, .null, .int 0, .null, .null, .int 0, .null, .null, .null, .null, .null, .null])), (q1, .inl (k2, 400, .inl (fun _ => 0)))] := hD
  have hK : va_K (dC, dI) vwCl [(k2, .int)] s := hK
  refine W.widen (k := 1) (n := 400) (Nat.le_of_ble_eq_true rfl) (Nat.le_of_ble_eq_true rfl) ?_
  refine va_putF (D := (dC, dI)) (ci := 9) (v := .ref q1) (ty := .array .int) (C := RX9) (T := TX9) (N := 16) hx hb ht inX9 tyX9 tyX9_ok nmX9 hown hK hP hD hS 0 rfl rfl 4 (by decide) (ht _ kw_274) (fun _ h9 => h9) rfl hin rfl (by decide +kernel) rfl rfl (Nat.le_of_ble_eq_true rfl) dX9_init_15 (fun H locs hP hD hS => ?_)
  have hP : va_P (dC, dI) vwCl [(h0, .inr (9, [.null, .null, .int (-1), .int 0, .ref q1, .null, .int 0, .null, .null, .int 0, .null, .null, .null, .null, .null, .null])), (q1, .inl (k2, 400, .inl (fun _ => 0)))] H := hP
  have hD : va_D A [(h0, .inr (9, [.null, .null, .int (-1), .int 0, .ref q1, .null, .int 0, .null, .null, .int 0, .null, .null, .null, .null, .null, .null])), (q1, .inl (k2, 400, .inl (fun _ => 0)))] := hD
  refine lv_aload_n hx hb dX9_init_18 rfl (lv_at hl 0 rfl) ?_
  refine lv_bipush (v := 12) hx hb dX9_init_19 (by decide) ?_
  refine va_newa (atype := .int) (ty := .int) (a0 := (12, .inl (fun _ => 0))) hx hb (ht _ kw_72) rfl hK hP hD hS hA (fun _ => rfl) (by decide) (by decide) (Nat.le_of_ble_eq_true rfl) (Nat.le_of_ble_eq_true rfl) (Nat.le_of_ble_eq_true rfl) dX9_init_21 (fun q3 k4 H hK hP hD hS => ?_)
  have hP : va_P (dC, dI) vwCl [(h0, .inr (9, [.null, .null, .int (-1), .int 0, .ref q1, .null, .int 0, .null, .null, .int 0, .null, .null, .null, .null, .null, .null])), (q1, .inl (k2, 400, .inl (fun _ => 0))), (q3, .inl (k4, 12, .inl (fun _ => 0)))] H := hP
  have hD : va_D A [(h0, .inr (9, [.null, .null, .int (-1), .int 0, .ref q1, .null, .int 0, .null, .null, .int 0, .null, .null, .null, .null, .null, .null])), (q1, .inl (k2, 400, .inl (fun _ => 0))), (q3, .inl (k4, 12, .inl (fun _ => 0)))] := hD
  have hK : va_K (dC, dI) vwCl [(k2, .int), (k4, .int)] s := hK
  refine W.widen (k := 2) (n := 412) (Nat.le_of_ble_eq_true rfl) (Nat.le_of_ble_eq_true rfl) ?_
  refine va_putF (D := (dC, dI)) (ci := 9) (v := .ref q3) (ty := .array .int) (C := RX9) (T := TX9) (N := 16) hx hb ht inX9 tyX9 tyX9_ok nmX9 hown hK hP hD hS 0 rfl rfl 7 (by decide) (ht _ kw_278) (fun _ h9 => h9) rfl hin rfl (by decide +kernel) rfl rfl (Nat.le_of_ble_eq_true rfl) dX9_init_23 (fun H locs hP hD hS => ?_)
  have hP : va_P (dC, dI) vwCl [(h0, .inr (9, [.null, .null, .int (-1), .int 0, .ref q1, .null, .int 0, .ref q3, .null, .int 0, .null, .null, .null, .null, .null, .null])), (q1, .inl (k2, 400, .inl (fun _ => 0))), (q3, .inl (k4, 12, .inl (fun _ => 0)))] H := hP
  have hD : va_D A [(h0, .inr (9, [.null, .null, .int (-1), .int 0, .ref q1, .null, .int 0, .ref q3, .null, .int 0, .null, .null, .null, .null, .null, .null])), (q1, .inl (k2, 400, .inl (fun _ => 0))), (q3, .inl (k4, 12, .inl (fun _ => 0)))] := hD
  refine lv_aload_n hx hb dX9_init_26 rfl (lv_at hl 0 rfl) ?_
  refine lv_bipush (v := 40) hx hb dX9_init_27 (by decide) ?_
  refine va_newa (atype := .int) (ty := .int) (a0 := (40, .inl (fun _ => 0))) hx hb (ht _ kw_72) rfl hK hP hD hS hA (fun _ => rfl) (by decide) (by decide) (Nat.le_of_ble_eq_true rfl) (Nat.le_of_ble_eq_true rfl) (Nat.le_of_ble_eq_true rfl) dX9_init_29 (fun q5 k6 H hK hP hD hS => ?_)
  have hP : va_P (dC, dI) vwCl [(h0, .inr (9, [.null, .null, .int (-1), .int 0, .ref q1, .null, .int 0, .ref q3, .null, .int 0, .null, .null, .null, .null, .null, .null])), (q1, .inl (k2, 400, .inl (fun _ => 0))), (q3, .inl (k4, 12, .inl (fun _ => 0))), (q5, .inl (k6, 40, .inl (fun _ => 0)))] H := hP
  have hD : va_D A [(h0, .inr (9, [.null, .null, .int (-1), .int 0, .ref q1, .null, .int 0, .ref q3, .null, .int 0, .null, .null, .null, .null, .null, .null])), (q1, .inl (k2, 400, .inl (fun _ => 0))), (q3, .inl (k4, 12, .inl (fun _ => 0))), (q5, .inl (k6, 40, .inl (fun _ => 0)))] := hD
  have hK : va_K (dC, dI) vwCl [(k2, .int), (k4, .int), (k6, .int)] s := hK
  refine W.widen (k := 3) (n := 452) (Nat.le_of_ble_eq_true rfl) (Nat.le_of_ble_eq_true rfl) ?_
  refine va_putF (D := (dC, dI)) (ci := 9) (v := .ref q5) (ty := .array .int) (C := RX9) (T := TX9) (N := 16) hx hb ht inX9 tyX9 tyX9_ok nmX9 hown hK hP hD hS 0 rfl rfl 8 (by decide) (ht _ kw_279) (fun _ h9 => h9) rfl hin rfl (by decide +kernel) rfl rfl (Nat.le_of_ble_eq_true rfl) dX9_init_31 (fun H locs hP hD hS => ?_)
  have hP : va_P (dC, dI) vwCl [(h0, .inr (9, [.null, .null, .int (-1), .int 0, .ref q1, .null, .int 0, .ref q3, .ref q5, .int 0, .null, .null, .null, .null, .null, .null])), (q1, .inl (k2, 400, .inl (fun _ => 0))), (q3, .inl (k4, 12, .inl (fun _ => 0))), (q5, .inl (k6, 40, .inl (fun _ => 0)))] H := hP
  have hD : va_D A [(h0, .inr (9, [.null, .null, .int (-1), .int 0, .ref q1, .null, .int 0, .ref q3, .ref q5, .int 0, .null, .null, .null, .null, .null, .null])), (q1, .inl (k2, 400, .inl (fun _ => 0))), (q3, .inl (k4, 12, .inl (fun _ => 0))), (q5, .inl (k6, 40, .inl (fun _ => 0)))] := hD
  refine lv_aload_n hx hb dX9_init_34 rfl (lv_at hl 0 rfl) ?_
  refine lv_bipush (v := 40) hx hb dX9_init_35 (by decide) ?_
  refine va_newa (atype := .int) (ty := .int) (a0 := (40, .inl (fun _ => 0))) hx hb (ht _ kw_72) rfl hK hP hD hS hA (fun _ => rfl) (by decide) (by decide) (Nat.le_of_ble_eq_true rfl) (Nat.le_of_ble_eq_true rfl) (Nat.le_of_ble_eq_true rfl) dX9_init_37 (fun q7 k8 H hK hP hD hS => ?_)
  have hP : va_P (dC, dI) vwCl [(h0, .inr (9, [.null, .null, .int (-1), .int 0, .ref q1, .null, .int 0, .ref q3, .ref q5, .int 0, .null, .null, .null, .null, .null, .null])), (q1, .inl (k2, 400, .inl (fun _ => 0))), (q3, .inl (k4, 12, .inl (fun _ => 0))), (q5, .inl (k6, 40, .inl (fun _ => 0))), (q7, .inl (k8, 40, .inl (fun _ => 0)))] H := hP
  have hD : va_D A [(h0, .inr (9, [.null, .null, .int (-1), .int 0, .ref q1, .null, .int 0, .ref q3, .ref q5, .int 0, .null, .null, .null, .null, .null, .null])), (q1, .inl (k2, 400, .inl (fun _ => 0))), (q3, .inl (k4, 12, .inl (fun _ => 0))), (q5, .inl (k6, 40, .inl (fun _ => 0))), (q7, .inl (k8, 40, .inl (fun _ => 0)))] := hD
  have hK : va_K (dC, dI) vwCl [(k2, .int), (k4, .int), (k6, .int), (k8, .int)] s := hK
  refine W.widen (k := 4) (n := 492) (Nat.le_of_ble_eq_true rfl) (Nat.le_of_ble_eq_true rfl) ?_
  refine va_putF (D := (dC, dI)) (ci := 9) (v := .ref q7) (ty := .array .int) (C := RX9) (T := TX9) (N := 16) hx hb ht inX9 tyX9 tyX9_ok nmX9 hown hK hP hD hS 0 rfl rfl 10 (by decide) (ht _ kw_281) (fun _ h9 => h9) rfl hin rfl (by decide +kernel) rfl rfl (Nat.le_of_ble_eq_true rfl) dX9_init_39 (fun H locs hP hD hS => ?_)
  have hP : va_P (dC, dI) vwCl [(h0, .inr (9, [.null, .null, .int (-1), .int 0, .ref q1, .null, .int 0, .ref q3, .ref q5, .int 0, .ref q7, .null, .null, .null, .null, .null])), (q1, .inl (k2, 400, .inl (fun _ => 0))), (q3, .inl (k4, 12, .inl (fun _ => 0))), (q5, .inl (k6, 40, .inl (fun _ => 0))), (q7, .inl (k8, 40, .inl (fun _ => 0)))] H := hP
  have hD : va_D A [(h0, .inr (9, [.null, .null, .int (-1), .int 0, .ref q1, .null, .int 0, .ref q3, .ref q5, .int 0, .ref q7, .null, .null, .null, .null, .null])), (q1, .inl (k2, 400, .inl (fun _ => 0))), (q3, .inl (k4, 12, .inl (fun _ => 0))), (q5, .inl (k6, 40, .inl (fun _ => 0))), (q7, .inl (k8, 40, .inl (fun _ => 0)))] := hD
  refine lv_aload_n hx hb dX9_init_42 rfl (lv_at hl 0 rfl) ?_
  refine lv_bipush (v := 12) hx hb dX9_init_43 (by decide) ?_
  refine va_newa (atype := .int) (ty := .int) (a0 := (12, .inl (fun _ => 0))) hx hb (ht _ kw_72) rfl hK hP hD hS hA (fun _ => rfl) (by decide) (by decide) (Nat.le_of_ble_eq_true rfl) (Nat.le_of_ble_eq_true rfl) (Nat.le_of_ble_eq_true rfl) dX9_init_45 (fun q9 k10 H hK hP hD hS => ?_)
  have hP : va_P (dC, dI) vwCl [(h0, .inr (9, [.null, .null, .int (-1), .int 0, .ref q1, .null, .int 0, .ref q3, .ref q5, .int 0, .ref q7, .null, .null, .null, .null, .null])), (q1, .inl (k2, 400, .inl (fun _ => 0))), (q3, .inl (k4, 12, .inl (fun _ => 0))), (q5, .inl (k6, 40, .inl (fun _ => 0))), (q7, .inl (k8, 40, .inl (fun _ => 0))), (q9, .inl (k10, 12, .inl (fun _ => 0)))] H := hP
  have hD : va_D A [(h0, .inr (9, [.null, .null, .int (-1), .int 0, .ref q1, .null, .int 0, .ref q3, .ref q5, .int 0, .ref q7, .null, .null, .null, .null, .null])), (q1, .inl (k2, 400, .inl (fun _ => 0))), (q3, .inl (k4, 12, .inl (fun _ => 0))), (q5, .inl (k6, 40, .inl (fun _ => 0))), (q7, .inl (k8, 40, .inl (fun _ => 0))), (q9, .inl (k10, 12, .inl (fun _ => 0)))] := hD
  have hK : va_K (dC, dI) vwCl [(k2, .int), (k4, .int), (k6, .int), (k8, .int), (k10, .int)] s := hK
  refine W.widen (k := 5) (n := 504) (Nat.le_of_ble_eq_true rfl) (Nat.le_of_ble_eq_true rfl) ?_
  refine va_putF (D := (dC, dI)) (ci := 9) (v := .ref q9) (ty := .array .int) (C := RX9) (T := TX9) (N := 16) hx hb ht inX9 tyX9 tyX9_ok nmX9 hown hK hP hD hS 0 rfl rfl 11 (by decide) (ht _ kw_282) (fun _ h9 => h9) rfl hin rfl (by decide +kernel) rfl rfl (Nat.le_of_ble_eq_true rfl) dX9_init_47 (fun H locs hP hD hS => ?_)
  have hP : va_P (dC, dI) vwCl [(h0, .inr (9, [.null, .null, .int (-1), .int 0, .ref q1, .null, .int 0, .ref q3, .ref q5, .int 0, .ref q7, .ref q9, .null, .null, .null, .null])), (q1, .inl (k2, 400, .inl (fun _ => 0))), (q3, .inl (k4, 12, .inl (fun _ => 0))), (q5, .inl (k6, 40, .inl (fun _ => 0))), (q7, .inl (k8, 40, .inl (fun _ => 0))), (q9, .inl (k10, 12, .inl (fun _ => 0)))] H := hP
  have hD : va_D A [(h0, .inr (9, [.null, .null, .int (-1), .int 0, .ref q1, .null, .int 0, .ref q3, .ref q5, .int 0, .ref q7, .ref q9, .null, .null, .null, .null])), (q1, .inl (k2, 400, .inl (fun _ => 0))), (q3, .inl (k4, 12, .inl (fun _ => 0))), (q5, .inl (k6, 40, .inl (fun _ => 0))), (q7, .inl (k8, 40, .inl (fun _ => 0))), (q9, .inl (k10, 12, .inl (fun _ => 0)))] := hD
  refine lv_aload_n hx hb dX9_init_50 rfl (lv_at hl 0 rfl) ?_
  refine lv_bipush (v := 12) hx hb dX9_init_51 (by decide) ?_
  refine va_newa (atype := .int) (ty := .int) (a0 := (12, .inl (fun _ => 0))) hx hb (ht _ kw_72) rfl hK hP hD hS hA (fun _ => rfl) (by decide) (by decide) (Nat.le_of_ble_eq_true rfl) (Nat.le_of_ble_eq_true rfl) (Nat.le_of_ble_eq_true rfl) dX9_init_53 (fun q11 k12 H hK hP hD hS => ?_)
  have hP : va_P (dC, dI) vwCl [(h0, .inr (9, [.null, .null, .int (-1), .int 0, .ref q1, .null, .int 0, .ref q3, .ref q5, .int 0, .ref q7, .ref q9, .null, .null, .null, .null])), (q1, .inl (k2, 400, .inl (fun _ => 0))), (q3, .inl (k4, 12, .inl (fun _ => 0))), (q5, .inl (k6, 40, .inl (fun _ => 0))), (q7, .inl (k8, 40, .inl (fun _ => 0))), (q9, .inl (k10, 12, .inl (fun _ => 0))), (q11, .inl (k12, 12, .inl (fun _ => 0)))] H := hP
  have hD : va_D A [(h0, .inr (9, [.null, .null, .int (-1), .int 0, .ref q1, .null, .int 0, .ref q3, .ref q5, .int 0, .ref q7, .ref q9, .null, .null, .null, .null])), (q1, .inl (k2, 400, .inl (fun _ => 0))), (q3, .inl (k4, 12, .inl (fun _ => 0))), (q5, .inl (k6, 40, .inl (fun _ => 0))), (q7, .inl (k8, 40, .inl (fun _ => 0))), (q9, .inl (k10, 12, .inl (fun _ => 0))), (q11, .inl (k12, 12, .inl (fun _ => 0)))] := hD
  have hK : va_K (dC, dI) vwCl [(k2, .int), (k4, .int), (k6, .int), (k8, .int), (k10, .int), (k12, .int)] s := hK
  refine W.widen (k := 6) (n := 516) (Nat.le_of_ble_eq_true rfl) (Nat.le_of_ble_eq_true rfl) ?_
  refine va_putF (D := (dC, dI)) (ci := 9) (v := .ref q11) (ty := .array .int) (C := RX9) (T := TX9) (N := 16) hx hb ht inX9 tyX9 tyX9_ok nmX9 hown hK hP hD hS 0 rfl rfl 12 (by decide) (ht _ kw_283) (fun _ h9 => h9) rfl hin rfl (by decide +kernel) rfl rfl (Nat.le_of_ble_eq_true rfl) dX9_init_55 (fun H locs hP hD hS => ?_)
  have hP : va_P (dC, dI) vwCl [(h0, .inr (9, [.null, .null, .int (-1), .int 0, .ref q1, .null, .int 0, .ref q3, .ref q5, .int 0, .ref q7, .ref q9, .ref q11, .null, .null, .null])), (q1, .inl (k2, 400, .inl (fun _ => 0))), (q3, .inl (k4, 12, .inl (fun _ => 0))), (q5, .inl (k6, 40, .inl (fun _ => 0))), (q7, .inl (k8, 40, .inl (fun _ => 0))), (q9, .inl (k10, 12, .inl (fun _ => 0))), (q11, .inl (k12, 12, .inl (fun _ => 0)))] H := hP
  have hD : va_D A [(h0, .inr (9, [.null, .null, .int (-1), .int 0, .ref q1, .null, .int 0, .ref q3, .ref q5, .int 0, .ref q7, .ref q9, .ref q11, .null, .null, .null])), (q1, .inl (k2, 400, .inl (fun _ => 0))), (q3, .inl (k4, 12, .inl (fun _ => 0))), (q5, .inl (k6, 40, .inl (fun _ => 0))), (q7, .inl (k8, 40, .inl (fun _ => 0))), (q9, .inl (k10, 12, .inl (fun _ => 0))), (q11, .inl (k12, 12, .inl (fun _ => 0)))] := hD
  refine lv_aload_n hx hb dX9_init_58 rfl (lv_at hl 0 rfl) ?_
  refine lv_bipush (v := 12) hx hb dX9_init_59 (by decide) ?_
  refine va_newa (atype := .int) (ty := .int) (a0 := (12, .inl (fun _ => 0))) hx hb (ht _ kw_72) rfl hK hP hD hS hA (fun _ => rfl) (by decide) (by decide) (Nat.le_of_ble_eq_true rfl) (Nat.le_of_ble_eq_true rfl) (Nat.le_of_ble_eq_true rfl) dX9_init_61 (fun q13 k14 H hK hP hD hS => ?_)
  have hP : va_P (dC, dI) vwCl [(h0, .inr (9, [.null, .null, .int (-1), .int 0, .ref q1, .null, .int 0, .ref q3, .ref q5, .int 0, .ref q7, .ref q9, .ref q11, .null, .null, .null])), (q1, .inl (k2, 400, .inl (fun _ => 0))), (q3, .inl (k4, 12, .inl (fun _ => 0))), (q5, .inl (k6, 40, .inl (fun _ => 0))), (q7, .inl (k8, 40, .inl (fun _ => 0))), (q9, .inl (k10, 12, .inl (fun _ => 0))), (q11, .inl (k12, 12, .inl (fun _ => 0))), (q13, .inl (k14, 12, .inl (fun _ => 0)))] H := hP
  have hD : va_D A [(h0, .inr (9, [.null, .null, .int (-1), .int 0, .ref q1, .null, .int 0, .ref q3, .ref q5, .int 0, .ref q7, .ref q9, .ref q11, .null, .null, .null])), (q1, .inl (k2, 400, .inl (fun _ => 0))), (q3, .inl (k4, 12, .inl (fun _ => 0))), (q5, .inl (k6, 40, .inl (fun _ => 0))), (q7, .inl (k8, 40, .inl (fun _ => 0))), (q9, .inl (k10, 12, .inl (fun _ => 0))), (q11, .inl (k12, 12, .inl (fun _ => 0))), (q13, .inl (k14, 12, .inl (fun _ => 0)))] := hD
  have hK : va_K (dC, dI) vwCl [(k2, .int), (k4, .int), (k6, .int), (k8, .int), (k10, .int), (k12, .int), (k14, .int)] s := hK
  refine W.widen (k := 7) (n := 528) (Nat.le_of_ble_eq_true rfl) (Nat.le_of_ble_eq_true rfl) ?_
  refine va_putF (D := (dC, dI)) (ci := 9) (v := .ref q13) (ty := .array .int) (C := RX9) (T := TX9) (N := 16) hx hb ht inX9 tyX9 tyX9_ok nmX9 hown hK hP hD hS 0 rfl rfl 13 (by decide) (ht _ kw_284) (fun _ h9 => h9) rfl hin rfl (by decide +kernel) rfl rfl (Nat.le_of_ble_eq_true rfl) dX9_init_63 (fun H locs hP hD hS => ?_)
  have hP : va_P (dC, dI) vwCl [(h0, .inr (9, [.null, .null, .int (-1), .int 0, .ref q1, .null, .int 0, .ref q3, .ref q5, .int 0, .ref q7, .ref q9, .ref q11, .ref q13, .null, .null])), (q1, .inl (k2, 400, .inl (fun _ => 0))), (q3, .inl (k4, 12, .inl (fun _ => 0))), (q5, .inl (k6, 40, .inl (fun _ => 0))), (q7, .inl (k8, 40, .inl (fun _ => 0))), (q9, .inl (k10, 12, .inl (fun _ => 0))), (q11, .inl (k12, 12, .inl (fun _ => 0))), (q13, .inl (k14, 12, .inl (fun _ => 0)))] H := hP
  have hD : va_D A [(h0, .inr (9, [.null, .null, .int (-1), .int 0, .ref q1, .null, .int 0, .ref q3, .ref q5, .int 0, .ref q7, .ref q9, .ref q11, .ref q13, .null, .null])), (q1, .inl (k2, 400, .inl (fun _ => 0))), (q3, .inl (k4, 12, .inl (fun _ => 0))), (q5, .inl (k6, 40, .inl (fun _ => 0))), (q7, .inl (k8, 40, .inl (fun _ => 0))), (q9, .inl (k10, 12, .inl (fun _ => 0))), (q11, .inl (k12, 12, .inl (fun _ => 0))), (q13, .inl (k14, 12, .inl (fun _ => 0)))] := hD
  refine lv_aload_n hx hb dX9_init_66 rfl (lv_at hl 0 rfl) ?_
  refine lv_bipush (v := 12) hx hb dX9_init_67 (by decide) ?_
  refine va_newa (atype := .int) (ty := .int) (a0 := (12, .inl (fun _ => 0))) hx hb (ht _ kw_72) rfl hK hP hD hS hA (fun _ => rfl) (by decide) (by decide) (Nat.le_of_ble_eq_true rfl) (Nat.le_of_ble_eq_true rfl) (Nat.le_of_ble_eq_true rfl) dX9_init_69 (fun q15 k16 H hK hP hD hS => ?_)
  have hP : va_P (dC, dI) vwCl [(h0, .inr (9, [.null, .null, .int (-1), .int 0, .ref q1, .null, .int 0, .ref q3, .ref q5, .int 0, .ref q7, .ref q9, .ref q11, .ref q13, .null, .null])), (q1, .inl (k2, 400, .inl (fun _ => 0))), (q3, .inl (k4, 12, .inl (fun _ => 0))), (q5, .inl (k6, 40, .inl (fun _ => 0))), (q7, .inl (k8, 40, .inl (fun _ => 0))), (q9, .inl (k10, 12, .inl (fun _ => 0))), (q11, .inl (k12, 12, .inl (fun _ => 0))), (q13, .inl (k14, 12, .inl (fun _ => 0))), (q15, .inl (k16, 12, .inl (fun _ => 0)))] H := hP
  have hD : va_D A [(h0, .inr (9, [.null, .null, .int (-1), .int 0, .ref q1, .null, .int 0, .ref q3, .ref q5, .int 0, .ref q7, .ref q9, .ref q11, .ref q13, .null, .null])), (q1, .inl (k2, 400, .inl (fun _ => 0))), (q3, .inl (k4, 12, .inl (fun _ => 0))), (q5, .inl (k6, 40, .inl (fun _ => 0))), (q7, .inl (k8, 40, .inl (fun _ => 0))), (q9, .inl (k10, 12, .inl (fun _ => 0))), (q11, .inl (k12, 12, .inl (fun _ => 0))), (q13, .inl (k14, 12, .inl (fun _ => 0))), (q15, .inl (k16, 12, .inl (fun _ => 0)))] := hD
  have hK : va_K (dC, dI) vwCl [(k2, .int), (k4, .int), (k6, .int), (k8, .int), (k10, .int), (k12, .int), (k14, .int), (k16, .int)] s := hK
  refine W.widen (k := 8) (n := 540) (Nat.le_of_ble_eq_true rfl) (Nat.le_of_ble_eq_true rfl) ?_
  refine va_putF (D := (dC, dI)) (ci := 9) (v := .ref q15) (ty := .array .int) (C := RX9) (T := TX9) (N := 16) hx hb ht inX9 tyX9 tyX9_ok nmX9 hown hK hP hD hS 0 rfl rfl 14 (by decide) (ht _ kw_285) (fun _ h9 => h9) rfl hin rfl (by decide +kernel) rfl rfl (Nat.le_of_ble_eq_true rfl) dX9_init_71 (fun H locs hP hD hS => ?_)
  have hP : va_P (dC, dI) vwCl [(h0, .inr (9, [.null, .null, .int (-1), .int 0, .ref q1, .null, .int 0, .ref q3, .ref q5, .int 0, .ref q7, .ref q9, .ref q11, .ref q13, .ref q15, .null])), (q1, .inl (k2, 400, .inl (fun _ => 0))), (q3, .inl (k4, 12, .inl (fun _ => 0))), (q5, .inl (k6, 40, .inl (fun _ => 0))), (q7, .inl (k8, 40, .inl (fun _ => 0))), (q9, .inl (k10, 12, .inl (fun _ => 0))), (q11, .inl (k12, 12, .inl (fun _ => 0))), (q13, .inl (k14, 12, .inl (fun _ => 0))), (q15, .inl (k16, 12, .inl (fun _ => 0)))] H := hP
  have hD : va_D A [(h0, .inr (9, [.null, .null, .int (-1), .int 0, .ref q1, .null, .int 0, .ref q3, .ref q5, .int 0, .ref q7, .ref q9, .ref q11, .ref q13, .ref q15, .null])), (q1, .inl (k2, 400, .inl (fun _ => 0))), (q3, .inl (k4, 12, .inl (fun _ => 0))), (q5, .inl (k6, 40, .inl (fun _ => 0))), (q7, .inl (k8, 40, .inl (fun _ => 0))), (q9, .inl (k10, 12, .inl (fun _ => 0))), (q11, .inl (k12, 12, .inl (fun _ => 0))), (q13, .inl (k14, 12, .inl (fun _ => 0))), (q15, .inl (k16, 12, .inl (fun _ => 0)))] := hD
  refine lv_aload_n hx hb dX9_init_74 rfl (lv_at hl 0 rfl) ?_
  refine lv_aload_n hx hb dX9_init_75 rfl (lv_at hl 1 rfl) ?_
  refine va_putF (D := (dC, dI)) (ci := 9) (v := .ref se) (ty := .object "SportsHouse$Season") (C := RX9) (T := TX9) (N := 16) hx hb ht inX9 tyX9 tyX9_ok nmX9 hown hK hP hD hS 0 rfl rfl 0 (by decide) (ht _ kw_268) (fun _ h9 => h9) rfl hin rfl (by decide +kernel) rfl rfl (Nat.le_of_ble_eq_true rfl) dX9_init_76 (fun H locs hP hD hS => ?_)
  have hP : va_P (dC, dI) vwCl [(h0, .inr (9, [.ref se, .null, .int (-1), .int 0, .ref q1, .null, .int 0, .ref q3, .ref q5, .int 0, .ref q7, .ref q9, .ref q11, .ref q13, .ref q15, .null])), (q1, .inl (k2, 400, .inl (fun _ => 0))), (q3, .inl (k4, 12, .inl (fun _ => 0))), (q5, .inl (k6, 40, .inl (fun _ => 0))), (q7, .inl (k8, 40, .inl (fun _ => 0))), (q9, .inl (k10, 12, .inl (fun _ => 0))), (q11, .inl (k12, 12, .inl (fun _ => 0))), (q13, .inl (k14, 12, .inl (fun _ => 0))), (q15, .inl (k16, 12, .inl (fun _ => 0)))] H := hP
  have hD : va_D A [(h0, .inr (9, [.ref se, .null, .int (-1), .int 0, .ref q1, .null, .int 0, .ref q3, .ref q5, .int 0, .ref q7, .ref q9, .ref q11, .ref q13, .ref q15, .null])), (q1, .inl (k2, 400, .inl (fun _ => 0))), (q3, .inl (k4, 12, .inl (fun _ => 0))), (q5, .inl (k6, 40, .inl (fun _ => 0))), (q7, .inl (k8, 40, .inl (fun _ => 0))), (q9, .inl (k10, 12, .inl (fun _ => 0))), (q11, .inl (k12, 12, .inl (fun _ => 0))), (q13, .inl (k14, 12, .inl (fun _ => 0))), (q15, .inl (k16, 12, .inl (fun _ => 0)))] := hD
  refine lv_aload_n hx hb dX9_init_79 rfl (lv_at hl 0 rfl) ?_
  refine lv_aload_n hx hb dX9_init_80 rfl (lv_at hl 2 rfl) ?_
  refine va_putF (D := (dC, dI)) (ci := 9) (v := .ref sd) (ty := .object "SportsHouse$Standings") (C := RX9) (T := TX9) (N := 16) hx hb ht inX9 tyX9 tyX9_ok nmX9 hown hK hP hD hS 0 rfl rfl 1 (by decide) (ht _ kw_269) (fun _ h9 => h9) rfl hin rfl (by decide +kernel) rfl rfl (Nat.le_of_ble_eq_true rfl) dX9_init_81 (fun H locs hP hD hS => ?_)
  have hP : va_P (dC, dI) vwCl [(h0, .inr (9, [.ref se, .ref sd, .int (-1), .int 0, .ref q1, .null, .int 0, .ref q3, .ref q5, .int 0, .ref q7, .ref q9, .ref q11, .ref q13, .ref q15, .null])), (q1, .inl (k2, 400, .inl (fun _ => 0))), (q3, .inl (k4, 12, .inl (fun _ => 0))), (q5, .inl (k6, 40, .inl (fun _ => 0))), (q7, .inl (k8, 40, .inl (fun _ => 0))), (q9, .inl (k10, 12, .inl (fun _ => 0))), (q11, .inl (k12, 12, .inl (fun _ => 0))), (q13, .inl (k14, 12, .inl (fun _ => 0))), (q15, .inl (k16, 12, .inl (fun _ => 0)))] H := hP
  have hD : va_D A [(h0, .inr (9, [.ref se, .ref sd, .int (-1), .int 0, .ref q1, .null, .int 0, .ref q3, .ref q5, .int 0, .ref q7, .ref q9, .ref q11, .ref q13, .ref q15, .null])), (q1, .inl (k2, 400, .inl (fun _ => 0))), (q3, .inl (k4, 12, .inl (fun _ => 0))), (q5, .inl (k6, 40, .inl (fun _ => 0))), (q7, .inl (k8, 40, .inl (fun _ => 0))), (q9, .inl (k10, 12, .inl (fun _ => 0))), (q11, .inl (k12, 12, .inl (fun _ => 0))), (q13, .inl (k14, 12, .inl (fun _ => 0))), (q15, .inl (k16, 12, .inl (fun _ => 0)))] := hD
  refine lv_aload_n hx hb dX9_init_84 rfl (lv_at hl 0 rfl) ?_
  refine va_get (D := (dC, dI)) (ci := 9) (v := .ref q1) (C := RX9) (T := TX9) (N := 16) hx hb ht inX9 hown hK hP 0 rfl rfl 4 (by decide) (ht _ kw_274) (fun _ h9 => h9) rfl dX9_init_85 ?_
  refine lv_iconst (v := (-1)) hx hb dX9_init_88 (by decide) ?_
  have hPc := hP.sub (ws' := [(q1, .inl (k2, 400, .inl (fun _ => 0)))]) [1] rfl
  have hDc := hD.sub (ws' := [(q1, .inl (k2, 400, .inl (fun _ => 0)))]) [1] (by decide) rfl
  have hKc := hK.sub (tys' := [(k2, .int)]) [0] rfl
  have hFc := va_free (wc := [(q1, .inl (k2, 400, .inl (fun _ => 0)))]) hD hS hA [1] rfl
  refine va_callv (va_runS (As := [.ref q1, .int (-1)]) (rest := []) ⟨hx, hb, hml, hown, ht⟩ (ct_J7_fill_53178 l dC dI q1 k2 400 (fun _ => 0) (by decide) _ (-1)) (va_cwS 2 ht gv_X9_48 rfl rfl rfl (by decide +kernel) ⟨Nat.le_of_ble_eq_true rfl, Nat.le_of_ble_eq_true rfl⟩) ⟨ro_blind, fun U hU hW => ⟨rfl, by rw [hU], by rw [hU]; exact hPc, va_K.moved hW.alike hKc, hDc.weaken (fun _ _ _ _ => trivial), ex_warm hW hE⟩⟩ rfl rfl hl.1 rfl (lv_room (Nat.le_of_ble_eq_true rfl)) dX9_init_89 ⟨Nat.le_of_ble_eq_true rfl, Nat.le_of_ble_eq_true rfl⟩) hS (fun q _ h => hFc q h) hFc (fun u t H1 locs ht1 hvm hw hB hz1 hk1 hS => ?_)
  obtain ⟨g17, hP1, hK1, hD1⟩ := hB
  rw [ht1] at hP1
  obtain ⟨hP, hD⟩ := va_join (wr := [(h0, .inr (9, [.ref se, .ref sd, .int (-1), .int 0, .ref q1, .null, .int 0, .ref q3, .ref q5, .int 0, .ref q7, .ref q9, .ref q11, .ref q13, .ref q15, .null])), (q3, .inl (k4, 12, .inl (fun _ => 0))), (q5, .inl (k6, 40, .inl (fun _ => 0))), (q7, .inl (k8, 40, .inl (fun _ => 0))), (q9, .inl (k10, 12, .inl (fun _ => 0))), (q11, .inl (k12, 12, .inl (fun _ => 0))), (q13, .inl (k14, 12, .inl (fun _ => 0))), (q15, .inl (k16, 12, .inl (fun _ => 0)))]) (w1 := [(q1, .inl (k2, 400, .inl g17))]) hP hD [1] [0, 2, 3, 4, 5, 6, 7, 8] rfl rfl (by decide) (by decide) hk1 hFc hP1 hD1
  generalize H1 = H at hP hS ⊢
  have hP : va_P (dC, dI) vwCl [(h0, .inr (9, [.ref se, .ref sd, .int (-1), .int 0, .ref q1, .null, .int 0, .ref q3, .ref q5, .int 0, .ref q7, .ref q9, .ref q11, .ref q13, .ref q15, .null])), (q3, .inl (k4, 12, .inl (fun _ => 0))), (q5, .inl (k6, 40, .inl (fun _ => 0))), (q7, .inl (k8, 40, .inl (fun _ => 0))), (q9, .inl (k10, 12, .inl (fun _ => 0))), (q11, .inl (k12, 12, .inl (fun _ => 0))), (q13, .inl (k14, 12, .inl (fun _ => 0))), (q15, .inl (k16, 12, .inl (fun _ => 0))), (q1, .inl (k2, 400, .inl g17))] H := hP
  have hD : va_D A [(h0, .inr (9, [.ref se, .ref sd, .int (-1), .int 0, .ref q1, .null, .int 0, .ref q3, .ref q5, .int 0, .ref q7, .ref q9, .ref q11, .ref q13, .ref q15, .null])), (q3, .inl (k4, 12, .inl (fun _ => 0))), (q5, .inl (k6, 40, .inl (fun _ => 0))), (q7, .inl (k8, 40, .inl (fun _ => 0))), (q9, .inl (k10, 12, .inl (fun _ => 0))), (q11, .inl (k12, 12, .inl (fun _ => 0))), (q13, .inl (k14, 12, .inl (fun _ => 0))), (q15, .inl (k16, 12, .inl (fun _ => 0))), (q1, .inl (k2, 400, .inl g17))] := hD
  have hP := hP.sub (ws' := [(h0, .inr (9, [.ref se, .ref sd, .int (-1), .int 0, .ref q1, .null, .int 0, .ref q3, .ref q5, .int 0, .ref q7, .ref q9, .ref q11, .ref q13, .ref q15, .null]))]) [0] rfl
  have hD := hD.sub (ws' := [(h0, .inr (9, [.ref se, .ref sd, .int (-1), .int 0, .ref q1, .null, .int 0, .ref q3, .ref q5, .int 0, .ref q7, .ref q9, .ref q11, .ref q13, .ref q15, .null]))]) [0] (by decide) rfl
  have hK := hK.sub (tys' := []) [] rfl
  exact W.vret hx hb hr (fun t ht9 hW => ⟨⟨(), rfl, trivial, q1, q3, q5, q7, q9, q11, q13, q15, by rw [ht9]; exact hP, va_K.moved hW.alike hK, hD⟩, hS.F ht9⟩) hS.2.2 dX9_init_92
abbrev cX1_init : ByteArray := prog_3_method_1_code
def yX1_init : MethodName := ⟨RX1, "<init>", "(LSportsHouse$Things;)V"⟩
theorem dX1_init_0 : decode cX1_init 0 = .ok (.aload_n 0, 1) := by decide +kernel
theorem dX1_init_1 : decode cX1_init 1 = .ok (.invokespecial 3, 3) := by decide +kernel
theorem kw_325 : Cond.methodLink RX1 3 objectInit ∈ lw_g := lw_at 325 (by decide +kernel) rfl
theorem dX1_init_4 : decode cX1_init 4 = .ok (.aload_n 0, 1) := by decide +kernel
theorem dX1_init_5 : decode cX1_init 5 = .ok (.bipush 12, 2) := by decide +kernel
theorem dX1_init_7 : decode cX1_init 7 = .ok (.newarray .int, 2) := by decide +kernel
theorem dX1_init_9 : decode cX1_init 9 = .ok (.putfield 9, 3) := by decide +kernel
theorem kw_339 : Cond.fieldLink RX1 9 "SportsHouse$Lots" "potOf" "[I" ∈ lw_g := lw_at 339 (by decide +kernel) rfl
theorem dX1_init_12 : decode cX1_init 12 = .ok (.aload_n 0, 1) := by decide +kernel
theorem dX1_init_13 : decode cX1_init 13 = .ok (.bipush 12, 2) := by decide +kernel
theorem dX1_init_15 : decode cX1_init 15 = .ok (.newarray .int, 2) := by decide +kernel
theorem dX1_init_17 : decode cX1_init 17 = .ok (.putfield 15, 3) := by decide +kernel
theorem kw_341 : Cond.fieldLink RX1 15 "SportsHouse$Lots" "groupOf" "[I" ∈ lw_g := lw_at 341 (by decide +kernel) rfl
theorem dX1_init_20 : decode cX1_init 20 = .ok (.aload_n 0, 1) := by decide +kernel
theorem dX1_init_21 : decode cX1_init 21 = .ok (.iconst 3, 1) := by decide +kernel
theorem dX1_init_22 : decode cX1_init 22 = .ok (.newarray .int, 2) := by decide +kernel
theorem dX1_init_24 : decode cX1_init 24 = .ok (.putfield 18, 3) := by decide +kernel
theorem kw_343 : Cond.fieldLink RX1 18 "SportsHouse$Lots" "potSize" "[I" ∈ lw_g := lw_at 343 (by decide +kernel) rfl
theorem dX1_init_27 : decode cX1_init 27 = .ok (.aload_n 0, 1) := by decide +kernel
theorem dX1_init_28 : decode cX1_init 28 = .ok (.bipush 48, 2) := by decide +kernel
theorem dX1_init_30 : decode cX1_init 30 = .ok (.newarray .int, 2) := by decide +kernel
theorem dX1_init_32 : decode cX1_init 32 = .ok (.putfield 21, 3) := by decide +kernel
theorem kw_345 : Cond.fieldLink RX1 21 "SportsHouse$Lots" "with" "[I" ∈ lw_g := lw_at 345 (by decide +kernel) rfl
theorem dX1_init_35 : decode cX1_init 35 = .ok (.aload_n 0, 1) := by decide +kernel
theorem dX1_init_36 : decode cX1_init 36 = .ok (.bipush 12, 2) := by decide +kernel
theorem dX1_init_38 : decode cX1_init 38 = .ok (.newarray .int, 2) := by decide +kernel
theorem dX1_init_40 : decode cX1_init 40 = .ok (.putfield 24, 3) := by decide +kernel
theorem kw_346 : Cond.fieldLink RX1 24 "SportsHouse$Lots" "waiting" "[I" ∈ lw_g := lw_at 346 (by decide +kernel) rfl
theorem dX1_init_43 : decode cX1_init 43 = .ok (.aload_n 0, 1) := by decide +kernel
theorem dX1_init_44 : decode cX1_init 44 = .ok (.bipush 12, 2) := by decide +kernel
theorem dX1_init_46 : decode cX1_init 46 = .ok (.newarray .int, 2) := by decide +kernel
theorem dX1_init_48 : decode cX1_init 48 = .ok (.putfield 27, 3) := by decide +kernel
theorem kw_348 : Cond.fieldLink RX1 27 "SportsHouse$Lots" "taken" "[I" ∈ lw_g := lw_at 348 (by decide +kernel) rfl
theorem dX1_init_51 : decode cX1_init 51 = .ok (.aload_n 0, 1) := by decide +kernel
theorem dX1_init_52 : decode cX1_init 52 = .ok (.bipush 32, 2) := by decide +kernel
theorem dX1_init_54 : decode cX1_init 54 = .ok (.newarray .int, 2) := by decide +kernel
theorem dX1_init_56 : decode cX1_init 56 = .ok (.putfield 30, 3) := by decide +kernel
theorem kw_349 : Cond.fieldLink RX1 30 "SportsHouse$Lots" "countrymen" "[I" ∈ lw_g := lw_at 349 (by decide +kernel) rfl
theorem dX1_init_59 : decode cX1_init 59 = .ok (.aload_n 0, 1) := by decide +kernel
theorem dX1_init_60 : decode cX1_init 60 = .ok (.aload_n 1, 1) := by decide +kernel
theorem dX1_init_61 : decode cX1_init 61 = .ok (.putfield 33, 3) := by decide +kernel
theorem kw_326 : Cond.fieldLink RX1 33 "SportsHouse$Lots" "things" "LSportsHouse$Things;" ∈ lw_g := lw_at 326 (by decide +kernel) rfl
theorem dX1_init_64 : decode cX1_init 64 = .ok (.return_, 1) := by decide +kernel
set_option maxHeartbeats 4000000 in
set_option maxRecDepth 100000 in
theorem ct_X1_init (l : Launch) (dC : Nat → ClassId) (dI : Nat → Nat → Nat) (h0 : Nat) (th : Nat) (sz : Nat)  : Met l yX1_init (.code yX1_init cX1_init 2 none :: lw_g) ({ frames := 1, cells := 7, slots := 131, locals := 60 }) (ro_P dC dI [(h0, .inr (1, [.null, .int 0, .int 0, .int 0, .int 0, .int 0, .int 0, .int 0, .null, .null, .null, .null, .null, .int 0, .null, .null]))] [] sz [.ref h0, .ref th]) (va_Qv (fun (_ : Unit) => True) (fun _ t => ∃ (q1 : Nat) (q3 : Nat) (q5 : Nat) (q7 : Nat) (q9 : Nat) (q11 : Nat) (q13 : Nat) (k2 : ClassId) (k4 : ClassId) (k6 : ClassId), va_P (dC, dI) vwCl [(h0, .inr (1, [.ref th, .int 0, .int 0, .int 0, .int 0, .int 0, .int 0, .int 0, .ref q1, .ref q3, .ref q5, .ref q7, .ref q9, .int 0, .ref q11, .ref q13])), (q1, .inl (k2, 12, .inl (fun _ => 0))), (q3, .inl (k4, 12, .inl (fun _ => 0))), (q5, .inl (k6, 3, .inl (fun _ => 0)))] t.heap ∧ va_K (dC, dI) vwCl [(k2, .int), (k4, .int), (k6, .int)] t ∧ va_D (va_A [(h0, .inr (1, [.null, .int 0, .int 0, .int 0, .int 0, .int 0, .int 0, .int 0, .null, .null, .null, .null, .null, .int 0, .null, .null]))] sz) [(h0, .inr (1, [.ref th, .int 0, .int 0, .int 0, .int 0, .int 0, .int 0, .int 0, .ref q1, .ref q3, .ref q5, .ref q7, .ref q9, .int 0, .ref q11, .ref q13])), (q1, .inl (k2, 12, .inl (fun _ => 0))), (q3, .inl (k4, 12, .inl (fun _ => 0))), (q5, .inl (k6, 3, .inl (fun _ => 0)))]) (va_A [(h0, .inr (1, [.null, .int 0, .int 0, .int 0, .int 0, .int 0, .int 0, .int 0, .null, .null, .null, .null, .null, .int 0, .null, .null]))] sz)) 7 131 (va_A [(h0, .inr (1, [.null, .int 0, .int 0, .int 0, .int 0, .int 0, .int 0, .int 0, .null, .null, .null, .null, .null, .int 0, .null, .null]))] sz) := by
  refine ro_entry (by decide) (Nat.le_of_ble_eq_true rfl) ?_
  intro p e s m below meth c ls hx hb hr hlocks ht hown hin hml hsz hP hK hD hE hl
  subst hsz
  have hD := hD.self (sz := s.heap.size)
  generalize hAe : va_A [(h0, .inr (1, [.null, .int 0, .int 0, .int 0, .int 0, .int 0, .int 0, .int 0, .null, .null, .null, .null, .null, .int 0, .null, .null]))] s.heap.size = A at hD ⊢
  have hA : ∀ q, s.heap.size ≤ q → A q := fun q h => by rw [← hAe]; exact Or.inr h
  have hS : va_S A s.heap s.heap [] := va_S.rf
  have hl : lv_has ls 2 [(0, .ref h0), (1, .ref th)] := hl
  have hown : s.vm.findClass RX1 = some m.cls := hown
  refine lv_aload_n hx hb dX1_init_0 rfl (lv_at hl 0 rfl) ?_
  refine W.objInit hx hb hown (ht _ kw_325) (ht _ kw_27) (ht _ kw_28) rfl (by rw [hml]; exact hl.1) rfl dX1_init_1 (Nat.le_of_ble_eq_true rfl) (Nat.le_of_ble_eq_true rfl) ?_
  refine W.eq (g2 := F0 m 4 ls []) rfl ?_
  refine lv_aload_n hx hb dX1_init_4 rfl (lv_at hl 0 rfl) ?_
  refine lv_bipush (v := 12) hx hb dX1_init_5 (by decide) ?_
  refine va_newa (atype := .int) (ty := .int) (a0 := (12, .inl (fun _ => 0))) hx hb (ht _ kw_72) rfl hK hP hD hS hA (fun _ => rfl) (by decide) (by decide) (Nat.le_of_ble_eq_true rfl) (Nat.le_of_ble_eq_true rfl) (Nat.le_of_ble_eq_true rfl) dX1_init_7 (fun q1 k2 H hK hP hD hS => ?_)
  have hP : va_P (dC, dI) vwCl [(h0, .inr (1, [.null, .int 0, .int 0, .int 0, .int 0, .int 0, .int 0, .int 0, .null, .null, .null, .null, .null, .int 0, .null, .null])), (q1, .inl (k2, 12, .inl (fun _ => 0)))] H := hP
  have hD : va_D A [(h0, .inr (1, [.null, .int 0, .int 0, .int 0, .int 0, .int 0, .int 0, .int 0, .null, .null, .null, .null, .null, .int 0, .null, .null])), (q1, .inl (k2, 12, .inl (fun _ => 0)))] := hD
  have hK : va_K (dC, dI) vwCl [(k2, .int)] s := hK
  refine W.widen (k := 1) (n := 12) (Nat.le_of_ble_eq_true rfl) (Nat.le_of_ble_eq_true rfl) ?_
  refine va_putF (D := (dC, dI)) (ci := 1) (v := .ref q1) (ty := .array .int) (C := RX1) (T := TX1) (N := 16) hx hb ht inX1 tyX1 tyX1_ok nmX1 hown hK hP hD hS 0 rfl rfl 8 (by decide) (ht _ kw_339) (fun _ h9 => h9) rfl hin rfl (by decide +kernel) rfl rfl (Nat.le_of_ble_eq_true rfl) dX1_init_9 (fun H locs hP hD hS => ?_)
  have hP : va_P (dC, dI) vwCl [(h0, .inr (1, [.null, .int 0, .int 0, .int 0, .int 0, .int 0, .int 0, .int 0, .ref q1, .null, .null, .null, .null, .int 0, .null, .null])), (q1, .inl (k2, 12, .inl (fun _ => 0)))] H := hP
  have hD : va_D A [(h0, .inr (1, [.null, .int 0, .int 0, .int 0, .int 0, .int 0, .int 0, .int 0, .ref q1, .null, .null, .null, .null, .int 0, .null, .null])), (q1, .inl (k2, 12, .inl (fun _ => 0)))] := hD
  refine lv_aload_n hx hb dX1_init_12 rfl (lv_at hl 0 rfl) ?_
  refine lv_bipush (v := 12) hx hb dX1_init_13 (by decide) ?_
  refine va_newa (atype := .int) (ty := .int) (a0 := (12, .inl (fun _ => 0))) hx hb (ht _ kw_72) rfl hK hP hD hS hA (fun _ => rfl) (by decide) (by decide) (Nat.le_of_ble_eq_true rfl) (Nat.le_of_ble_eq_true rfl) (Nat.le_of_ble_eq_true rfl) dX1_init_15 (fun q3 k4 H hK hP hD hS => ?_)
  have hP : va_P (dC, dI) vwCl [(h0, .inr (1, [.null, .int 0, .int 0, .int 0, .int 0, .int 0, .int 0, .int 0, .ref q1, .null, .null, .null, .null, .int 0, .null, .null])), (q1, .inl (k2, 12, .inl (fun _ => 0))), (q3, .inl (k4, 12, .inl (fun _ => 0)))] H := hP
  have hD : va_D A [(h0, .inr (1, [.null, .int 0, .int 0, .int 0, .int 0, .int 0, .int 0, .int 0, .ref q1, .null, .null, .null, .null, .int 0, .null, .null])), (q1, .inl (k2, 12, .inl (fun _ => 0))), (q3, .inl (k4, 12, .inl (fun _ => 0)))] := hD
  have hK : va_K (dC, dI) vwCl [(k2, .int), (k4, .int)] s := hK
  refine W.widen (k := 2) (n := 24) (Nat.le_of_ble_eq_true rfl) (Nat.le_of_ble_eq_true rfl) ?_
  refine va_putF (D := (dC, dI)) (ci := 1) (v := .ref q3) (ty := .array .int) (C := RX1) (T := TX1) (N := 16) hx hb ht inX1 tyX1 tyX1_ok nmX1 hown hK hP hD hS 0 rfl rfl 9 (by decide) (ht _ kw_341) (fun _ h9 => h9) rfl hin rfl (by decide +kernel) rfl rfl (Nat.le_of_ble_eq_true rfl) dX1_init_17 (fun H locs hP hD hS => ?_)
  have hP : va_P (dC, dI) vwCl [(h0, .inr (1, [.null, .int 0, .int 0, .int 0, .int 0, .int 0, .int 0, .int 0, .ref q1, .ref q3, .null, .null, .null, .int 0, .null, .null])), (q1, .inl (k2, 12, .inl (fun _ => 0))), (q3, .inl (k4, 12, .inl (fun _ => 0)))] H := hP
  have hD : va_D A [(h0, .inr (1, [.null, .int 0, .int 0, .int 0, .int 0, .int 0, .int 0, .int 0, .ref q1, .ref q3, .null, .null, .null, .int 0, .null, .null])), (q1, .inl (k2, 12, .inl (fun _ => 0))), (q3, .inl (k4, 12, .inl (fun _ => 0)))] := hD
  refine lv_aload_n hx hb dX1_init_20 rfl (lv_at hl 0 rfl) ?_
  refine lv_iconst (v := 3) hx hb dX1_init_21 (by decide) ?_
  refine va_newa (atype := .int) (ty := .int) (a0 := (3, .inl (fun _ => 0))) hx hb (ht _ kw_72) rfl hK hP hD hS hA (fun _ => rfl) (by decide) (by decide) (Nat.le_of_ble_eq_true rfl) (Nat.le_of_ble_eq_true rfl) (Nat.le_of_ble_eq_true rfl) dX1_init_22 (fun q5 k6 H hK hP hD hS => ?_)
  have hP : va_P (dC, dI) vwCl [(h0, .inr (1, [.null, .int 0, .int 0, .int 0, .int 0, .int 0, .int 0, .int 0, .ref q1, .ref q3, .null, .null, .null, .int 0, .null, .null])), (q1, .inl (k2, 12, .inl (fun _ => 0))), (q3, .inl (k4, 12, .inl (fun _ => 0))), (q5, .inl (k6, 3, .inl (fun _ => 0)))] H := hP
  have hD : va_D A [(h0, .inr (1, [.null, .int 0, .int 0, .int 0, .int 0, .int 0, .int 0, .int 0, .ref q1, .ref q3, .null, .null, .null, .int 0, .null, .null])), (q1, .inl (k2, 12, .inl (fun _ => 0))), (q3, .inl (k4, 12, .inl (fun _ => 0))), (q5, .inl (k6, 3, .inl (fun _ => 0)))] := hD
  have hK : va_K (dC, dI) vwCl [(k2, .int), (k4, .int), (k6, .int)] s := hK
  refine W.widen (k := 3) (n := 27) (Nat.le_of_ble_eq_true rfl) (Nat.le_of_ble_eq_true rfl) ?_
  refine va_putF (D := (dC, dI)) (ci := 1) (v := .ref q5) (ty := .array .int) (C := RX1) (T := TX1) (N := 16) hx hb ht inX1 tyX1 tyX1_ok nmX1 hown hK hP hD hS 0 rfl rfl 10 (by decide) (ht _ kw_343) (fun _ h9 => h9) rfl hin rfl (by decide +kernel) rfl rfl (Nat.le_of_ble_eq_true rfl) dX1_init_24 (fun H locs hP hD hS => ?_)
  have hP : va_P (dC, dI) vwCl [(h0, .inr (1, [.null, .int 0, .int 0, .int 0, .int 0, .int 0, .int 0, .int 0, .ref q1, .ref q3, .ref q5, .null, .null, .int 0, .null, .null])), (q1, .inl (k2, 12, .inl (fun _ => 0))), (q3, .inl (k4, 12, .inl (fun _ => 0))), (q5, .inl (k6, 3, .inl (fun _ => 0)))] H := hP
  have hD : va_D A [(h0, .inr (1, [.null, .int 0, .int 0, .int 0, .int 0, .int 0, .int 0, .int 0, .ref q1, .ref q3, .ref q5, .null, .null, .int 0, .null, .null])), (q1, .inl (k2, 12, .inl (fun _ => 0))), (q3, .inl (k4, 12, .inl (fun _ => 0))), (q5, .inl (k6, 3, .inl (fun _ => 0)))] := hD
  refine lv_aload_n hx hb dX1_init_27 rfl (lv_at hl 0 rfl) ?_
  refine lv_bipush (v := 48) hx hb dX1_init_28 (by decide) ?_
  refine va_newa (atype := .int) (ty := .int) (a0 := (48, .inl (fun _ => 0))) hx hb (ht _ kw_72) rfl hK hP hD hS hA (fun _ => rfl) (by decide) (by decide) (Nat.le_of_ble_eq_true rfl) (Nat.le_of_ble_eq_true rfl) (Nat.le_of_ble_eq_true rfl) dX1_init_30 (fun q7 k8 H hK hP hD hS => ?_)
  have hP : va_P (dC, dI) vwCl [(h0, .inr (1, [.null, .int 0, .int 0, .int 0, .int 0, .int 0, .int 0, .int 0, .ref q1, .ref q3, .ref q5, .null, .null, .int 0, .null, .null])), (q1, .inl (k2, 12, .inl (fun _ => 0))), (q3, .inl (k4, 12, .inl (fun _ => 0))), (q5, .inl (k6, 3, .inl (fun _ => 0))), (q7, .inl (k8, 48, .inl (fun _ => 0)))] H := hP
  have hD : va_D A [(h0, .inr (1, [.null, .int 0, .int 0, .int 0, .int 0, .int 0, .int 0, .int 0, .ref q1, .ref q3, .ref q5, .null, .null, .int 0, .null, .null])), (q1, .inl (k2, 12, .inl (fun _ => 0))), (q3, .inl (k4, 12, .inl (fun _ => 0))), (q5, .inl (k6, 3, .inl (fun _ => 0))), (q7, .inl (k8, 48, .inl (fun _ => 0)))] := hD
  have hK : va_K (dC, dI) vwCl [(k2, .int), (k4, .int), (k6, .int), (k8, .int)] s := hK
  refine W.widen (k := 4) (n := 75) (Nat.le_of_ble_eq_true rfl) (Nat.le_of_ble_eq_true rfl) ?_
  refine va_putF (D := (dC, dI)) (ci := 1) (v := .ref q7) (ty := .array .int) (C := RX1) (T := TX1) (N := 16) hx hb ht inX1 tyX1 tyX1_ok nmX1 hown hK hP hD hS 0 rfl rfl 11 (by decide) (ht _ kw_345) (fun _ h9 => h9) rfl hin rfl (by decide +kernel) rfl rfl (Nat.le_of_ble_eq_true rfl) dX1_init_32 (fun H locs hP hD hS => ?_)
  have hP : va_P (dC, dI) vwCl [(h0, .inr (1, [.null, .int 0, .int 0, .int 0, .int 0, .int 0, .int 0, .int 0, .ref q1, .ref q3, .ref q5, .ref q7, .null, .int 0, .null, .null])), (q1, .inl (k2, 12, .inl (fun _ => 0))), (q3, .inl (k4, 12, .inl (fun _ => 0))), (q5, .inl (k6, 3, .inl (fun _ => 0))), (q7, .inl (k8, 48, .inl (fun _ => 0)))] H := hP
  have hD : va_D A [(h0, .inr (1, [.null, .int 0, .int 0, .int 0, .int 0, .int 0, .int 0, .int 0, .ref q1, .ref q3, .ref q5, .ref q7, .null, .int 0, .null, .null])), (q1, .inl (k2, 12, .inl (fun _ => 0))), (q3, .inl (k4, 12, .inl (fun _ => 0))), (q5, .inl (k6, 3, .inl (fun _ => 0))), (q7, .inl (k8, 48, .inl (fun _ => 0)))] := hD
  refine lv_aload_n hx hb dX1_init_35 rfl (lv_at hl 0 rfl) ?_
  refine lv_bipush (v := 12) hx hb dX1_init_36 (by decide) ?_
  refine va_newa (atype := .int) (ty := .int) (a0 := (12, .inl (fun _ => 0))) hx hb (ht _ kw_72) rfl hK hP hD hS hA (fun _ => rfl) (by decide) (by decide) (Nat.le_of_ble_eq_true rfl) (Nat.le_of_ble_eq_true rfl) (Nat.le_of_ble_eq_true rfl) dX1_init_38 (fun q9 k10 H hK hP hD hS => ?_)
  have hP : va_P (dC, dI) vwCl [(h0, .inr (1, [.null, .int 0, .int 0, .int 0, .int 0, .int 0, .int 0, .int 0, .ref q1, .ref q3, .ref q5, .ref q7, .null, .int 0, .null, .null])), (q1, .inl (k2, 12, .inl (fun _ => 0))), (q3, .inl (k4, 12, .inl (fun _ => 0))), (q5, .inl (k6, 3, .inl (fun _ => 0))), (q7, .inl (k8, 48, .inl (fun _ => 0))), (q9, .inl (k10, 12, .inl (fun _ => 0)))] H := hP
  have hD : va_D A [(h0, .inr (1, [.null, .int 0, .int 0, .int 0, .int 0, .int 0, .int 0, .int 0, .ref q1, .ref q3, .ref q5, .ref q7, .null, .int 0, .null, .null])), (q1, .inl (k2, 12, .inl (fun _ => 0))), (q3, .inl (k4, 12, .inl (fun _ => 0))), (q5, .inl (k6, 3, .inl (fun _ => 0))), (q7, .inl (k8, 48, .inl (fun _ => 0))), (q9, .inl (k10, 12, .inl (fun _ => 0)))] := hD
  have hK : va_K (dC, dI) vwCl [(k2, .int), (k4, .int), (k6, .int), (k8, .int), (k10, .int)] s := hK
  refine W.widen (k := 5) (n := 87) (Nat.le_of_ble_eq_true rfl) (Nat.le_of_ble_eq_true rfl) ?_
  refine va_putF (D := (dC, dI)) (ci := 1) (v := .ref q9) (ty := .array .int) (C := RX1) (T := TX1) (N := 16) hx hb ht inX1 tyX1 tyX1_ok nmX1 hown hK hP hD hS 0 rfl rfl 12 (by decide) (ht _ kw_346) (fun _ h9 => h9) rfl hin rfl (by decide +kernel) rfl rfl (Nat.le_of_ble_eq_true rfl) dX1_init_40 (fun H locs hP hD hS => ?_)
  have hP : va_P (dC, dI) vwCl [(h0, .inr (1, [.null, .int 0, .int 0, .int 0, .int 0, .int 0, .int 0, .int 0, .ref q1, .ref q3, .ref q5, .ref q7, .ref q9, .int 0, .null, .null])), (q1, .inl (k2, 12, .inl (fun _ => 0))), (q3, .inl (k4, 12, .inl (fun _ => 0))), (q5, .inl (k6, 3, .inl (fun _ => 0))), (q7, .inl (k8, 48, .inl (fun _ => 0))), (q9, .inl (k10, 12, .inl (fun _ => 0)))] H := hP
  have hD : va_D A [(h0, .inr (1, [.null, .int 0, .int 0, .int 0, .int 0, .int 0, .int 0, .int 0, .ref q1, .ref q3, .ref q5, .ref q7, .ref q9, .int 0, .null, .null])), (q1, .inl (k2, 12, .inl (fun _ => 0))), (q3, .inl (k4, 12, .inl (fun _ => 0))), (q5, .inl (k6, 3, .inl (fun _ => 0))), (q7, .inl (k8, 48, .inl (fun _ => 0))), (q9, .inl (k10, 12, .inl (fun _ => 0)))] := hD
  refine lv_aload_n hx hb dX1_init_43 rfl (lv_at hl 0 rfl) ?_
  refine lv_bipush (v := 12) hx hb dX1_init_44 (by decide) ?_
  refine va_newa (atype := .int) (ty := .int) (a0 := (12, .inl (fun _ => 0))) hx hb (ht _ kw_72) rfl hK hP hD hS hA (fun _ => rfl) (by decide) (by decide) (Nat.le_of_ble_eq_true rfl) (Nat.le_of_ble_eq_true rfl) (Nat.le_of_ble_eq_true rfl) dX1_init_46 (fun q11 k12 H hK hP hD hS => ?_)
  have hP : va_P (dC, dI) vwCl [(h0, .inr (1, [.null, .int 0, .int 0, .int 0, .int 0, .int 0, .int 0, .int 0, .ref q1, .ref q3, .ref q5, .ref q7, .ref q9, .int 0, .null, .null])), (q1, .inl (k2, 12, .inl (fun _ => 0))), (q3, .inl (k4, 12, .inl (fun _ => 0))), (q5, .inl (k6, 3, .inl (fun _ => 0))), (q7, .inl (k8, 48, .inl (fun _ => 0))), (q9, .inl (k10, 12, .inl (fun _ => 0))), (q11, .inl (k12, 12, .inl (fun _ => 0)))] H := hP
  have hD : va_D A [(h0, .inr (1, [.null, .int 0, .int 0, .int 0, .int 0, .int 0, .int 0, .int 0, .ref q1, .ref q3, .ref q5, .ref q7, .ref q9, .int 0, .null, .null])), (q1, .inl (k2, 12, .inl (fun _ => 0))), (q3, .inl (k4, 12, .inl (fun _ => 0))), (q5, .inl (k6, 3, .inl (fun _ => 0))), (q7, .inl (k8, 48, .inl (fun _ => 0))), (q9, .inl (k10, 12, .inl (fun _ => 0))), (q11, .inl (k12, 12, .inl (fun _ => 0)))] := hD
  have hK : va_K (dC, dI) vwCl [(k2, .int), (k4, .int), (k6, .int), (k8, .int), (k10, .int), (k12, .int)] s := hK
  refine W.widen (k := 6) (n := 99) (Nat.le_of_ble_eq_true rfl) (Nat.le_of_ble_eq_true rfl) ?_
  refine va_putF (D := (dC, dI)) (ci := 1) (v := .ref q11) (ty := .array .int) (C := RX1) (T := TX1) (N := 16) hx hb ht inX1 tyX1 tyX1_ok nmX1 hown hK hP hD hS 0 rfl rfl 14 (by decide) (ht _ kw_348) (fun _ h9 => h9) rfl hin rfl (by decide +kernel) rfl rfl (Nat.le_of_ble_eq_true rfl) dX1_init_48 (fun H locs hP hD hS => ?_)
  have hP : va_P (dC, dI) vwCl [(h0, .inr (1, [.null, .int 0, .int 0, .int 0, .int 0, .int 0, .int 0, .int 0, .ref q1, .ref q3, .ref q5, .ref q7, .ref q9, .int 0, .ref q11, .null])), (q1, .inl (k2, 12, .inl (fun _ => 0))), (q3, .inl (k4, 12, .inl (fun _ => 0))), (q5, .inl (k6, 3, .inl (fun _ => 0))), (q7, .inl (k8, 48, .inl (fun _ => 0))), (q9, .inl (k10, 12, .inl (fun _ => 0))), (q11, .inl (k12, 12, .inl (fun _ => 0)))] H := hP
  have hD : va_D A [(h0, .inr (1, [.null, .int 0, .int 0, .int 0, .int 0, .int 0, .int 0, .int 0, .ref q1, .ref q3, .ref q5, .ref q7, .ref q9, .int 0, .ref q11, .null])), (q1, .inl (k2, 12, .inl (fun _ => 0))), (q3, .inl (k4, 12, .inl (fun _ => 0))), (q5, .inl (k6, 3, .inl (fun _ => 0))), (q7, .inl (k8, 48, .inl (fun _ => 0))), (q9, .inl (k10, 12, .inl (fun _ => 0))), (q11, .inl (k12, 12, .inl (fun _ => 0)))] := hD
  refine lv_aload_n hx hb dX1_init_51 rfl (lv_at hl 0 rfl) ?_
  refine lv_bipush (v := 32) hx hb dX1_init_52 (by decide) ?_
  refine va_newa (atype := .int) (ty := .int) (a0 := (32, .inl (fun _ => 0))) hx hb (ht _ kw_72) rfl hK hP hD hS hA (fun _ => rfl) (by decide) (by decide) (Nat.le_of_ble_eq_true rfl) (Nat.le_of_ble_eq_true rfl) (Nat.le_of_ble_eq_true rfl) dX1_init_54 (fun q13 k14 H hK hP hD hS => ?_)
  have hP : va_P (dC, dI) vwCl [(h0, .inr (1, [.null, .int 0, .int 0, .int 0, .int 0, .int 0, .int 0, .int 0, .ref q1, .ref q3, .ref q5, .ref q7, .ref q9, .int 0, .ref q11, .null])), (q1, .inl (k2, 12, .inl (fun _ => 0))), (q3, .inl (k4, 12, .inl (fun _ => 0))), (q5, .inl (k6, 3, .inl (fun _ => 0))), (q7, .inl (k8, 48, .inl (fun _ => 0))), (q9, .inl (k10, 12, .inl (fun _ => 0))), (q11, .inl (k12, 12, .inl (fun _ => 0))), (q13, .inl (k14, 32, .inl (fun _ => 0)))] H := hP
  have hD : va_D A [(h0, .inr (1, [.null, .int 0, .int 0, .int 0, .int 0, .int 0, .int 0, .int 0, .ref q1, .ref q3, .ref q5, .ref q7, .ref q9, .int 0, .ref q11, .null])), (q1, .inl (k2, 12, .inl (fun _ => 0))), (q3, .inl (k4, 12, .inl (fun _ => 0))), (q5, .inl (k6, 3, .inl (fun _ => 0))), (q7, .inl (k8, 48, .inl (fun _ => 0))), (q9, .inl (k10, 12, .inl (fun _ => 0))), (q11, .inl (k12, 12, .inl (fun _ => 0))), (q13, .inl (k14, 32, .inl (fun _ => 0)))] := hD
  have hK : va_K (dC, dI) vwCl [(k2, .int), (k4, .int), (k6, .int), (k8, .int), (k10, .int), (k12, .int), (k14, .int)] s := hK
  refine W.widen (k := 7) (n := 131) (Nat.le_of_ble_eq_true rfl) (Nat.le_of_ble_eq_true rfl) ?_
  refine va_putF (D := (dC, dI)) (ci := 1) (v := .ref q13) (ty := .array .int) (C := RX1) (T := TX1) (N := 16) hx hb ht inX1 tyX1 tyX1_ok nmX1 hown hK hP hD hS 0 rfl rfl 15 (by decide) (ht _ kw_349) (fun _ h9 => h9) rfl hin rfl (by decide +kernel) rfl rfl (Nat.le_of_ble_eq_true rfl) dX1_init_56 (fun H locs hP hD hS => ?_)
  have hP : va_P (dC, dI) vwCl [(h0, .inr (1, [.null, .int 0, .int 0, .int 0, .int 0, .int 0, .int 0, .int 0, .ref q1, .ref q3, .ref q5, .ref q7, .ref q9, .int 0, .ref q11, .ref q13])), (q1, .inl (k2, 12, .inl (fun _ => 0))), (q3, .inl (k4, 12, .inl (fun _ => 0))), (q5, .inl (k6, 3, .inl (fun _ => 0))), (q7, .inl (k8, 48, .inl (fun _ => 0))), (q9, .inl (k10, 12, .inl (fun _ => 0))), (q11, .inl (k12, 12, .inl (fun _ => 0))), (q13, .inl (k14, 32, .inl (fun _ => 0)))] H := hP
  have hD : va_D A [(h0, .inr (1, [.null, .int 0, .int 0, .int 0, .int 0, .int 0, .int 0, .int 0, .ref q1, .ref q3, .ref q5, .ref q7, .ref q9, .int 0, .ref q11, .ref q13])), (q1, .inl (k2, 12, .inl (fun _ => 0))), (q3, .inl (k4, 12, .inl (fun _ => 0))), (q5, .inl (k6, 3, .inl (fun _ => 0))), (q7, .inl (k8, 48, .inl (fun _ => 0))), (q9, .inl (k10, 12, .inl (fun _ => 0))), (q11, .inl (k12, 12, .inl (fun _ => 0))), (q13, .inl (k14, 32, .inl (fun _ => 0)))] := hD
  refine lv_aload_n hx hb dX1_init_59 rfl (lv_at hl 0 rfl) ?_
  refine lv_aload_n hx hb dX1_init_60 rfl (lv_at hl 1 rfl) ?_
  refine va_putF (D := (dC, dI)) (ci := 1) (v := .ref th) (ty := .object "SportsHouse$Things") (C := RX1) (T := TX1) (N := 16) hx hb ht inX1 tyX1 tyX1_ok nmX1 hown hK hP hD hS 0 rfl rfl 0 (by decide) (ht _ kw_326) (fun _ h9 => h9) rfl hin rfl (by decide +kernel) rfl rfl (Nat.le_of_ble_eq_true rfl) dX1_init_61 (fun H locs hP hD hS => ?_)
  have hP : va_P (dC, dI) vwCl [(h0, .inr (1, [.ref th, .int 0, .int 0, .int 0, .int 0, .int 0, .int 0, .int 0, .ref q1, .ref q3, .ref q5, .ref q7, .ref q9, .int 0, .ref q11, .ref q13])), (q1, .inl (k2, 12, .inl (fun _ => 0))), (q3, .inl (k4, 12, .inl (fun _ => 0))), (q5, .inl (k6, 3, .inl (fun _ => 0))), (q7, .inl (k8, 48, .inl (fun _ => 0))), (q9, .inl (k10, 12, .inl (fun _ => 0))), (q11, .inl (k12, 12, .inl (fun _ => 0))), (q13, .inl (k14, 32, .inl (fun _ => 0)))] H := hP
  have hD : va_D A [(h0, .inr (1, [.ref th, .int 0, .int 0, .int 0, .int 0, .int 0, .int 0, .int 0, .ref q1, .ref q3, .ref q5, .ref q7, .ref q9, .int 0, .ref q11, .ref q13])), (q1, .inl (k2, 12, .inl (fun _ => 0))), (q3, .inl (k4, 12, .inl (fun _ => 0))), (q5, .inl (k6, 3, .inl (fun _ => 0))), (q7, .inl (k8, 48, .inl (fun _ => 0))), (q9, .inl (k10, 12, .inl (fun _ => 0))), (q11, .inl (k12, 12, .inl (fun _ => 0))), (q13, .inl (k14, 32, .inl (fun _ => 0)))] := hD
  have hP := hP.sub (ws' := [(h0, .inr (1, [.ref th, .int 0, .int 0, .int 0, .int 0, .int 0, .int 0, .int 0, .ref q1, .ref q3, .ref q5, .ref q7, .ref q9, .int 0, .ref q11, .ref q13])), (q1, .inl (k2, 12, .inl (fun _ => 0))), (q3, .inl (k4, 12, .inl (fun _ => 0))), (q5, .inl (k6, 3, .inl (fun _ => 0)))]) [0, 1, 2, 3] rfl
  have hD := hD.sub (ws' := [(h0, .inr (1, [.ref th, .int 0, .int 0, .int 0, .int 0, .int 0, .int 0, .int 0, .ref q1, .ref q3, .ref q5, .ref q7, .ref q9, .int 0, .ref q11, .ref q13])), (q1, .inl (k2, 12, .inl (fun _ => 0))), (q3, .inl (k4, 12, .inl (fun _ => 0))), (q5, .inl (k6, 3, .inl (fun _ => 0)))]) [0, 1, 2, 3] (by decide) rfl
  have hK := hK.sub (tys' := [(k2, .int), (k4, .int), (k6, .int)]) [0, 1, 2] rfl
  exact W.vret hx hb hr (fun t ht9 hW => ⟨⟨(), rfl, trivial, q1, q3, q5, q7, q9, q11, q13, k2, k4, k6, by rw [ht9]; exact hP, va_K.moved hW.alike hK, hD⟩, hS.F ht9⟩) hS.2.2 dX1_init_64
abbrev cX4_init : ByteArray := prog_6_method_1_code
def yX4_init : MethodName := ⟨RX4, "<init>", "(LSportsHouse$Season;LSportsHouse$Things;)V"⟩
theorem dX4_init_0 : decode cX4_init 0 = .ok (.aload_n 0, 1) := by decide +kernel
theorem dX4_init_1 : decode cX4_init 1 = .ok (.invokespecial 3, 3) := by decide +kernel
theorem kw_388 : Cond.methodLink RX4 3 objectInit ∈ lw_g := lw_at 388 (by decide +kernel) rfl
theorem dX4_init_4 : decode cX4_init 4 = .ok (.aload_n 0, 1) := by decide +kernel
theorem dX4_init_5 : decode cX4_init 5 = .ok (.sipush 400, 3) := by decide +kernel
theorem dX4_init_8 : decode cX4_init 8 = .ok (.newarray .int, 2) := by decide +kernel
theorem dX4_init_10 : decode cX4_init 10 = .ok (.putfield 9, 3) := by decide +kernel
theorem kw_391 : Cond.fieldLink RX4 9 "SportsHouse$Referees" "toServe" "[I" ∈ lw_g := lw_at 391 (by decide +kernel) rfl
theorem dX4_init_13 : decode cX4_init 13 = .ok (.aload_n 0, 1) := by decide +kernel
theorem dX4_init_14 : decode cX4_init 14 = .ok (.iconst 1, 1) := by decide +kernel
theorem dX4_init_15 : decode cX4_init 15 = .ok (.newarray .int, 2) := by decide +kernel
theorem dX4_init_17 : decode cX4_init 17 = .ok (.putfield 15, 3) := by decide +kernel
theorem kw_393 : Cond.fieldLink RX4 15 "SportsHouse$Referees" "best" "[I" ∈ lw_g := lw_at 393 (by decide +kernel) rfl
theorem dX4_init_20 : decode cX4_init 20 = .ok (.aload_n 0, 1) := by decide +kernel
theorem dX4_init_21 : decode cX4_init 21 = .ok (.aload_n 1, 1) := by decide +kernel
theorem dX4_init_22 : decode cX4_init 22 = .ok (.putfield 18, 3) := by decide +kernel
theorem kw_389 : Cond.fieldLink RX4 18 "SportsHouse$Referees" "season" "LSportsHouse$Season;" ∈ lw_g := lw_at 389 (by decide +kernel) rfl
theorem dX4_init_25 : decode cX4_init 25 = .ok (.aload_n 0, 1) := by decide +kernel
theorem dX4_init_26 : decode cX4_init 26 = .ok (.aload_n 2, 1) := by decide +kernel
theorem dX4_init_27 : decode cX4_init 27 = .ok (.putfield 22, 3) := by decide +kernel
theorem kw_390 : Cond.fieldLink RX4 22 "SportsHouse$Referees" "things" "LSportsHouse$Things;" ∈ lw_g := lw_at 390 (by decide +kernel) rfl
theorem dX4_init_30 : decode cX4_init 30 = .ok (.return_, 1) := by decide +kernel
set_option maxHeartbeats 4000000 in
set_option maxRecDepth 100000 in
theorem ct_X4_init (l : Launch) (dC : Nat → ClassId) (dI : Nat → Nat → Nat) (h0 : Nat) (se : Nat) (th : Nat) (sz : Nat)  : Met l yX4_init (.code yX4_init cX4_init 3 none :: lw_g) ({ frames := 1, cells := 2, slots := 401, locals := 60 }) (ro_P dC dI [(h0, .inr (4, [.null, .null, .null, .int 0, .null]))] [] sz [.ref h0, .ref se, .ref th]) (va_Qv (fun (_ : Unit) => True) (fun _ t => ∃ (q1 : Nat) (q3 : Nat) (k4 : ClassId), va_P (dC, dI) vwCl [(h0, .inr (4, [.ref se, .ref th, .ref q1, .int 0, .ref q3])), (q3, .inl (k4, 1, .inl (fun _ => 0)))] t.heap ∧ va_K (dC, dI) vwCl [(k4, .int)] t ∧ va_D (va_A [(h0, .inr (4, [.null, .null, .null, .int 0, .null]))] sz) [(h0, .inr (4, [.ref se, .ref th, .ref q1, .int 0, .ref q3])), (q3, .inl (k4, 1, .inl (fun _ => 0)))]) (va_A [(h0, .inr (4, [.null, .null, .null, .int 0, .null]))] sz)) 2 401 (va_A [(h0, .inr (4, [.null, .null, .null, .int 0, .null]))] sz) := by
  refine ro_entry (by decide) (Nat.le_of_ble_eq_true rfl) ?_
  intro p e s m below meth c ls hx hb hr hlocks ht hown hin hml hsz hP hK hD hE hl
  subst hsz
  have hD := hD.self (sz := s.heap.size)
  generalize hAe : va_A [(h0, .inr (4, [.null, .null, .null, .int 0, .null]))] s.heap.size = A at hD ⊢
  have hA : ∀ q, s.heap.size ≤ q → A q := fun q h => by rw [← hAe]; exact Or.inr h
  have hS : va_S A s.heap s.heap [] := va_S.rf
  have hl : lv_has ls 3 [(0, .ref h0), (1, .ref se), (2, .ref th)] := hl
  have hown : s.vm.findClass RX4 = some m.cls := hown
  refine lv_aload_n hx hb dX4_init_0 rfl (lv_at hl 0 rfl) ?_
  refine W.objInit hx hb hown (ht _ kw_388) (ht _ kw_27) (ht _ kw_28) rfl (by rw [hml]; exact hl.1) rfl dX4_init_1 (Nat.le_of_ble_eq_true rfl) (Nat.le_of_ble_eq_true rfl) ?_
  refine W.eq (g2 := F0 m 4 ls []) rfl ?_
  refine lv_aload_n hx hb dX4_init_4 rfl (lv_at hl 0 rfl) ?_
  refine lv_sipush (v := 400) hx hb dX4_init_5 (by decide) ?_
  refine va_newa (atype := .int) (ty := .int) (a0 := (400, .inl (fun _ => 0))) hx hb (ht _ kw_72) rfl hK hP hD hS hA (fun _ => rfl) (by decide) (by decide) (Nat.le_of_ble_eq_true rfl) (Nat.le_of_ble_eq_true rfl) (Nat.le_of_ble_eq_true rfl) dX4_init_8 (fun q1 k2 H hK hP hD hS => ?_)
  have hP : va_P (dC, dI) vwCl [(h0, .inr (4, [.null, .null, .null, .int 0, .null])), (q1, .inl (k2, 400, .inl (fun _ => 0)))] H := hP
  have hD : va_D A [(h0, .inr (4, [.null, .null, .null, .int 0, .null])), (q1, .inl (k2, 400, .inl (fun _ => 0)))] := hD
  have hK : va_K (dC, dI) vwCl [(k2, .int)] s := hK
  refine W.widen (k := 1) (n := 400) (Nat.le_of_ble_eq_true rfl) (Nat.le_of_ble_eq_true rfl) ?_
  refine va_putF (D := (dC, dI)) (ci := 4) (v := .ref q1) (ty := .array .int) (C := RX4) (T := TX4) (N := 5) hx hb ht inX4 tyX4 tyX4_ok nmX4 hown hK hP hD hS 0 rfl rfl 2 (by decide) (ht _ kw_391) (fun _ h9 => h9) rfl hin rfl (by decide +kernel) rfl rfl (Nat.le_of_ble_eq_true rfl) dX4_init_10 (fun H locs hP hD hS => ?_)
  have hP : va_P (dC, dI) vwCl [(h0, .inr (4, [.null, .null, .ref q1, .int 0, .null])), (q1, .inl (k2, 400, .inl (fun _ => 0)))] H := hP
  have hD : va_D A [(h0, .inr (4, [.null, .null, .ref q1, .int 0, .null])), (q1, .inl (k2, 400, .inl (fun _ => 0)))] := hD
  refine lv_aload_n hx hb dX4_init_13 rfl (lv_at hl 0 rfl) ?_
  refine lv_iconst (v := 1) hx hb dX4_init_14 (by decide) ?_
  refine va_newa (atype := .int) (ty := .int) (a0 := (1, .inl (fun _ => 0))) hx hb (ht _ kw_72) rfl hK hP hD hS hA (fun _ => rfl) (by decide) (by decide) (Nat.le_of_ble_eq_true rfl) (Nat.le_of_ble_eq_true rfl) (Nat.le_of_ble_eq_true rfl) dX4_init_15 (fun q3 k4 H hK hP hD hS => ?_)
  have hP : va_P (dC, dI) vwCl [(h0, .inr (4, [.null, .null, .ref q1, .int 0, .null])), (q1, .inl (k2, 400, .inl (fun _ => 0))), (q3, .inl (k4, 1, .inl (fun _ => 0)))] H := hP
  have hD : va_D A [(h0, .inr (4, [.null, .null, .ref q1, .int 0, .null])), (q1, .inl (k2, 400, .inl (fun _ => 0))), (q3, .inl (k4, 1, .inl (fun _ => 0)))] := hD
  have hK : va_K (dC, dI) vwCl [(k2, .int), (k4, .int)] s := hK
  refine W.widen (k := 2) (n := 401) (Nat.le_of_ble_eq_true rfl) (Nat.le_of_ble_eq_true rfl) ?_
  refine va_put (D := (dC, dI)) (ci := 4) (v := .ref q3) (ty := .array .int) (C := RX4) (T := TX4) (N := 5) hx hb ht inX4 tyX4 tyX4_ok nmX4 hown hK hP hD hS 0 rfl rfl 4 (by decide) (ht _ kw_393) (fun _ h9 => h9) rfl (by decide +kernel) rfl rfl (Nat.le_of_ble_eq_true rfl) dX4_init_17 (fun H locs hP hD hS => ?_)
  have hP : va_P (dC, dI) vwCl [(h0, .inr (4, [.null, .null, .ref q1, .int 0, .ref q3])), (q1, .inl (k2, 400, .inl (fun _ => 0))), (q3, .inl (k4, 1, .inl (fun _ => 0)))] H := hP
  have hD : va_D A [(h0, .inr (4, [.null, .null, .ref q1, .int 0, .ref q3])), (q1, .inl (k2, 400, .inl (fun _ => 0))), (q3, .inl (k4, 1, .inl (fun _ => 0)))] := hD
  refine lv_aload_n hx hb dX4_init_20 rfl (lv_at hl 0 rfl) ?_
  refine lv_aload_n hx hb dX4_init_21 rfl (lv_at hl 1 rfl) ?_
  refine va_putF (D := (dC, dI)) (ci := 4) (v := .ref se) (ty := .object "SportsHouse$Season") (C := RX4) (T := TX4) (N := 5) hx hb ht inX4 tyX4 tyX4_ok nmX4 hown hK hP hD hS 0 rfl rfl 0 (by decide) (ht _ kw_389) (fun _ h9 => h9) rfl hin rfl (by decide +kernel) rfl rfl (Nat.le_of_ble_eq_true rfl) dX4_init_22 (fun H locs hP hD hS => ?_)
  have hP : va_P (dC, dI) vwCl [(h0, .inr (4, [.ref se, .null, .ref q1, .int 0, .ref q3])), (q1, .inl (k2, 400, .inl (fun _ => 0))), (q3, .inl (k4, 1, .inl (fun _ => 0)))] H := hP
  have hD : va_D A [(h0, .inr (4, [.ref se, .null, .ref q1, .int 0, .ref q3])), (q1, .inl (k2, 400, .inl (fun _ => 0))), (q3, .inl (k4, 1, .inl (fun _ => 0)))] := hD
  refine lv_aload_n hx hb dX4_init_25 rfl (lv_at hl 0 rfl) ?_
  refine lv_aload_n hx hb dX4_init_26 rfl (lv_at hl 2 rfl) ?_
  refine va_putF (D := (dC, dI)) (ci := 4) (v := .ref th) (ty := .object "SportsHouse$Things") (C := RX4) (T := TX4) (N := 5) hx hb ht inX4 tyX4 tyX4_ok nmX4 hown hK hP hD hS 0 rfl rfl 1 (by decide) (ht _ kw_390) (fun _ h9 => h9) rfl hin rfl (by decide +kernel) rfl rfl (Nat.le_of_ble_eq_true rfl) dX4_init_27 (fun H locs hP hD hS => ?_)
  have hP : va_P (dC, dI) vwCl [(h0, .inr (4, [.ref se, .ref th, .ref q1, .int 0, .ref q3])), (q1, .inl (k2, 400, .inl (fun _ => 0))), (q3, .inl (k4, 1, .inl (fun _ => 0)))] H := hP
  have hD : va_D A [(h0, .inr (4, [.ref se, .ref th, .ref q1, .int 0, .ref q3])), (q1, .inl (k2, 400, .inl (fun _ => 0))), (q3, .inl (k4, 1, .inl (fun _ => 0)))] := hD
  have hP := hP.sub (ws' := [(h0, .inr (4, [.ref se, .ref th, .ref q1, .int 0, .ref q3])), (q3, .inl (k4, 1, .inl (fun _ => 0)))]) [0, 2] rfl
  have hD := hD.sub (ws' := [(h0, .inr (4, [.ref se, .ref th, .ref q1, .int 0, .ref q3])), (q3, .inl (k4, 1, .inl (fun _ => 0)))]) [0, 2] (by decide) rfl
  have hK := hK.sub (tys' := [(k4, .int)]) [1] rfl
  exact W.vret hx hb hr (fun t ht9 hW => ⟨⟨(), rfl, trivial, q1, q3, k4, by rw [ht9]; exact hP, va_K.moved hW.alike hK, hD⟩, hS.F ht9⟩) hS.2.2 dX4_init_30
end
section
abbrev cX10_init : ByteArray := prog_1_method_1_code
def yX10_init : MethodName := ⟨RX10, "<init>", "()V"⟩
theorem dX10_init_0 : decode cX10_init 0 = .ok (.aload_n 0, 1) := by decide +kernel
theorem dX10_init_1 : decode cX10_init 1 = .ok (.invokespecial 3, 3) := by decide +kernel
theorem kw_26 : Cond.methodLink RX10 3 objectInit ∈ lw_g := lw_at 26 (by decide +kernel) rfl
theorem dX10_init_4 : decode cX10_init 4 = .ok (.aload_n 0, 1) := by decide +kernel
theorem dX10_init_5 : decode cX10_init 5 = .ok (.new 9, 3) := by decide +kernel
theorem kw_29 : Cond.classLink RX10 9 RX5 ∈ lw_g := lw_at 29 (by decide +kernel) rfl
theorem kw_30 : Cond.instantiable RX5 10 ∈ lw_g := lw_at 30 (by decide +kernel) rfl
theorem kw_2 : Cond.initialized RX5 ∈ lw_g := lw_at 2 (by decide +kernel) rfl
theorem dX10_init_8 : decode cX10_init 8 = .ok (.dup, 1) := by decide +kernel
theorem dX10_init_9 : decode cX10_init 9 = .ok (.invokespecial 11, 3) := by decide +kernel
theorem kw_33 : Cond.code yX5_init cX5_init 1 none ∈ lw_g := lw_at 33 (by decide +kernel) rfl
theorem gc_X5_init : GoodIn lw_g (.code yX5_init cX5_init 1 none :: lw_g) := gi_c kw_33
theorem kw_32 : Cond.instanceMethod yX5_init ∈ lw_g := lw_at 32 (by decide +kernel) rfl
theorem dX10_init_12 : decode cX10_init 12 = .ok (.putfield 12, 3) := by decide +kernel
theorem dX10_init_15 : decode cX10_init 15 = .ok (.aload_n 0, 1) := by decide +kernel
theorem dX10_init_16 : decode cX10_init 16 = .ok (.new 16, 3) := by decide +kernel
theorem kw_73 : Cond.classLink RX10 16 RX8 ∈ lw_g := lw_at 73 (by decide +kernel) rfl
theorem kw_74 : Cond.instantiable RX8 14 ∈ lw_g := lw_at 74 (by decide +kernel) rfl
theorem kw_3 : Cond.initialized RX8 ∈ lw_g := lw_at 3 (by decide +kernel) rfl
theorem dX10_init_19 : decode cX10_init 19 = .ok (.dup, 1) := by decide +kernel
theorem dX10_init_20 : decode cX10_init 20 = .ok (.invokespecial 18, 3) := by decide +kernel
theorem kw_77 : Cond.code yX8_init cX8_init 1 none ∈ lw_g := lw_at 77 (by decide +kernel) rfl
theorem gc_X8_init : GoodIn lw_g (.code yX8_init cX8_init 1 none :: lw_g) := gi_c kw_77
theorem kw_76 : Cond.instanceMethod yX8_init ∈ lw_g := lw_at 76 (by decide +kernel) rfl
theorem dX10_init_23 : decode cX10_init 23 = .ok (.putfield 19, 3) := by decide +kernel
theorem dX10_init_26 : decode cX10_init 26 = .ok (.aload_n 0, 1) := by decide +kernel
theorem dX10_init_27 : decode cX10_init 27 = .ok (.new 23, 3) := by decide +kernel
theorem kw_136 : Cond.classLink RX10 23 RX6 ∈ lw_g := lw_at 136 (by decide +kernel) rfl
theorem kw_137 : Cond.instantiable RX6 16 ∈ lw_g := lw_at 137 (by decide +kernel) rfl
theorem kw_4 : Cond.initialized RX6 ∈ lw_g := lw_at 4 (by decide +kernel) rfl
theorem dX10_init_30 : decode cX10_init 30 = .ok (.dup, 1) := by decide +kernel
theorem dX10_init_31 : decode cX10_init 31 = .ok (.aload_n 0, 1) := by decide +kernel
theorem dX10_init_32 : decode cX10_init 32 = .ok (.getfield 19, 3) := by decide +kernel
theorem dX10_init_35 : decode cX10_init 35 = .ok (.invokespecial 25, 3) := by decide +kernel
theorem kw_140 : Cond.code yX6_init cX6_init 2 none ∈ lw_g := lw_at 140 (by decide +kernel) rfl
theorem gc_X6_init : GoodIn lw_g (.code yX6_init cX6_init 2 none :: lw_g) := gi_c kw_140
theorem kw_138 : Cond.methodLink RX10 25 yX6_init ∈ lw_g := lw_at 138 (by decide +kernel) rfl
theorem kw_139 : Cond.instanceMethod yX6_init ∈ lw_g := lw_at 139 (by decide +kernel) rfl
theorem dX10_init_38 : decode cX10_init 38 = .ok (.putfield 28, 3) := by decide +kernel
theorem dX10_init_41 : decode cX10_init 41 = .ok (.aload_n 0, 1) := by decide +kernel
theorem dX10_init_42 : decode cX10_init 42 = .ok (.new 32, 3) := by decide +kernel
theorem kw_205 : Cond.classLink RX10 32 RX7 ∈ lw_g := lw_at 205 (by decide +kernel) rfl
theorem kw_206 : Cond.instantiable RX7 14 ∈ lw_g := lw_at 206 (by decide +kernel) rfl
theorem kw_5 : Cond.initialized RX7 ∈ lw_g := lw_at 5 (by decide +kernel) rfl
theorem dX10_init_45 : decode cX10_init 45 = .ok (.dup, 1) := by decide +kernel
theorem dX10_init_46 : decode cX10_init 46 = .ok (.aload_n 0, 1) := by decide +kernel
theorem dX10_init_47 : decode cX10_init 47 = .ok (.getfield 28, 3) := by decide +kernel
theorem dX10_init_50 : decode cX10_init 50 = .ok (.invokespecial 34, 3) := by decide +kernel
theorem kw_209 : Cond.code yX7_init cX7_init 2 none ∈ lw_g := lw_at 209 (by decide +kernel) rfl
theorem gc_X7_init : GoodIn lw_g (.code yX7_init cX7_init 2 none :: lw_g) := gi_c kw_209
theorem kw_207 : Cond.methodLink RX10 34 yX7_init ∈ lw_g := lw_at 207 (by decide +kernel) rfl
theorem kw_208 : Cond.instanceMethod yX7_init ∈ lw_g := lw_at 208 (by decide +kernel) rfl
theorem dX10_init_53 : decode cX10_init 53 = .ok (.putfield 37, 3) := by decide +kernel
theorem kw_408 : Cond.fieldLink RX10 37 "SportsHouse" "standings" "LSportsHouse$Standings;" ∈ lw_g := lw_at 408 (by decide +kernel) rfl
theorem dX10_init_56 : decode cX10_init 56 = .ok (.aload_n 0, 1) := by decide +kernel
theorem dX10_init_57 : decode cX10_init 57 = .ok (.new 41, 3) := by decide +kernel
theorem kw_259 : Cond.classLink RX10 41 RX9 ∈ lw_g := lw_at 259 (by decide +kernel) rfl
theorem kw_260 : Cond.instantiable RX9 16 ∈ lw_g := lw_at 260 (by decide +kernel) rfl
theorem kw_6 : Cond.initialized RX9 ∈ lw_g := lw_at 6 (by decide +kernel) rfl
theorem dX10_init_60 : decode cX10_init 60 = .ok (.dup, 1) := by decide +kernel
theorem dX10_init_61 : decode cX10_init 61 = .ok (.aload_n 0, 1) := by decide +kernel
theorem dX10_init_62 : decode cX10_init 62 = .ok (.getfield 28, 3) := by decide +kernel
theorem dX10_init_65 : decode cX10_init 65 = .ok (.aload_n 0, 1) := by decide +kernel
theorem dX10_init_66 : decode cX10_init 66 = .ok (.getfield 37, 3) := by decide +kernel
theorem dX10_init_69 : decode cX10_init 69 = .ok (.invokespecial 43, 3) := by decide +kernel
theorem kw_263 : Cond.code yX9_init cX9_init 3 none ∈ lw_g := lw_at 263 (by decide +kernel) rfl
theorem gc_X9_init : GoodIn lw_g (.code yX9_init cX9_init 3 none :: lw_g) := gi_c kw_263
theorem kw_261 : Cond.methodLink RX10 43 yX9_init ∈ lw_g := lw_at 261 (by decide +kernel) rfl
theorem kw_262 : Cond.instanceMethod yX9_init ∈ lw_g := lw_at 262 (by decide +kernel) rfl
theorem dX10_init_72 : decode cX10_init 72 = .ok (.putfield 46, 3) := by decide +kernel
theorem dX10_init_75 : decode cX10_init 75 = .ok (.aload_n 0, 1) := by decide +kernel
theorem dX10_init_76 : decode cX10_init 76 = .ok (.new 50, 3) := by decide +kernel
theorem kw_320 : Cond.classLink RX10 50 RX1 ∈ lw_g := lw_at 320 (by decide +kernel) rfl
theorem kw_321 : Cond.instantiable RX1 16 ∈ lw_g := lw_at 321 (by decide +kernel) rfl
theorem kw_8 : Cond.initialized RX1 ∈ lw_g := lw_at 8 (by decide +kernel) rfl
theorem dX10_init_79 : decode cX10_init 79 = .ok (.dup, 1) := by decide +kernel
theorem dX10_init_80 : decode cX10_init 80 = .ok (.aload_n 0, 1) := by decide +kernel
theorem dX10_init_81 : decode cX10_init 81 = .ok (.getfield 19, 3) := by decide +kernel
theorem dX10_init_84 : decode cX10_init 84 = .ok (.invokespecial 52, 3) := by decide +kernel
theorem kw_324 : Cond.code yX1_init cX1_init 2 none ∈ lw_g := lw_at 324 (by decide +kernel) rfl
theorem gc_X1_init : GoodIn lw_g (.code yX1_init cX1_init 2 none :: lw_g) := gi_c kw_324
theorem kw_322 : Cond.methodLink RX10 52 yX1_init ∈ lw_g := lw_at 322 (by decide +kernel) rfl
theorem kw_323 : Cond.instanceMethod yX1_init ∈ lw_g := lw_at 323 (by decide +kernel) rfl
theorem dX10_init_87 : decode cX10_init 87 = .ok (.putfield 53, 3) := by decide +kernel
theorem dX10_init_90 : decode cX10_init 90 = .ok (.aload_n 0, 1) := by decide +kernel
theorem dX10_init_91 : decode cX10_init 91 = .ok (.new 57, 3) := by decide +kernel
theorem kw_383 : Cond.classLink RX10 57 RX4 ∈ lw_g := lw_at 383 (by decide +kernel) rfl
theorem kw_384 : Cond.instantiable RX4 5 ∈ lw_g := lw_at 384 (by decide +kernel) rfl
theorem kw_9 : Cond.initialized RX4 ∈ lw_g := lw_at 9 (by decide +kernel) rfl
theorem dX10_init_94 : decode cX10_init 94 = .ok (.dup, 1) := by decide +kernel
theorem dX10_init_95 : decode cX10_init 95 = .ok (.aload_n 0, 1) := by decide +kernel
theorem dX10_init_96 : decode cX10_init 96 = .ok (.getfield 28, 3) := by decide +kernel
theorem dX10_init_99 : decode cX10_init 99 = .ok (.aload_n 0, 1) := by decide +kernel
theorem dX10_init_100 : decode cX10_init 100 = .ok (.getfield 19, 3) := by decide +kernel
theorem dX10_init_103 : decode cX10_init 103 = .ok (.invokespecial 59, 3) := by decide +kernel
theorem kw_387 : Cond.code yX4_init cX4_init 3 none ∈ lw_g := lw_at 387 (by decide +kernel) rfl
theorem gc_X4_init : GoodIn lw_g (.code yX4_init cX4_init 3 none :: lw_g) := gi_c kw_387
theorem kw_385 : Cond.methodLink RX10 59 yX4_init ∈ lw_g := lw_at 385 (by decide +kernel) rfl
theorem kw_386 : Cond.instanceMethod yX4_init ∈ lw_g := lw_at 386 (by decide +kernel) rfl
theorem dX10_init_106 : decode cX10_init 106 = .ok (.putfield 62, 3) := by decide +kernel
theorem kw_411 : Cond.fieldLink RX10 62 "SportsHouse" "referees" "LSportsHouse$Referees;" ∈ lw_g := lw_at 411 (by decide +kernel) rfl
theorem dX10_init_109 : decode cX10_init 109 = .ok (.return_, 1) := by decide +kernel
set_option maxHeartbeats 4000000 in
set_option maxRecDepth 100000 in
theorem ct_X10_init (l : Launch) (dC : Nat → ClassId) (dI : Nat → Nat → Nat) (h0 : Nat) (sz : Nat)  : Met l yX10_init (.code yX10_init cX10_init 1 none :: lw_g) ({ frames := 2, cells := 57, slots := 6322, locals := 120 }) (ro_P dC dI [(h0, .inr (10, [.null, .null, .null, .null, .null, .null, .null]))] [] sz [.ref h0]) (va_Qv (fun (_ : Unit) => True) (fun _ t => ∃ (q1 : Nat) (q8 : Nat) (q23 : Nat) (q35 : Nat) (q47 : Nat) (q56 : Nat) (q67 : Nat) (q2 : Nat) (q3 : Nat) (q4 : Nat) (k5 : ClassId) (k6 : ClassId) (k7 : ClassId) (q9 : Nat) (q10 : Nat) (q11 : Nat) (q12 : Nat) (q13 : Nat) (q14 : Nat) (q15 : Nat) (q16 : Nat) (q17 : Nat) (k18 : ClassId) (k19 : ClassId) (k20 : ClassId) (k21 : ClassId) (k22 : ClassId) (q24 : Nat) (q25 : Nat) (q26 : Nat) (q27 : Nat) (q28 : Nat) (q29 : Nat) (q30 : Nat) (q31 : Nat) (q32 : Nat) (q33 : Nat) (k34 : ClassId) (q48 : Nat) (q49 : Nat) (q50 : Nat) (q51 : Nat) (q52 : Nat) (q53 : Nat) (q54 : Nat) (q55 : Nat) (q57 : Nat) (q58 : Nat) (q59 : Nat) (q60 : Nat) (q61 : Nat) (q62 : Nat) (q63 : Nat) (k64 : ClassId) (k65 : ClassId) (k66 : ClassId) (q68 : Nat) (q69 : Nat) (k70 : ClassId), va_P (dC, dI) vwCl [(h0, .inr (10, [.ref q1, .ref q8, .ref q23, .ref q35, .ref q47, .ref q56, .ref q67])), (q1, .inr (5, [.ref q2, .int 0, .int 0, .int (-1), .ref q3, .ref q4, .int 0, .int 0, .int 0, .int 0])), (q2, .inl (k5, 400, .inl (fun _ => 0))), (q3, .inl (k6, 16, .inl (fun _ => 0))), (q4, .inl (k7, 7, .inl (fun _ => 0))), (q8, .inr (8, [.ref q9, .ref q10, .int 0, .int 0, .ref q11, .int 0, .ref q12, .ref q13, .ref q14, .ref q15, .ref q16, .ref q17, .int 0, .int 0])), (q9, .inl (k18, 12, .inl (fun _ => 0))), (q10, .inl (k19, 12, .inl (fun _ => 0))), (q11, .inl (k20, 200, .inl (fun _ => 0))), (q16, .inl (k21, 8, .inl (fun _ => 0))), (q17, .inl (k22, 8, .inl (fun _ => 0))), (q23, .inr (6, [.ref q8, .ref q24, .int 0, .ref q25, .int 0, .int 0, .int 0, .ref q26, .ref q27, .ref q28, .ref q29, .ref q30, .int 0, .ref q31, .ref q32, .ref q33])), (q24, .inl (k34, 4, .inr (.inr (.inr (.inr (fun _ => none)))))), (q47, .inr (9, [.ref q23, .ref q35, .int (-1), .int 0, .ref q48, .null, .int 0, .ref q49, .ref q50, .int 0, .ref q51, .ref q52, .ref q53, .ref q54, .ref q55, .null])), (q56, .inr (1, [.ref q8, .int 0, .int 0, .int 0, .int 0, .int 0, .int 0, .int 0, .ref q57, .ref q58, .ref q59, .ref q60, .ref q61, .int 0, .ref q62, .ref q63])), (q57, .inl (k64, 12, .inl (fun _ => 0))), (q58, .inl (k65, 12, .inl (fun _ => 0))), (q59, .inl (k66, 3, .inl (fun _ => 0))), (q67, .inr (4, [.ref q23, .ref q8, .ref q68, .int 0, .ref q69])), (q69, .inl (k70, 1, .inl (fun _ => 0)))] t.heap ∧ va_K (dC, dI) vwCl [(k5, .int), (k6, .int), (k7, .int), (k18, .int), (k19, .int), (k20, .int), (k21, .int), (k22, .int), (k34, .object RX0), (k64, .int), (k65, .int), (k66, .int), (k70, .int)] t ∧ va_D (va_A [(h0, .inr (10, [.null, .null, .null, .null, .null, .null, .null]))] sz) [(h0, .inr (10, [.ref q1, .ref q8, .ref q23, .ref q35, .ref q47, .ref q56, .ref q67])), (q1, .inr (5, [.ref q2, .int 0, .int 0, .int (-1), .ref q3, .ref q4, .int 0, .int 0, .int 0, .int 0])), (q2, .inl (k5, 400, .inl (fun _ => 0))), (q3, .inl (k6, 16, .inl (fun _ => 0))), (q4, .inl (k7, 7, .inl (fun _ => 0))), (q8, .inr (8, [.ref q9, .ref q10, .int 0, .int 0, .ref q11, .int 0, .ref q12, .ref q13, .ref q14, .ref q15, .ref q16, .ref q17, .int 0, .int 0])), (q9, .inl (k18, 12, .inl (fun _ => 0))), (q10, .inl (k19, 12, .inl (fun _ => 0))), (q11, .inl (k20, 200, .inl (fun _ => 0))), (q16, .inl (k21, 8, .inl (fun _ => 0))), (q17, .inl (k22, 8, .inl (fun _ => 0))), (q23, .inr (6, [.ref q8, .ref q24, .int 0, .ref q25, .int 0, .int 0, .int 0, .ref q26, .ref q27, .ref q28, .ref q29, .ref q30, .int 0, .ref q31, .ref q32, .ref q33])), (q24, .inl (k34, 4, .inr (.inr (.inr (.inr (fun _ => none)))))), (q47, .inr (9, [.ref q23, .ref q35, .int (-1), .int 0, .ref q48, .null, .int 0, .ref q49, .ref q50, .int 0, .ref q51, .ref q52, .ref q53, .ref q54, .ref q55, .null])), (q56, .inr (1, [.ref q8, .int 0, .int 0, .int 0, .int 0, .int 0, .int 0, .int 0, .ref q57, .ref q58, .ref q59, .ref q60, .ref q61, .int 0, .ref q62, .ref q63])), (q57, .inl (k64, 12, .inl (fun _ => 0))), (q58, .inl (k65, 12, .inl (fun _ => 0))), (q59, .inl (k66, 3, .inl (fun _ => 0))), (q67, .inr (4, [.ref q23, .ref q8, .ref q68, .int 0, .ref q69])), (q69, .inl (k70, 1, .inl (fun _ => 0)))]) (va_A [(h0, .inr (10, [.null, .null, .null, .null, .null, .null, .null]))] sz)) 57 6322 (va_A [(h0, .inr (10, [.null, .null, .null, .null, .null, .null, .null]))] sz) := by
  refine ro_entry (by decide) (Nat.le_of_ble_eq_true rfl) ?_
  intro p e s m below meth c ls hx hb hr hlocks ht hown hin hml hsz hP hK hD hE hl
  subst hsz
  have hD := hD.self (sz := s.heap.size)
  generalize hAe : va_A [(h0, .inr (10, [.null, .null, .null, .null, .null, .null, .null]))] s.heap.size = A at hD ⊢
  have hA : ∀ q, s.heap.size ≤ q → A q := fun q h => by rw [← hAe]; exact Or.inr h
  have hS : va_S A s.heap s.heap [] := va_S.rf
  have hl : lv_has ls 1 [(0, .ref h0)] := hl
  have hown : s.vm.findClass RX10 = some m.cls := hown
  refine lv_aload_n hx hb dX10_init_0 rfl (lv_at hl 0 rfl) ?_
  refine W.objInit hx hb hown (ht _ kw_26) (ht _ kw_27) (ht _ kw_28) rfl (by rw [hml]; exact hl.1) rfl dX10_init_1 (Nat.le_of_ble_eq_true rfl) (Nat.le_of_ble_eq_true rfl) ?_
  refine W.eq (g2 := F0 m 4 ls []) rfl ?_
  refine lv_aload_n hx hb dX10_init_4 rfl (lv_at hl 0 rfl) ?_
  refine va_new (ci := 5) (fs := [.null, .int 0, .int 0, .int 0, .null, .null, .int 0, .int 0, .int 0, .int 0]) (C := RX5) (T := TX5) (N := 10) hx hb ht inX5 tyX5 tyX5_ok hown (ht _ kw_29) (ht _ kw_30) (ht _ kw_2) hK hP hD hS hA rfl nf_X5 (Nat.le_of_ble_eq_true rfl) (Nat.le_of_ble_eq_true rfl) dX10_init_5 (fun q1 H hP hD hS => ?_)
  have hP : va_P (dC, dI) vwCl [(h0, .inr (10, [.null, .null, .null, .null, .null, .null, .null])), (q1, .inr (5, [.null, .int 0, .int 0, .int 0, .null, .null, .int 0, .int 0, .int 0, .int 0]))] H := hP
  have hD : va_D A [(h0, .inr (10, [.null, .null, .null, .null, .null, .null, .null])), (q1, .inr (5, [.null, .int 0, .int 0, .int 0, .null, .null, .int 0, .int 0, .int 0, .int 0]))] := hD
  refine W.widen (k := 1) (n := 10) (Nat.le_of_ble_eq_true rfl) (Nat.le_of_ble_eq_true rfl) ?_
  refine lv_dup hx hb dX10_init_8 rfl ?_
  have hPc := hP.sub (ws' := [(q1, .inr (5, [.null, .int 0, .int 0, .int 0, .null, .null, .int 0, .int 0, .int 0, .int 0]))]) [1] rfl
  have hDc := hD.sub (ws' := [(q1, .inr (5, [.null, .int 0, .int 0, .int 0, .null, .null, .int 0, .int 0, .int 0, .int 0]))]) [1] (by decide) rfl
  have hKc := hK.sub (tys' := []) [] rfl
  have hFc := va_free (wc := [(q1, .inr (5, [.null, .int 0, .int 0, .int 0, .null, .null, .int 0, .int 0, .int 0, .int 0]))]) hD hS hA [1] rfl
  refine va_callv (va_runIN (As := []) (rest := [.ref q1, .ref h0]) ⟨hx, hb, hml, hown, ht⟩ (ct_X5_init l dC dI q1 _ ) ⟨va_cnB 0 ht gc_X5_init rfl rfl rfl hE.2.2.2.1 (ht _ kw_2) (by decide +kernel) ⟨Nat.le_of_ble_eq_true rfl, Nat.le_of_ble_eq_true rfl⟩, rfl, ht _ kw_32⟩ ⟨ro_blind, fun U hU hW => ⟨rfl, by rw [hU], by rw [hU]; exact hPc, va_K.moved hW.alike hKc, hDc.weaken (fun _ _ _ _ => trivial), ex_warm hW hE⟩⟩ rfl rfl hl.1 rfl (lv_room (Nat.le_of_ble_eq_true rfl)) dX10_init_9 ⟨Nat.le_of_ble_eq_true rfl, Nat.le_of_ble_eq_true rfl⟩) hS (fun q _ h => hFc q h) hFc (fun u t H1 locs ht1 hvm hw hB hz1 hk1 hS => ?_)
  obtain ⟨q2, q3, q4, k5, k6, k7, hP1, hK1, hD1⟩ := hB
  rw [ht1] at hP1
  obtain ⟨hP, hD⟩ := va_join (wr := [(h0, .inr (10, [.null, .null, .null, .null, .null, .null, .null]))]) (w1 := [(q1, .inr (5, [.ref q2, .int 0, .int 0, .int (-1), .ref q3, .ref q4, .int 0, .int 0, .int 0, .int 0])), (q2, .inl (k5, 400, .inl (fun _ => 0))), (q3, .inl (k6, 16, .inl (fun _ => 0))), (q4, .inl (k7, 7, .inl (fun _ => 0)))]) hP hD [1] [0] rfl rfl (by decide) (by decide) hk1 hFc hP1 hD1
  generalize H1 = H at hP hS ⊢
  have hK1 := va_K.moved hvm.symm hK1
  have hK := hK.app (hK1.sub (tys' := [(k5, .int), (k6, .int), (k7, .int)]) [0, 1, 2] rfl)
  have hK : va_K (dC, dI) vwCl [(k5, .int), (k6, .int), (k7, .int)] s := hK
  have hP : va_P (dC, dI) vwCl [(h0, .inr (10, [.null, .null, .null, .null, .null, .null, .null])), (q1, .inr (5, [.ref q2, .int 0, .int 0, .int (-1), .ref q3, .ref q4, .int 0, .int 0, .int 0, .int 0])), (q2, .inl (k5, 400, .inl (fun _ => 0))), (q3, .inl (k6, 16, .inl (fun _ => 0))), (q4, .inl (k7, 7, .inl (fun _ => 0)))] H := hP
  have hD : va_D A [(h0, .inr (10, [.null, .null, .null, .null, .null, .null, .null])), (q1, .inr (5, [.ref q2, .int 0, .int 0, .int (-1), .ref q3, .ref q4, .int 0, .int 0, .int 0, .int 0])), (q2, .inl (k5, 400, .inl (fun _ => 0))), (q3, .inl (k6, 16, .inl (fun _ => 0))), (q4, .inl (k7, 7, .inl (fun _ => 0)))] := hD
  refine W.widen (k := 4) (n := 433) (Nat.le_of_ble_eq_true rfl) (Nat.le_of_ble_eq_true rfl) ?_
  refine va_putF (D := (dC, dI)) (ci := 10) (v := .ref q1) (ty := .object "SportsHouse$RuleText") (C := RX10) (T := TX10) (N := 7) hx hb ht inX10 tyX10 tyX10_ok nmX10 hown hK hP hD hS 0 rfl rfl 0 (by decide) (ht _ kw_405) (fun _ h9 => h9) rfl hin rfl (by decide +kernel) rfl rfl (Nat.le_of_ble_eq_true rfl) dX10_init_12 (fun H locs hP hD hS => ?_)
  have hP : va_P (dC, dI) vwCl [(h0, .inr (10, [.ref q1, .null, .null, .null, .null, .null, .null])), (q1, .inr (5, [.ref q2, .int 0, .int 0, .int (-1), .ref q3, .ref q4, .int 0, .int 0, .int 0, .int 0])), (q2, .inl (k5, 400, .inl (fun _ => 0))), (q3, .inl (k6, 16, .inl (fun _ => 0))), (q4, .inl (k7, 7, .inl (fun _ => 0)))] H := hP
  have hD : va_D A [(h0, .inr (10, [.ref q1, .null, .null, .null, .null, .null, .null])), (q1, .inr (5, [.ref q2, .int 0, .int 0, .int (-1), .ref q3, .ref q4, .int 0, .int 0, .int 0, .int 0])), (q2, .inl (k5, 400, .inl (fun _ => 0))), (q3, .inl (k6, 16, .inl (fun _ => 0))), (q4, .inl (k7, 7, .inl (fun _ => 0)))] := hD
  refine lv_aload_n hx hb dX10_init_15 rfl (lv_at hl 0 rfl) ?_
  refine va_new (ci := 8) (fs := [.null, .null, .int 0, .int 0, .null, .int 0, .null, .null, .null, .null, .null, .null, .int 0, .int 0]) (C := RX8) (T := TX8) (N := 14) hx hb ht inX8 tyX8 tyX8_ok hown (ht _ kw_73) (ht _ kw_74) (ht _ kw_3) hK hP hD hS hA rfl nf_X8 (Nat.le_of_ble_eq_true rfl) (Nat.le_of_ble_eq_true rfl) dX10_init_16 (fun q8 H hP hD hS => ?_)
  have hP : va_P (dC, dI) vwCl [(h0, .inr (10, [.ref q1, .null, .null, .null, .null, .null, .null])), (q1, .inr (5, [.ref q2, .int 0, .int 0, .int (-1), .ref q3, .ref q4, .int 0, .int 0, .int 0, .int 0])), (q2, .inl (k5, 400, .inl (fun _ => 0))), (q3, .inl (k6, 16, .inl (fun _ => 0))), (q4, .inl (k7, 7, .inl (fun _ => 0))), (q8, .inr (8, [.null, .null, .int 0, .int 0, .null, .int 0, .null, .null, .null, .null, .null, .null, .int 0, .int 0]))] H := hP
  have hD : va_D A [(h0, .inr (10, [.ref q1, .null, .null, .null, .null, .null, .null])), (q1, .inr (5, [.ref q2, .int 0, .int 0, .int (-1), .ref q3, .ref q4, .int 0, .int 0, .int 0, .int 0])), (q2, .inl (k5, 400, .inl (fun _ => 0))), (q3, .inl (k6, 16, .inl (fun _ => 0))), (q4, .inl (k7, 7, .inl (fun _ => 0))), (q8, .inr (8, [.null, .null, .int 0, .int 0, .null, .int 0, .null, .null, .null, .null, .null, .null, .int 0, .int 0]))] := hD
  refine W.widen (k := 5) (n := 447) (Nat.le_of_ble_eq_true rfl) (Nat.le_of_ble_eq_true rfl) ?_
  refine lv_dup hx hb dX10_init_19 rfl ?_
  have hPc := hP.sub (ws' := [(q8, .inr (8, [.null, .null, .int 0, .int 0, .null, .int 0, .null, .null, .null, .null, .null, .null, .int 0, .int 0]))]) [5] rfl
  have hDc := hD.sub (ws' := [(q8, .inr (8, [.null, .null, .int 0, .int 0, .null, .int 0, .null, .null, .null, .null, .null, .null, .int 0, .int 0]))]) [5] (by decide) rfl
  have hKc := hK.sub (tys' := []) [] rfl
  have hFc := va_free (wc := [(q8, .inr (8, [.null, .null, .int 0, .int 0, .null, .int 0, .null, .null, .null, .null, .null, .null, .int 0, .int 0]))]) hD hS hA [5] rfl
  refine va_callv (va_runIN (As := []) (rest := [.ref q8, .ref h0]) ⟨hx, hb, hml, hown, ht⟩ (ct_X8_init l dC dI q8 _ ) ⟨va_cnB 0 ht gc_X8_init rfl rfl rfl hE.2.2.2.2 (ht _ kw_3) (by decide +kernel) ⟨Nat.le_of_ble_eq_true rfl, Nat.le_of_ble_eq_true rfl⟩, rfl, ht _ kw_76⟩ ⟨ro_blind, fun U hU hW => ⟨rfl, by rw [hU], by rw [hU]; exact hPc, va_K.moved hW.alike hKc, hDc.weaken (fun _ _ _ _ => trivial), ex_warm hW hE⟩⟩ rfl rfl hl.1 rfl (lv_room (Nat.le_of_ble_eq_true rfl)) dX10_init_20 ⟨Nat.le_of_ble_eq_true rfl, Nat.le_of_ble_eq_true rfl⟩) hS (fun q _ h => hFc q h) hFc (fun u t H1 locs ht1 hvm hw hB hz1 hk1 hS => ?_)
  obtain ⟨q9, q10, q11, q12, q13, q14, q15, q16, q17, k18, k19, k20, k21, k22, hP1, hK1, hD1⟩ := hB
  rw [ht1] at hP1
  obtain ⟨hP, hD⟩ := va_join (wr := [(h0, .inr (10, [.ref q1, .null, .null, .null, .null, .null, .null])), (q1, .inr (5, [.ref q2, .int 0, .int 0, .int (-1), .ref q3, .ref q4, .int 0, .int 0, .int 0, .int 0])), (q2, .inl (k5, 400, .inl (fun _ => 0))), (q3, .inl (k6, 16, .inl (fun _ => 0))), (q4, .inl (k7, 7, .inl (fun _ => 0)))]) (w1 := [(q8, .inr (8, [.ref q9, .ref q10, .int 0, .int 0, .ref q11, .int 0, .ref q12, .ref q13, .ref q14, .ref q15, .ref q16, .ref q17, .int 0, .int 0])), (q9, .inl (k18, 12, .inl (fun _ => 0))), (q10, .inl (k19, 12, .inl (fun _ => 0))), (q11, .inl (k20, 200, .inl (fun _ => 0))), (q16, .inl (k21, 8, .inl (fun _ => 0))), (q17, .inl (k22, 8, .inl (fun _ => 0)))]) hP hD [5] [0, 1, 2, 3, 4] rfl rfl (by decide) (by decide) hk1 hFc hP1 hD1
  generalize H1 = H at hP hS ⊢
  have hK1 := va_K.moved hvm.symm hK1
  have hK := hK.app (hK1.sub (tys' := [(k18, .int), (k19, .int), (k20, .int), (k21, .int), (k22, .int)]) [0, 1, 2, 3, 4] rfl)
  have hK : va_K (dC, dI) vwCl [(k5, .int), (k6, .int), (k7, .int), (k18, .int), (k19, .int), (k20, .int), (k21, .int), (k22, .int)] s := hK
  have hP : va_P (dC, dI) vwCl [(h0, .inr (10, [.ref q1, .null, .null, .null, .null, .null, .null])), (q1, .inr (5, [.ref q2, .int 0, .int 0, .int (-1), .ref q3, .ref q4, .int 0, .int 0, .int 0, .int 0])), (q2, .inl (k5, 400, .inl (fun _ => 0))), (q3, .inl (k6, 16, .inl (fun _ => 0))), (q4, .inl (k7, 7, .inl (fun _ => 0))), (q8, .inr (8, [.ref q9, .ref q10, .int 0, .int 0, .ref q11, .int 0, .ref q12, .ref q13, .ref q14, .ref q15, .ref q16, .ref q17, .int 0, .int 0])), (q9, .inl (k18, 12, .inl (fun _ => 0))), (q10, .inl (k19, 12, .inl (fun _ => 0))), (q11, .inl (k20, 200, .inl (fun _ => 0))), (q16, .inl (k21, 8, .inl (fun _ => 0))), (q17, .inl (k22, 8, .inl (fun _ => 0)))] H := hP
  have hD : va_D A [(h0, .inr (10, [.ref q1, .null, .null, .null, .null, .null, .null])), (q1, .inr (5, [.ref q2, .int 0, .int 0, .int (-1), .ref q3, .ref q4, .int 0, .int 0, .int 0, .int 0])), (q2, .inl (k5, 400, .inl (fun _ => 0))), (q3, .inl (k6, 16, .inl (fun _ => 0))), (q4, .inl (k7, 7, .inl (fun _ => 0))), (q8, .inr (8, [.ref q9, .ref q10, .int 0, .int 0, .ref q11, .int 0, .ref q12, .ref q13, .ref q14, .ref q15, .ref q16, .ref q17, .int 0, .int 0])), (q9, .inl (k18, 12, .inl (fun _ => 0))), (q10, .inl (k19, 12, .inl (fun _ => 0))), (q11, .inl (k20, 200, .inl (fun _ => 0))), (q16, .inl (k21, 8, .inl (fun _ => 0))), (q17, .inl (k22, 8, .inl (fun _ => 0)))] := hD
  refine W.widen (k := 14) (n := 1887) (Nat.le_of_ble_eq_true rfl) (Nat.le_of_ble_eq_true rfl) ?_
  refine va_putF (D := (dC, dI)) (ci := 10) (v := .ref q8) (ty := .object "SportsHouse$Things") (C := RX10) (T := TX10) (N := 7) hx hb ht inX10 tyX10 tyX10_ok nmX10 hown hK hP hD hS 0 rfl rfl 1 (by decide) (ht _ kw_406) (fun _ h9 => h9) rfl hin rfl (by decide +kernel) rfl rfl (Nat.le_of_ble_eq_true rfl) dX10_init_23 (fun H locs hP hD hS => ?_)
  have hP : va_P (dC, dI) vwCl [(h0, .inr (10, [.ref q1, .ref q8, .null, .null, .null, .null, .null])), (q1, .inr (5, [.ref q2, .int 0, .int 0, .int (-1), .ref q3, .ref q4, .int 0, .int 0, .int 0, .int 0])), (q2, .inl (k5, 400, .inl (fun _ => 0))), (q3, .inl (k6, 16, .inl (fun _ => 0))), (q4, .inl (k7, 7, .inl (fun _ => 0))), (q8, .inr (8, [.ref q9, .ref q10, .int 0, .int 0, .ref q11, .int 0, .ref q12, .ref q13, .ref q14, .ref q15, .ref q16, .ref q17, .int 0, .int 0])), (q9, .inl (k18, 12, .inl (fun _ => 0))), (q10, .inl (k19, 12, .inl (fun _ => 0))), (q11, .inl (k20, 200, .inl (fun _ => 0))), (q16, .inl (k21, 8, .inl (fun _ => 0))), (q17, .inl (k22, 8, .inl (fun _ => 0)))] H := hP
  have hD : va_D A [(h0, .inr (10, [.ref q1, .ref q8, .null, .null, .null, .null, .null])), (q1, .inr (5, [.ref q2, .int 0, .int 0, .int (-1), .ref q3, .ref q4, .int 0, .int 0, .int 0, .int 0])), (q2, .inl (k5, 400, .inl (fun _ => 0))), (q3, .inl (k6, 16, .inl (fun _ => 0))), (q4, .inl (k7, 7, .inl (fun _ => 0))), (q8, .inr (8, [.ref q9, .ref q10, .int 0, .int 0, .ref q11, .int 0, .ref q12, .ref q13, .ref q14, .ref q15, .ref q16, .ref q17, .int 0, .int 0])), (q9, .inl (k18, 12, .inl (fun _ => 0))), (q10, .inl (k19, 12, .inl (fun _ => 0))), (q11, .inl (k20, 200, .inl (fun _ => 0))), (q16, .inl (k21, 8, .inl (fun _ => 0))), (q17, .inl (k22, 8, .inl (fun _ => 0)))] := hD
  refine lv_aload_n hx hb dX10_init_26 rfl (lv_at hl 0 rfl) ?_
  refine va_new (ci := 6) (fs := [.null, .null, .int 0, .null, .int 0, .int 0, .int 0, .null, .null, .null, .null, .null, .int 0, .null, .null, .null]) (C := RX6) (T := TX6) (N := 16) hx hb ht inX6 tyX6 tyX6_ok hown (ht _ kw_136) (ht _ kw_137) (ht _ kw_4) hK hP hD hS hA rfl nf_X6 (Nat.le_of_ble_eq_true rfl) (Nat.le_of_ble_eq_true rfl) dX10_init_27 (fun q23 H hP hD hS => ?_)
  have hP : va_P (dC, dI) vwCl [(h0, .inr (10, [.ref q1, .ref q8, .null, .null, .null, .null, .null])), (q1, .inr (5, [.ref q2, .int 0, .int 0, .int (-1), .ref q3, .ref q4, .int 0, .int 0, .int 0, .int 0])), (q2, .inl (k5, 400, .inl (fun _ => 0))), (q3, .inl (k6, 16, .inl (fun _ => 0))), (q4, .inl (k7, 7, .inl (fun _ => 0))), (q8, .inr (8, [.ref q9, .ref q10, .int 0, .int 0, .ref q11, .int 0, .ref q12, .ref q13, .ref q14, .ref q15, .ref q16, .ref q17, .int 0, .int 0])), (q9, .inl (k18, 12, .inl (fun _ => 0))), (q10, .inl (k19, 12, .inl (fun _ => 0))), (q11, .inl (k20, 200, .inl (fun _ => 0))), (q16, .inl (k21, 8, .inl (fun _ => 0))), (q17, .inl (k22, 8, .inl (fun _ => 0))), (q23, .inr (6, [.null, .null, .int 0, .null, .int 0, .int 0, .int 0, .null, .null, .null, .null, .null, .int 0, .null, .null, .null]))] H := hP
  have hD : va_D A [(h0, .inr (10, [.ref q1, .ref q8, .null, .null, .null, .null, .null])), (q1, .inr (5, [.ref q2, .int 0, .int 0, .int (-1), .ref q3, .ref q4, .int 0, .int 0, .int 0, .int 0])), (q2, .inl (k5, 400, .inl (fun _ => 0))), (q3, .inl (k6, 16, .inl (fun _ => 0))), (q4, .inl (k7, 7, .inl (fun _ => 0))), (q8, .inr (8, [.ref q9, .ref q10, .int 0, .int 0, .ref q11, .int 0, .ref q12, .ref q13, .ref q14, .ref q15, .ref q16, .ref q17, .int 0, .int 0])), (q9, .inl (k18, 12, .inl (fun _ => 0))), (q10, .inl (k19, 12, .inl (fun _ => 0))), (q11, .inl (k20, 200, .inl (fun _ => 0))), (q16, .inl (k21, 8, .inl (fun _ => 0))), (q17, .inl (k22, 8, .inl (fun _ => 0))), (q23, .inr (6, [.null, .null, .int 0, .null, .int 0, .int 0, .int 0, .null, .null, .null, .null, .null, .int 0, .null, .null, .null]))] := hD
  refine W.widen (k := 15) (n := 1903) (Nat.le_of_ble_eq_true rfl) (Nat.le_of_ble_eq_true rfl) ?_
  refine lv_dup hx hb dX10_init_30 rfl ?_
  refine lv_aload_n hx hb dX10_init_31 rfl (lv_at hl 0 rfl) ?_
  refine va_get (D := (dC, dI)) (ci := 10) (v := .ref q8) (C := RX10) (T := TX10) (N := 7) hx hb ht inX10 hown hK hP 0 rfl rfl 1 (by decide) (ht _ kw_406) (fun _ h9 => h9) rfl dX10_init_32 ?_
  have hPc := hP.sub (ws' := [(q23, .inr (6, [.null, .null, .int 0, .null, .int 0, .int 0, .int 0, .null, .null, .null, .null, .null, .int 0, .null, .null, .null]))]) [11] rfl
  have hDc := hD.sub (ws' := [(q23, .inr (6, [.null, .null, .int 0, .null, .int 0, .int 0, .int 0, .null, .null, .null, .null, .null, .int 0, .null, .null, .null]))]) [11] (by decide) rfl
  have hKc := hK.sub (tys' := []) [] rfl
  have hFc := va_free (wc := [(q23, .inr (6, [.null, .null, .int 0, .null, .int 0, .int 0, .int 0, .null, .null, .null, .null, .null, .int 0, .null, .null, .null]))]) hD hS hA [11] rfl
  refine va_callv (va_runI (As := [.ref q8]) (rest := [.ref q23, .ref h0]) ⟨hx, hb, hml, hown, ht⟩ (ct_X6_init l dC dI q23 q8 _ ) (cwI 1 ht gc_X6_init rfl rfl rfl (ht _ kw_4) (ht _ kw_138) (ht _ kw_139) rfl (by decide +kernel) ⟨Nat.le_of_ble_eq_true rfl, Nat.le_of_ble_eq_true rfl⟩) ⟨ro_blind, fun U hU hW => ⟨rfl, by rw [hU], by rw [hU]; exact hPc, va_K.moved hW.alike hKc, hDc.weaken (fun _ _ _ _ => trivial), ex_warm hW hE⟩⟩ rfl rfl hl.1 rfl (lv_room (Nat.le_of_ble_eq_true rfl)) dX10_init_35 ⟨Nat.le_of_ble_eq_true rfl, Nat.le_of_ble_eq_true rfl⟩) hS (fun q _ h => hFc q h) hFc (fun u t H1 locs ht1 hvm hw hB hz1 hk1 hS => ?_)
  obtain ⟨q24, q25, q26, q27, q28, q29, q30, q31, q32, q33, k34, hP1, hK1, hD1⟩ := hB
  rw [ht1] at hP1
  obtain ⟨hP, hD⟩ := va_join (wr := [(h0, .inr (10, [.ref q1, .ref q8, .null, .null, .null, .null, .null])), (q1, .inr (5, [.ref q2, .int 0, .int 0, .int (-1), .ref q3, .ref q4, .int 0, .int 0, .int 0, .int 0])), (q2, .inl (k5, 400, .inl (fun _ => 0))), (q3, .inl (k6, 16, .inl (fun _ => 0))), (q4, .inl (k7, 7, .inl (fun _ => 0))), (q8, .inr (8, [.ref q9, .ref q10, .int 0, .int 0, .ref q11, .int 0, .ref q12, .ref q13, .ref q14, .ref q15, .ref q16, .ref q17, .int 0, .int 0])), (q9, .inl (k18, 12, .inl (fun _ => 0))), (q10, .inl (k19, 12, .inl (fun _ => 0))), (q11, .inl (k20, 200, .inl (fun _ => 0))), (q16, .inl (k21, 8, .inl (fun _ => 0))), (q17, .inl (k22, 8, .inl (fun _ => 0)))]) (w1 := [(q23, .inr (6, [.ref q8, .ref q24, .int 0, .ref q25, .int 0, .int 0, .int 0, .ref q26, .ref q27, .ref q28, .ref q29, .ref q30, .int 0, .ref q31, .ref q32, .ref q33])), (q24, .inl (k34, 4, .inr (.inr (.inr (.inr (fun _ => none))))))]) hP hD [11] [0, 1, 2, 3, 4, 5, 6, 7, 8, 9, 10] rfl rfl (by decide) (by decide) hk1 hFc hP1 hD1
  generalize H1 = H at hP hS ⊢
  have hK1 := va_K.moved hvm.symm hK1
  have hK := hK.app (hK1.sub (tys' := [(k34, .object RX0)]) [0] rfl)
  have hK : va_K (dC, dI) vwCl [(k5, .int), (k6, .int), (k7, .int), (k18, .int), (k19, .int), (k20, .int), (k21, .int), (k22, .int), (k34, .object RX0)] s := hK
  have hP : va_P (dC, dI) vwCl [(h0, .inr (10, [.ref q1, .ref q8, .null, .null, .null, .null, .null])), (q1, .inr (5, [.ref q2, .int 0, .int 0, .int (-1), .ref q3, .ref q4, .int 0, .int 0, .int 0, .int 0])), (q2, .inl (k5, 400, .inl (fun _ => 0))), (q3, .inl (k6, 16, .inl (fun _ => 0))), (q4, .inl (k7, 7, .inl (fun _ => 0))), (q8, .inr (8, [.ref q9, .ref q10, .int 0, .int 0, .ref q11, .int 0, .ref q12, .ref q13, .ref q14, .ref q15, .ref q16, .ref q17, .int 0, .int 0])), (q9, .inl (k18, 12, .inl (fun _ => 0))), (q10, .inl (k19, 12, .inl (fun _ => 0))), (q11, .inl (k20, 200, .inl (fun _ => 0))), (q16, .inl (k21, 8, .inl (fun _ => 0))), (q17, .inl (k22, 8, .inl (fun _ => 0))), (q23, .inr (6, [.ref q8, .ref q24, .int 0, .ref q25, .int 0, .int 0, .int 0, .ref q26, .ref q27, .ref q28, .ref q29, .ref q30, .int 0, .ref q31, .ref q32, .ref q33])), (q24, .inl (k34, 4, .inr (.inr (.inr (.inr (fun _ => none))))))] H := hP
  have hD : va_D A [(h0, .inr (10, [.ref q1, .ref q8, .null, .null, .null, .null, .null])), (q1, .inr (5, [.ref q2, .int 0, .int 0, .int (-1), .ref q3, .ref q4, .int 0, .int 0, .int 0, .int 0])), (q2, .inl (k5, 400, .inl (fun _ => 0))), (q3, .inl (k6, 16, .inl (fun _ => 0))), (q4, .inl (k7, 7, .inl (fun _ => 0))), (q8, .inr (8, [.ref q9, .ref q10, .int 0, .int 0, .ref q11, .int 0, .ref q12, .ref q13, .ref q14, .ref q15, .ref q16, .ref q17, .int 0, .int 0])), (q9, .inl (k18, 12, .inl (fun _ => 0))), (q10, .inl (k19, 12, .inl (fun _ => 0))), (q11, .inl (k20, 200, .inl (fun _ => 0))), (q16, .inl (k21, 8, .inl (fun _ => 0))), (q17, .inl (k22, 8, .inl (fun _ => 0))), (q23, .inr (6, [.ref q8, .ref q24, .int 0, .ref q25, .int 0, .int 0, .int 0, .ref q26, .ref q27, .ref q28, .ref q29, .ref q30, .int 0, .ref q31, .ref q32, .ref q33])), (q24, .inl (k34, 4, .inr (.inr (.inr (.inr (fun _ => none))))))] := hD
  refine W.widen (k := 25) (n := 4707) (Nat.le_of_ble_eq_true rfl) (Nat.le_of_ble_eq_true rfl) ?_
  refine va_putF (D := (dC, dI)) (ci := 10) (v := .ref q23) (ty := .object "SportsHouse$Season") (C := RX10) (T := TX10) (N := 7) hx hb ht inX10 tyX10 tyX10_ok nmX10 hown hK hP hD hS 0 rfl rfl 2 (by decide) (ht _ kw_407) (fun _ h9 => h9) rfl hin rfl (by decide +kernel) rfl rfl (Nat.le_of_ble_eq_true rfl) dX10_init_38 (fun H locs hP hD hS => ?_)
  have hP : va_P (dC, dI) vwCl [(h0, .inr (10, [.ref q1, .ref q8, .ref q23, .null, .null, .null, .null])), (q1, .inr (5, [.ref q2, .int 0, .int 0, .int (-1), .ref q3, .ref q4, .int 0, .int 0, .int 0, .int 0])), (q2, .inl (k5, 400, .inl (fun _ => 0))), (q3, .inl (k6, 16, .inl (fun _ => 0))), (q4, .inl (k7, 7, .inl (fun _ => 0))), (q8, .inr (8, [.ref q9, .ref q10, .int 0, .int 0, .ref q11, .int 0, .ref q12, .ref q13, .ref q14, .ref q15, .ref q16, .ref q17, .int 0, .int 0])), (q9, .inl (k18, 12, .inl (fun _ => 0))), (q10, .inl (k19, 12, .inl (fun _ => 0))), (q11, .inl (k20, 200, .inl (fun _ => 0))), (q16, .inl (k21, 8, .inl (fun _ => 0))), (q17, .inl (k22, 8, .inl (fun _ => 0))), (q23, .inr (6, [.ref q8, .ref q24, .int 0, .ref q25, .int 0, .int 0, .int 0, .ref q26, .ref q27, .ref q28, .ref q29, .ref q30, .int 0, .ref q31, .ref q32, .ref q33])), (q24, .inl (k34, 4, .inr (.inr (.inr (.inr (fun _ => none))))))] H := hP
  have hD : va_D A [(h0, .inr (10, [.ref q1, .ref q8, .ref q23, .null, .null, .null, .null])), (q1, .inr (5, [.ref q2, .int 0, .int 0, .int (-1), .ref q3, .ref q4, .int 0, .int 0, .int 0, .int 0])), (q2, .inl (k5, 400, .inl (fun _ => 0))), (q3, .inl (k6, 16, .inl (fun _ => 0))), (q4, .inl (k7, 7, .inl (fun _ => 0))), (q8, .inr (8, [.ref q9, .ref q10, .int 0, .int 0, .ref q11, .int 0, .ref q12, .ref q13, .ref q14, .ref q15, .ref q16, .ref q17, .int 0, .int 0])), (q9, .inl (k18, 12, .inl (fun _ => 0))), (q10, .inl (k19, 12, .inl (fun _ => 0))), (q11, .inl (k20, 200, .inl (fun _ => 0))), (q16, .inl (k21, 8, .inl (fun _ => 0))), (q17, .inl (k22, 8, .inl (fun _ => 0))), (q23, .inr (6, [.ref q8, .ref q24, .int 0, .ref q25, .int 0, .int 0, .int 0, .ref q26, .ref q27, .ref q28, .ref q29, .ref q30, .int 0, .ref q31, .ref q32, .ref q33])), (q24, .inl (k34, 4, .inr (.inr (.inr (.inr (fun _ => none))))))] := hD
  refine lv_aload_n hx hb dX10_init_41 rfl (lv_at hl 0 rfl) ?_
  refine va_new (ci := 7) (fs := [.null, .null, .null, .null, .null, .null, .null, .null, .null, .null, .null, .null, .null, .int 0]) (C := RX7) (T := TX7) (N := 14) hx hb ht inX7 tyX7 tyX7_ok hown (ht _ kw_205) (ht _ kw_206) (ht _ kw_5) hK hP hD hS hA rfl nf_X7 (Nat.le_of_ble_eq_true rfl) (Nat.le_of_ble_eq_true rfl) dX10_init_42 (fun q35 H hP hD hS => ?_)
  have hP : va_P (dC, dI) vwCl [(h0, .inr (10, [.ref q1, .ref q8, .ref q23, .null, .null, .null, .null])), (q1, .inr (5, [.ref q2, .int 0, .int 0, .int (-1), .ref q3, .ref q4, .int 0, .int 0, .int 0, .int 0])), (q2, .inl (k5, 400, .inl (fun _ => 0))), (q3, .inl (k6, 16, .inl (fun _ => 0))), (q4, .inl (k7, 7, .inl (fun _ => 0))), (q8, .inr (8, [.ref q9, .ref q10, .int 0, .int 0, .ref q11, .int 0, .ref q12, .ref q13, .ref q14, .ref q15, .ref q16, .ref q17, .int 0, .int 0])), (q9, .inl (k18, 12, .inl (fun _ => 0))), (q10, .inl (k19, 12, .inl (fun _ => 0))), (q11, .inl (k20, 200, .inl (fun _ => 0))), (q16, .inl (k21, 8, .inl (fun _ => 0))), (q17, .inl (k22, 8, .inl (fun _ => 0))), (q23, .inr (6, [.ref q8, .ref q24, .int 0, .ref q25, .int 0, .int 0, .int 0, .ref q26, .ref q27, .ref q28, .ref q29, .ref q30, .int 0, .ref q31, .ref q32, .ref q33])), (q24, .inl (k34, 4, .inr (.inr (.inr (.inr (fun _ => none)))))), (q35, .inr (7, [.null, .null, .null, .null, .null, .null, .null, .null, .null, .null, .null, .null, .null, .int 0]))] H := hP
  have hD : va_D A [(h0, .inr (10, [.ref q1, .ref q8, .ref q23, .null, .null, .null, .null])), (q1, .inr (5, [.ref q2, .int 0, .int 0, .int (-1), .ref q3, .ref q4, .int 0, .int 0, .int 0, .int 0])), (q2, .inl (k5, 400, .inl (fun _ => 0))), (q3, .inl (k6, 16, .inl (fun _ => 0))), (q4, .inl (k7, 7, .inl (fun _ => 0))), (q8, .inr (8, [.ref q9, .ref q10, .int 0, .int 0, .ref q11, .int 0, .ref q12, .ref q13, .ref q14, .ref q15, .ref q16, .ref q17, .int 0, .int 0])), (q9, .inl (k18, 12, .inl (fun _ => 0))), (q10, .inl (k19, 12, .inl (fun _ => 0))), (q11, .inl (k20, 200, .inl (fun _ => 0))), (q16, .inl (k21, 8, .inl (fun _ => 0))), (q17, .inl (k22, 8, .inl (fun _ => 0))), (q23, .inr (6, [.ref q8, .ref q24, .int 0, .ref q25, .int 0, .int 0, .int 0, .ref q26, .ref q27, .ref q28, .ref q29, .ref q30, .int 0, .ref q31, .ref q32, .ref q33])), (q24, .inl (k34, 4, .inr (.inr (.inr (.inr (fun _ => none)))))), (q35, .inr (7, [.null, .null, .null, .null, .null, .null, .null, .null, .null, .null, .null, .null, .null, .int 0]))] := hD
  refine W.widen (k := 26) (n := 4721) (Nat.le_of_ble_eq_true rfl) (Nat.le_of_ble_eq_true rfl) ?_
  refine lv_dup hx hb dX10_init_45 rfl ?_
  refine lv_aload_n hx hb dX10_init_46 rfl (lv_at hl 0 rfl) ?_
  refine va_get (D := (dC, dI)) (ci := 10) (v := .ref q23) (C := RX10) (T := TX10) (N := 7) hx hb ht inX10 hown hK hP 0 rfl rfl 2 (by decide) (ht _ kw_407) (fun _ h9 => h9) rfl dX10_init_47 ?_
  have hPc := hP.sub (ws' := [(q35, .inr (7, [.null, .null, .null, .null, .null, .null, .null, .null, .null, .null, .null, .null, .null, .int 0]))]) [13] rfl
  have hDc := hD.sub (ws' := [(q35, .inr (7, [.null, .null, .null, .null, .null, .null, .null, .null, .null, .null, .null, .null, .null, .int 0]))]) [13] (by decide) rfl
  have hKc := hK.sub (tys' := []) [] rfl
  have hFc := va_free (wc := [(q35, .inr (7, [.null, .null, .null, .null, .null, .null, .null, .null, .null, .null, .null, .null, .null, .int 0]))]) hD hS hA [13] rfl
  refine va_callv (va_runI (As := [.ref q23]) (rest := [.ref q35, .ref h0]) ⟨hx, hb, hml, hown, ht⟩ (ct_X7_init l dC dI q35 q23 _ ) (cwI 1 ht gc_X7_init rfl rfl rfl (ht _ kw_5) (ht _ kw_207) (ht _ kw_208) rfl (by decide +kernel) ⟨Nat.le_of_ble_eq_true rfl, Nat.le_of_ble_eq_true rfl⟩) ⟨ro_blind, fun U hU hW => ⟨rfl, by rw [hU], by rw [hU]; exact hPc, va_K.moved hW.alike hKc, hDc.weaken (fun _ _ _ _ => trivial), ex_warm hW hE⟩⟩ rfl rfl hl.1 rfl (lv_room (Nat.le_of_ble_eq_true rfl)) dX10_init_50 ⟨Nat.le_of_ble_eq_true rfl, Nat.le_of_ble_eq_true rfl⟩) hS (fun q _ h => hFc q h) hFc (fun u t H1 locs ht1 hvm hw hB hz1 hk1 hS => ?_)
  obtain ⟨q36, q37, q38, q39, q40, q41, q42, q43, q44, q45, q46, hP1, hK1, hD1⟩ := hB
  rw [ht1] at hP1
  obtain ⟨hP, hD⟩ := va_join (wr := [(h0, .inr (10, [.ref q1, .ref q8, .ref q23, .null, .null, .null, .null])), (q1, .inr (5, [.ref q2, .int 0, .int 0, .int (-1), .ref q3, .ref q4, .int 0, .int 0, .int 0, .int 0])), (q2, .inl (k5, 400, .inl (fun _ => 0))), (q3, .inl (k6, 16, .inl (fun _ => 0))), (q4, .inl (k7, 7, .inl (fun _ => 0))), (q8, .inr (8, [.ref q9, .ref q10, .int 0, .int 0, .ref q11, .int 0, .ref q12, .ref q13, .ref q14, .ref q15, .ref q16, .ref q17, .int 0, .int 0])), (q9, .inl (k18, 12, .inl (fun _ => 0))), (q10, .inl (k19, 12, .inl (fun _ => 0))), (q11, .inl (k20, 200, .inl (fun _ => 0))), (q16, .inl (k21, 8, .inl (fun _ => 0))), (q17, .inl (k22, 8, .inl (fun _ => 0))), (q23, .inr (6, [.ref q8, .ref q24, .int 0, .ref q25, .int 0, .int 0, .int 0, .ref q26, .ref q27, .ref q28, .ref q29, .ref q30, .int 0, .ref q31, .ref q32, .ref q33])), (q24, .inl (k34, 4, .inr (.inr (.inr (.inr (fun _ => none))))))]) (w1 := [(q35, .inr (7, [.ref q23, .null, .ref q36, .ref q37, .ref q38, .ref q39, .ref q40, .ref q41, .ref q42, .ref q43, .ref q44, .ref q45, .ref q46, .int 0]))]) hP hD [13] [0, 1, 2, 3, 4, 5, 6, 7, 8, 9, 10, 11, 12] rfl rfl (by decide) (by decide) hk1 hFc hP1 hD1
  generalize H1 = H at hP hS ⊢
  have hP : va_P (dC, dI) vwCl [(h0, .inr (10, [.ref q1, .ref q8, .ref q23, .null, .null, .null, .null])), (q1, .inr (5, [.ref q2, .int 0, .int 0, .int (-1), .ref q3, .ref q4, .int 0, .int 0, .int 0, .int 0])), (q2, .inl (k5, 400, .inl (fun _ => 0))), (q3, .inl (k6, 16, .inl (fun _ => 0))), (q4, .inl (k7, 7, .inl (fun _ => 0))), (q8, .inr (8, [.ref q9, .ref q10, .int 0, .int 0, .ref q11, .int 0, .ref q12, .ref q13, .ref q14, .ref q15, .ref q16, .ref q17, .int 0, .int 0])), (q9, .inl (k18, 12, .inl (fun _ => 0))), (q10, .inl (k19, 12, .inl (fun _ => 0))), (q11, .inl (k20, 200, .inl (fun _ => 0))), (q16, .inl (k21, 8, .inl (fun _ => 0))), (q17, .inl (k22, 8, .inl (fun _ => 0))), (q23, .inr (6, [.ref q8, .ref q24, .int 0, .ref q25, .int 0, .int 0, .int 0, .ref q26, .ref q27, .ref q28, .ref q29, .ref q30, .int 0, .ref q31, .ref q32, .ref q33])), (q24, .inl (k34, 4, .inr (.inr (.inr (.inr (fun _ => none)))))), (q35, .inr (7, [.ref q23, .null, .ref q36, .ref q37, .ref q38, .ref q39, .ref q40, .ref q41, .ref q42, .ref q43, .ref q44, .ref q45, .ref q46, .int 0]))] H := hP
  have hD : va_D A [(h0, .inr (10, [.ref q1, .ref q8, .ref q23, .null, .null, .null, .null])), (q1, .inr (5, [.ref q2, .int 0, .int 0, .int (-1), .ref q3, .ref q4, .int 0, .int 0, .int 0, .int 0])), (q2, .inl (k5, 400, .inl (fun _ => 0))), (q3, .inl (k6, 16, .inl (fun _ => 0))), (q4, .inl (k7, 7, .inl (fun _ => 0))), (q8, .inr (8, [.ref q9, .ref q10, .int 0, .int 0, .ref q11, .int 0, .ref q12, .ref q13, .ref q14, .ref q15, .ref q16, .ref q17, .int 0, .int 0])), (q9, .inl (k18, 12, .inl (fun _ => 0))), (q10, .inl (k19, 12, .inl (fun _ => 0))), (q11, .inl (k20, 200, .inl (fun _ => 0))), (q16, .inl (k21, 8, .inl (fun _ => 0))), (q17, .inl (k22, 8, .inl (fun _ => 0))), (q23, .inr (6, [.ref q8, .ref q24, .int 0, .ref q25, .int 0, .int 0, .int 0, .ref q26, .ref q27, .ref q28, .ref q29, .ref q30, .int 0, .ref q31, .ref q32, .ref q33])), (q24, .inl (k34, 4, .inr (.inr (.inr (.inr (fun _ => none)))))), (q35, .inr (7, [.ref q23, .null, .ref q36, .ref q37, .ref q38, .ref q39, .ref q40, .ref q41, .ref q42, .ref q43, .ref q44, .ref q45, .ref q46, .int 0]))] := hD
  refine W.widen (k := 37) (n := 5213) (Nat.le_of_ble_eq_true rfl) (Nat.le_of_ble_eq_true rfl) ?_
  refine va_putF (D := (dC, dI)) (ci := 10) (v := .ref q35) (ty := .object "SportsHouse$Standings") (C := RX10) (T := TX10) (N := 7) hx hb ht inX10 tyX10 tyX10_ok nmX10 hown hK hP hD hS 0 rfl rfl 3 (by decide) (ht _ kw_408) (fun _ h9 => h9) rfl hin rfl (by decide +kernel) rfl rfl (Nat.le_of_ble_eq_true rfl) dX10_init_53 (fun H locs hP hD hS => ?_)
  have hP : va_P (dC, dI) vwCl [(h0, .inr (10, [.ref q1, .ref q8, .ref q23, .ref q35, .null, .null, .null])), (q1, .inr (5, [.ref q2, .int 0, .int 0, .int (-1), .ref q3, .ref q4, .int 0, .int 0, .int 0, .int 0])), (q2, .inl (k5, 400, .inl (fun _ => 0))), (q3, .inl (k6, 16, .inl (fun _ => 0))), (q4, .inl (k7, 7, .inl (fun _ => 0))), (q8, .inr (8, [.ref q9, .ref q10, .int 0, .int 0, .ref q11, .int 0, .ref q12, .ref q13, .ref q14, .ref q15, .ref q16, .ref q17, .int 0, .int 0])), (q9, .inl (k18, 12, .inl (fun _ => 0))), (q10, .inl (k19, 12, .inl (fun _ => 0))), (q11, .inl (k20, 200, .inl (fun _ => 0))), (q16, .inl (k21, 8, .inl (fun _ => 0))), (q17, .inl (k22, 8, .inl (fun _ => 0))), (q23, .inr (6, [.ref q8, .ref q24, .int 0, .ref q25, .int 0, .int 0, .int 0, .ref q26, .ref q27, .ref q28, .ref q29, .ref q30, .int 0, .ref q31, .ref q32, .ref q33])), (q24, .inl (k34, 4, .inr (.inr (.inr (.inr (fun _ => none)))))), (q35, .inr (7, [.ref q23, .null, .ref q36, .ref q37, .ref q38, .ref q39, .ref q40, .ref q41, .ref q42, .ref q43, .ref q44, .ref q45, .ref q46, .int 0]))] H := hP
  have hD : va_D A [(h0, .inr (10, [.ref q1, .ref q8, .ref q23, .ref q35, .null, .null, .null])), (q1, .inr (5, [.ref q2, .int 0, .int 0, .int (-1), .ref q3, .ref q4, .int 0, .int 0, .int 0, .int 0])), (q2, .inl (k5, 400, .inl (fun _ => 0))), (q3, .inl (k6, 16, .inl (fun _ => 0))), (q4, .inl (k7, 7, .inl (fun _ => 0))), (q8, .inr (8, [.ref q9, .ref q10, .int 0, .int 0, .ref q11, .int 0, .ref q12, .ref q13, .ref q14, .ref q15, .ref q16, .ref q17, .int 0, .int 0])), (q9, .inl (k18, 12, .inl (fun _ => 0))), (q10, .inl (k19, 12, .inl (fun _ => 0))), (q11, .inl (k20, 200, .inl (fun _ => 0))), (q16, .inl (k21, 8, .inl (fun _ => 0))), (q17, .inl (k22, 8, .inl (fun _ => 0))), (q23, .inr (6, [.ref q8, .ref q24, .int 0, .ref q25, .int 0, .int 0, .int 0, .ref q26, .ref q27, .ref q28, .ref q29, .ref q30, .int 0, .ref q31, .ref q32, .ref q33])), (q24, .inl (k34, 4, .inr (.inr (.inr (.inr (fun _ => none)))))), (q35, .inr (7, [.ref q23, .null, .ref q36, .ref q37, .ref q38, .ref q39, .ref q40, .ref q41, .ref q42, .ref q43, .ref q44, .ref q45, .ref q46, .int 0]))] := hD
  refine lv_aload_n hx hb dX10_init_56 rfl (lv_at hl 0 rfl) ?_
  refine va_new (ci := 9) (fs := [.null, .null, .int 0, .int 0, .null, .null, .int 0, .null, .null, .int 0, .null, .null, .null, .null, .null, .null]) (C := RX9) (T := TX9) (N := 16) hx hb ht inX9 tyX9 tyX9_ok hown (ht _ kw_259) (ht _ kw_260) (ht _ kw_6) hK hP hD hS hA rfl nf_X9 (Nat.le_of_ble_eq_true rfl) (Nat.le_of_ble_eq_true rfl) dX10_init_57 (fun q47 H hP hD hS => ?_)
  have hP : va_P (dC, dI) vwCl [(h0, .inr (10, [.ref q1, .ref q8, .ref q23, .ref q35, .null, .null, .null])), (q1, .inr (5, [.ref q2, .int 0, .int 0, .int (-1), .ref q3, .ref q4, .int 0, .int 0, .int 0, .int 0])), (q2, .inl (k5, 400, .inl (fun _ => 0))), (q3, .inl (k6, 16, .inl (fun _ => 0))), (q4, .inl (k7, 7, .inl (fun _ => 0))), (q8, .inr (8, [.ref q9, .ref q10, .int 0, .int 0, .ref q11, .int 0, .ref q12, .ref q13, .ref q14, .ref q15, .ref q16, .ref q17, .int 0, .int 0])), (q9, .inl (k18, 12, .inl (fun _ => 0))), (q10, .inl (k19, 12, .inl (fun _ => 0))), (q11, .inl (k20, 200, .inl (fun _ => 0))), (q16, .inl (k21, 8, .inl (fun _ => 0))), (q17, .inl (k22, 8, .inl (fun _ => 0))), (q23, .inr (6, [.ref q8, .ref q24, .int 0, .ref q25, .int 0, .int 0, .int 0, .ref q26, .ref q27, .ref q28, .ref q29, .ref q30, .int 0, .ref q31, .ref q32, .ref q33])), (q24, .inl (k34, 4, .inr (.inr (.inr (.inr (fun _ => none)))))), (q35, .inr (7, [.ref q23, .null, .ref q36, .ref q37, .ref q38, .ref q39, .ref q40, .ref q41, .ref q42, .ref q43, .ref q44, .ref q45, .ref q46, .int 0])), (q47, .inr (9, [.null, .null, .int 0, .int 0, .null, .null, .int 0, .null, .null, .int 0, .null, .null, .null, .null, .null, .null]))] H := hP
  have hD : va_D A [(h0, .inr (10, [.ref q1, .ref q8, .ref q23, .ref q35, .null, .null, .null])), (q1, .inr (5, [.ref q2, .int 0, .int 0, .int (-1), .ref q3, .ref q4, .int 0, .int 0, .int 0, .int 0])), (q2, .inl (k5, 400, .inl (fun _ => 0))), (q3, .inl (k6, 16, .inl (fun _ => 0))), (q4, .inl (k7, 7, .inl (fun _ => 0))), (q8, .inr (8, [.ref q9, .ref q10, .int 0, .int 0, .ref q11, .int 0, .ref q12, .ref q13, .ref q14, .ref q15, .ref q16, .ref q17, .int 0, .int 0])), (q9, .inl (k18, 12, .inl (fun _ => 0))), (q10, .inl (k19, 12, .inl (fun _ => 0))), (q11, .inl (k20, 200, .inl (fun _ => 0))), (q16, .inl (k21, 8, .inl (fun _ => 0))), (q17, .inl (k22, 8, .inl (fun _ => 0))), (q23, .inr (6, [.ref q8, .ref q24, .int 0, .ref q25, .int 0, .int 0, .int 0, .ref q26, .ref q27, .ref q28, .ref q29, .ref q30, .int 0, .ref q31, .ref q32, .ref q33])), (q24, .inl (k34, 4, .inr (.inr (.inr (.inr (fun _ => none)))))), (q35, .inr (7, [.ref q23, .null, .ref q36, .ref q37, .ref q38, .ref q39, .ref q40, .ref q41, .ref q42, .ref q43, .ref q44, .ref q45, .ref q46, .int 0])), (q47, .inr (9, [.null, .null, .int 0, .int 0, .null, .null, .int 0, .null, .null, .int 0, .null, .null, .null, .null, .null, .null]))] := hD
  refine W.widen (k := 38) (n := 5229) (Nat.le_of_ble_eq_true rfl) (Nat.le_of_ble_eq_true rfl) ?_
  refine lv_dup hx hb dX10_init_60 rfl ?_
  refine lv_aload_n hx hb dX10_init_61 rfl (lv_at hl 0 rfl) ?_
  refine va_get (D := (dC, dI)) (ci := 10) (v := .ref q23) (C := RX10) (T := TX10) (N := 7) hx hb ht inX10 hown hK hP 0 rfl rfl 2 (by decide) (ht _ kw_407) (fun _ h9 => h9) rfl dX10_init_62 ?_
  refine lv_aload_n hx hb dX10_init_65 rfl (lv_at hl 0 rfl) ?_
  refine va_get (D := (dC, dI)) (ci := 10) (v := .ref q35) (C := RX10) (T := TX10) (N := 7) hx hb ht inX10 hown hK hP 0 rfl rfl 3 (by decide) (ht _ kw_408) (fun _ h9 => h9) rfl dX10_init_66 ?_
  have hPc := hP.sub (ws' := [(q47, .inr (9, [.null, .null, .int 0, .int 0, .null, .null, .int 0, .null, .null, .int 0, .null, .null, .null, .null, .null, .null]))]) [14] rfl
  have hDc := hD.sub (ws' := [(q47, .inr (9, [.null, .null, .int 0, .int 0, .null, .null, .int 0, .null, .null, .int 0, .null, .null, .null, .null, .null, .null]))]) [14] (by decide) rfl
  have hKc := hK.sub (tys' := []) [] rfl
  have hFc := va_free (wc := [(q47, .inr (9, [.null, .null, .int 0, .int 0, .null, .null, .int 0, .null, .null, .int 0, .null, .null, .null, .null, .null, .null]))]) hD hS hA [14] rfl
  refine va_callv (va_runI (As := [.ref q23, .ref q35]) (rest := [.ref q47, .ref h0]) ⟨hx, hb, hml, hown, ht⟩ (ct_X9_init l dC dI q47 q23 q35 _ ) (cwI 2 ht gc_X9_init rfl rfl rfl (ht _ kw_6) (ht _ kw_261) (ht _ kw_262) rfl (by decide +kernel) ⟨Nat.le_of_ble_eq_true rfl, Nat.le_of_ble_eq_true rfl⟩) ⟨ro_blind, fun U hU hW => ⟨rfl, by rw [hU], by rw [hU]; exact hPc, va_K.moved hW.alike hKc, hDc.weaken (fun _ _ _ _ => trivial), ex_warm hW hE⟩⟩ rfl rfl hl.1 rfl (lv_room (Nat.le_of_ble_eq_true rfl)) dX10_init_69 ⟨Nat.le_of_ble_eq_true rfl, Nat.le_of_ble_eq_true rfl⟩) hS (fun q _ h => hFc q h) hFc (fun u t H1 locs ht1 hvm hw hB hz1 hk1 hS => ?_)
  obtain ⟨q48, q49, q50, q51, q52, q53, q54, q55, hP1, hK1, hD1⟩ := hB
  rw [ht1] at hP1
  obtain ⟨hP, hD⟩ := va_join (wr := [(h0, .inr (10, [.ref q1, .ref q8, .ref q23, .ref q35, .null, .null, .null])), (q1, .inr (5, [.ref q2, .int 0, .int 0, .int (-1), .ref q3, .ref q4, .int 0, .int 0, .int 0, .int 0])), (q2, .inl (k5, 400, .inl (fun _ => 0))), (q3, .inl (k6, 16, .inl (fun _ => 0))), (q4, .inl (k7, 7, .inl (fun _ => 0))), (q8, .inr (8, [.ref q9, .ref q10, .int 0, .int 0, .ref q11, .int 0, .ref q12, .ref q13, .ref q14, .ref q15, .ref q16, .ref q17, .int 0, .int 0])), (q9, .inl (k18, 12, .inl (fun _ => 0))), (q10, .inl (k19, 12, .inl (fun _ => 0))), (q11, .inl (k20, 200, .inl (fun _ => 0))), (q16, .inl (k21, 8, .inl (fun _ => 0))), (q17, .inl (k22, 8, .inl (fun _ => 0))), (q23, .inr (6, [.ref q8, .ref q24, .int 0, .ref q25, .int 0, .int 0, .int 0, .ref q26, .ref q27, .ref q28, .ref q29, .ref q30, .int 0, .ref q31, .ref q32, .ref q33])), (q24, .inl (k34, 4, .inr (.inr (.inr (.inr (fun _ => none)))))), (q35, .inr (7, [.ref q23, .null, .ref q36, .ref q37, .ref q38, .ref q39, .ref q40, .ref q41, .ref q42, .ref q43, .ref q44, .ref q45, .ref q46, .int 0]))]) (w1 := [(q47, .inr (9, [.ref q23, .ref q35, .int (-1), .int 0, .ref q48, .null, .int 0, .ref q49, .ref q50, .int 0, .ref q51, .ref q52, .ref q53, .ref q54, .ref q55, .null]))]) hP hD [14] [0, 1, 2, 3, 4, 5, 6, 7, 8, 9, 10, 11, 12, 13] rfl rfl (by decide) (by decide) hk1 hFc hP1 hD1
  generalize H1 = H at hP hS ⊢
  have hP : va_P (dC, dI) vwCl [(h0, .inr (10, [.ref q1, .ref q8, .ref q23, .ref q35, .null, .null, .null])), (q1, .inr (5, [.ref q2, .int 0, .int 0, .int (-1), .ref q3, .ref q4, .int 0, .int 0, .int 0, .int 0])), (q2, .inl (k5, 400, .inl (fun _ => 0))), (q3, .inl (k6, 16, .inl (fun _ => 0))), (q4, .inl (k7, 7, .inl (fun _ => 0))), (q8, .inr (8, [.ref q9, .ref q10, .int 0, .int 0, .ref q11, .int 0, .ref q12, .ref q13, .ref q14, .ref q15, .ref q16, .ref q17, .int 0, .int 0])), (q9, .inl (k18, 12, .inl (fun _ => 0))), (q10, .inl (k19, 12, .inl (fun _ => 0))), (q11, .inl (k20, 200, .inl (fun _ => 0))), (q16, .inl (k21, 8, .inl (fun _ => 0))), (q17, .inl (k22, 8, .inl (fun _ => 0))), (q23, .inr (6, [.ref q8, .ref q24, .int 0, .ref q25, .int 0, .int 0, .int 0, .ref q26, .ref q27, .ref q28, .ref q29, .ref q30, .int 0, .ref q31, .ref q32, .ref q33])), (q24, .inl (k34, 4, .inr (.inr (.inr (.inr (fun _ => none)))))), (q35, .inr (7, [.ref q23, .null, .ref q36, .ref q37, .ref q38, .ref q39, .ref q40, .ref q41, .ref q42, .ref q43, .ref q44, .ref q45, .ref q46, .int 0])), (q47, .inr (9, [.ref q23, .ref q35, .int (-1), .int 0, .ref q48, .null, .int 0, .ref q49, .ref q50, .int 0, .ref q51, .ref q52, .ref q53, .ref q54, .ref q55, .null]))] H := hP
  have hD : va_D A [(h0, .inr (10, [.ref q1, .ref q8, .ref q23, .ref q35, .null, .null, .null])), (q1, .inr (5, [.ref q2, .int 0, .int 0, .int (-1), .ref q3, .ref q4, .int 0, .int 0, .int 0, .int 0])), (q2, .inl (k5, 400, .inl (fun _ => 0))), (q3, .inl (k6, 16, .inl (fun _ => 0))), (q4, .inl (k7, 7, .inl (fun _ => 0))), (q8, .inr (8, [.ref q9, .ref q10, .int 0, .int 0, .ref q11, .int 0, .ref q12, .ref q13, .ref q14, .ref q15, .ref q16, .ref q17, .int 0, .int 0])), (q9, .inl (k18, 12, .inl (fun _ => 0))), (q10, .inl (k19, 12, .inl (fun _ => 0))), (q11, .inl (k20, 200, .inl (fun _ => 0))), (q16, .inl (k21, 8, .inl (fun _ => 0))), (q17, .inl (k22, 8, .inl (fun _ => 0))), (q23, .inr (6, [.ref q8, .ref q24, .int 0, .ref q25, .int 0, .int 0, .int 0, .ref q26, .ref q27, .ref q28, .ref q29, .ref q30, .int 0, .ref q31, .ref q32, .ref q33])), (q24, .inl (k34, 4, .inr (.inr (.inr (.inr (fun _ => none)))))), (q35, .inr (7, [.ref q23, .null, .ref q36, .ref q37, .ref q38, .ref q39, .ref q40, .ref q41, .ref q42, .ref q43, .ref q44, .ref q45, .ref q46, .int 0])), (q47, .inr (9, [.ref q23, .ref q35, .int (-1), .int 0, .ref q48, .null, .int 0, .ref q49, .ref q50, .int 0, .ref q51, .ref q52, .ref q53, .ref q54, .ref q55, .null]))] := hD
  refine W.widen (k := 46) (n := 5769) (Nat.le_of_ble_eq_true rfl) (Nat.le_of_ble_eq_true rfl) ?_
  refine va_putF (D := (dC, dI)) (ci := 10) (v := .ref q47) (ty := .object "SportsHouse$Title") (C := RX10) (T := TX10) (N := 7) hx hb ht inX10 tyX10 tyX10_ok nmX10 hown hK hP hD hS 0 rfl rfl 4 (by decide) (ht _ kw_409) (fun _ h9 => h9) rfl hin rfl (by decide +kernel) rfl rfl (Nat.le_of_ble_eq_true rfl) dX10_init_72 (fun H locs hP hD hS => ?_)
  have hP : va_P (dC, dI) vwCl [(h0, .inr (10, [.ref q1, .ref q8, .ref q23, .ref q35, .ref q47, .null, .null])), (q1, .inr (5, [.ref q2, .int 0, .int 0, .int (-1), .ref q3, .ref q4, .int 0, .int 0, .int 0, .int 0])), (q2, .inl (k5, 400, .inl (fun _ => 0))), (q3, .inl (k6, 16, .inl (fun _ => 0))), (q4, .inl (k7, 7, .inl (fun _ => 0))), (q8, .inr (8, [.ref q9, .ref q10, .int 0, .int 0, .ref q11, .int 0, .ref q12, .ref q13, .ref q14, .ref q15, .ref q16, .ref q17, .int 0, .int 0])), (q9, .inl (k18, 12, .inl (fun _ => 0))), (q10, .inl (k19, 12, .inl (fun _ => 0))), (q11, .inl (k20, 200, .inl (fun _ => 0))), (q16, .inl (k21, 8, .inl (fun _ => 0))), (q17, .inl (k22, 8, .inl (fun _ => 0))), (q23, .inr (6, [.ref q8, .ref q24, .int 0, .ref q25, .int 0, .int 0, .int 0, .ref q26, .ref q27, .ref q28, .ref q29, .ref q30, .int 0, .ref q31, .ref q32, .ref q33])), (q24, .inl (k34, 4, .inr (.inr (.inr (.inr (fun _ => none)))))), (q35, .inr (7, [.ref q23, .null, .ref q36, .ref q37, .ref q38, .ref q39, .ref q40, .ref q41, .ref q42, .ref q43, .ref q44, .ref q45, .ref q46, .int 0])), (q47, .inr (9, [.ref q23, .ref q35, .int (-1), .int 0, .ref q48, .null, .int 0, .ref q49, .ref q50, .int 0, .ref q51, .ref q52, .ref q53, .ref q54, .ref q55, .null]))] H := hP
  have hD : va_D A [(h0, .inr (10, [.ref q1, .ref q8, .ref q23, .ref q35, .ref q47, .null, .null])), (q1, .inr (5, [.ref q2, .int 0, .int 0, .int (-1), .ref q3, .ref q4, .int 0, .int 0, .int 0, .int 0])), (q2, .inl (k5, 400, .inl (fun _ => 0))), (q3, .inl (k6, 16, .inl (fun _ => 0))), (q4, .inl (k7, 7, .inl (fun _ => 0))), (q8, .inr (8, [.ref q9, .ref q10, .int 0, .int 0, .ref q11, .int 0, .ref q12, .ref q13, .ref q14, .ref q15, .ref q16, .ref q17, .int 0, .int 0])), (q9, .inl (k18, 12, .inl (fun _ => 0))), (q10, .inl (k19, 12, .inl (fun _ => 0))), (q11, .inl (k20, 200, .inl (fun _ => 0))), (q16, .inl (k21, 8, .inl (fun _ => 0))), (q17, .inl (k22, 8, .inl (fun _ => 0))), (q23, .inr (6, [.ref q8, .ref q24, .int 0, .ref q25, .int 0, .int 0, .int 0, .ref q26, .ref q27, .ref q28, .ref q29, .ref q30, .int 0, .ref q31, .ref q32, .ref q33])), (q24, .inl (k34, 4, .inr (.inr (.inr (.inr (fun _ => none)))))), (q35, .inr (7, [.ref q23, .null, .ref q36, .ref q37, .ref q38, .ref q39, .ref q40, .ref q41, .ref q42, .ref q43, .ref q44, .ref q45, .ref q46, .int 0])), (q47, .inr (9, [.ref q23, .ref q35, .int (-1), .int 0, .ref q48, .null, .int 0, .ref q49, .ref q50, .int 0, .ref q51, .ref q52, .ref q53, .ref q54, .ref q55, .null]))] := hD
  refine lv_aload_n hx hb dX10_init_75 rfl (lv_at hl 0 rfl) ?_
  refine va_new (ci := 1) (fs := [.null, .int 0, .int 0, .int 0, .int 0, .int 0, .int 0, .int 0, .null, .null, .null, .null, .null, .int 0, .null, .null]) (C := RX1) (T := TX1) (N := 16) hx hb ht inX1 tyX1 tyX1_ok hown (ht _ kw_320) (ht _ kw_321) (ht _ kw_8) hK hP hD hS hA rfl nf_X1 (Nat.le_of_ble_eq_true rfl) (Nat.le_of_ble_eq_true rfl) dX10_init_76 (fun q56 H hP hD hS => ?_)
  have hP : va_P (dC, dI) vwCl [(h0, .inr (10, [.ref q1, .ref q8, .ref q23, .ref q35, .ref q47, .null, .null])), (q1, .inr (5, [.ref q2, .int 0, .int 0, .int (-1), .ref q3, .ref q4, .int 0, .int 0, .int 0, .int 0])), (q2, .inl (k5, 400, .inl (fun _ => 0))), (q3, .inl (k6, 16, .inl (fun _ => 0))), (q4, .inl (k7, 7, .inl (fun _ => 0))), (q8, .inr (8, [.ref q9, .ref q10, .int 0, .int 0, .ref q11, .int 0, .ref q12, .ref q13, .ref q14, .ref q15, .ref q16, .ref q17, .int 0, .int 0])), (q9, .inl (k18, 12, .inl (fun _ => 0))), (q10, .inl (k19, 12, .inl (fun _ => 0))), (q11, .inl (k20, 200, .inl (fun _ => 0))), (q16, .inl (k21, 8, .inl (fun _ => 0))), (q17, .inl (k22, 8, .inl (fun _ => 0))), (q23, .inr (6, [.ref q8, .ref q24, .int 0, .ref q25, .int 0, .int 0, .int 0, .ref q26, .ref q27, .ref q28, .ref q29, .ref q30, .int 0, .ref q31, .ref q32, .ref q33])), (q24, .inl (k34, 4, .inr (.inr (.inr (.inr (fun _ => none)))))), (q35, .inr (7, [.ref q23, .null, .ref q36, .ref q37, .ref q38, .ref q39, .ref q40, .ref q41, .ref q42, .ref q43, .ref q44, .ref q45, .ref q46, .int 0])), (q47, .inr (9, [.ref q23, .ref q35, .int (-1), .int 0, .ref q48, .null, .int 0, .ref q49, .ref q50, .int 0, .ref q51, .ref q52, .ref q53, .ref q54, .ref q55, .null])), (q56, .inr (1, [.null, .int 0, .int 0, .int 0, .int 0, .int 0, .int 0, .int 0, .null, .null, .null, .null, .null, .int 0, .null, .null]))] H := hP
  have hD : va_D A [(h0, .inr (10, [.ref q1, .ref q8, .ref q23, .ref q35, .ref q47, .null, .null])), (q1, .inr (5, [.ref q2, .int 0, .int 0, .int (-1), .ref q3, .ref q4, .int 0, .int 0, .int 0, .int 0])), (q2, .inl (k5, 400, .inl (fun _ => 0))), (q3, .inl (k6, 16, .inl (fun _ => 0))), (q4, .inl (k7, 7, .inl (fun _ => 0))), (q8, .inr (8, [.ref q9, .ref q10, .int 0, .int 0, .ref q11, .int 0, .ref q12, .ref q13, .ref q14, .ref q15, .ref q16, .ref q17, .int 0, .int 0])), (q9, .inl (k18, 12, .inl (fun _ => 0))), (q10, .inl (k19, 12, .inl (fun _ => 0))), (q11, .inl (k20, 200, .inl (fun _ => 0))), (q16, .inl (k21, 8, .inl (fun _ => 0))), (q17, .inl (k22, 8, .inl (fun _ => 0))), (q23, .inr (6, [.ref q8, .ref q24, .int 0, .ref q25, .int 0, .int 0, .int 0, .ref q26, .ref q27, .ref q28, .ref q29, .ref q30, .int 0, .ref q31, .ref q32, .ref q33])), (q24, .inl (k34, 4, .inr (.inr (.inr (.inr (fun _ => none)))))), (q35, .inr (7, [.ref q23, .null, .ref q36, .ref q37, .ref q38, .ref q39, .ref q40, .ref q41, .ref q42, .ref q43, .ref q44, .ref q45, .ref q46, .int 0])), (q47, .inr (9, [.ref q23, .ref q35, .int (-1), .int 0, .ref q48, .null, .int 0, .ref q49, .ref q50, .int 0, .ref q51, .ref q52, .ref q53, .ref q54, .ref q55, .null])), (q56, .inr (1, [.null, .int 0, .int 0, .int 0, .int 0, .int 0, .int 0, .int 0, .null, .null, .null, .null, .null, .int 0, .null, .null]))] := hD
  refine W.widen (k := 47) (n := 5785) (Nat.le_of_ble_eq_true rfl) (Nat.le_of_ble_eq_true rfl) ?_
  refine lv_dup hx hb dX10_init_79 rfl ?_
  refine lv_aload_n hx hb dX10_init_80 rfl (lv_at hl 0 rfl) ?_
  refine va_get (D := (dC, dI)) (ci := 10) (v := .ref q8) (C := RX10) (T := TX10) (N := 7) hx hb ht inX10 hown hK hP 0 rfl rfl 1 (by decide) (ht _ kw_406) (fun _ h9 => h9) rfl dX10_init_81 ?_
  have hPc := hP.sub (ws' := [(q56, .inr (1, [.null, .int 0, .int 0, .int 0, .int 0, .int 0, .int 0, .int 0, .null, .null, .null, .null, .null, .int 0, .null, .null]))]) [15] rfl
  have hDc := hD.sub (ws' := [(q56, .inr (1, [.null, .int 0, .int 0, .int 0, .int 0, .int 0, .int 0, .int 0, .null, .null, .null, .null, .null, .int 0, .null, .null]))]) [15] (by decide) rfl
  have hKc := hK.sub (tys' := []) [] rfl
  have hFc := va_free (wc := [(q56, .inr (1, [.null, .int 0, .int 0, .int 0, .int 0, .int 0, .int 0, .int 0, .null, .null, .null, .null, .null, .int 0, .null, .null]))]) hD hS hA [15] rfl
  refine va_callv (va_runI (As := [.ref q8]) (rest := [.ref q56, .ref h0]) ⟨hx, hb, hml, hown, ht⟩ (ct_X1_init l dC dI q56 q8 _ ) (cwI 1 ht gc_X1_init rfl rfl rfl (ht _ kw_8) (ht _ kw_322) (ht _ kw_323) rfl (by decide +kernel) ⟨Nat.le_of_ble_eq_true rfl, Nat.le_of_ble_eq_true rfl⟩) ⟨ro_blind, fun U hU hW => ⟨rfl, by rw [hU], by rw [hU]; exact hPc, va_K.moved hW.alike hKc, hDc.weaken (fun _ _ _ _ => trivial), ex_warm hW hE⟩⟩ rfl rfl hl.1 rfl (lv_room (Nat.le_of_ble_eq_true rfl)) dX10_init_84 ⟨Nat.le_of_ble_eq_true rfl, Nat.le_of_ble_eq_true rfl⟩) hS (fun q _ h => hFc q h) hFc (fun u t H1 locs ht1 hvm hw hB hz1 hk1 hS => ?_)
  obtain ⟨q57, q58, q59, q60, q61, q62, q63, k64, k65, k66, hP1, hK1, hD1⟩ := hB
  rw [ht1] at hP1
  obtain ⟨hP, hD⟩ := va_join (wr := [(h0, .inr (10, [.ref q1, .ref q8, .ref q23, .ref q35, .ref q47, .null, .null])), (q1, .inr (5, [.ref q2, .int 0, .int 0, .int (-1), .ref q3, .ref q4, .int 0, .int 0, .int 0, .int 0])), (q2, .inl (k5, 400, .inl (fun _ => 0))), (q3, .inl (k6, 16, .inl (fun _ => 0))), (q4, .inl (k7, 7, .inl (fun _ => 0))), (q8, .inr (8, [.ref q9, .ref q10, .int 0, .int 0, .ref q11, .int 0, .ref q12, .ref q13, .ref q14, .ref q15, .ref q16, .ref q17, .int 0, .int 0])), (q9, .inl (k18, 12, .inl (fun _ => 0))), (q10, .inl (k19, 12, .inl (fun _ => 0))), (q11, .inl (k20, 200, .inl (fun _ => 0))), (q16, .inl (k21, 8, .inl (fun _ => 0))), (q17, .inl (k22, 8, .inl (fun _ => 0))), (q23, .inr (6, [.ref q8, .ref q24, .int 0, .ref q25, .int 0, .int 0, .int 0, .ref q26, .ref q27, .ref q28, .ref q29, .ref q30, .int 0, .ref q31, .ref q32, .ref q33])), (q24, .inl (k34, 4, .inr (.inr (.inr (.inr (fun _ => none)))))), (q35, .inr (7, [.ref q23, .null, .ref q36, .ref q37, .ref q38, .ref q39, .ref q40, .ref q41, .ref q42, .ref q43, .ref q44, .ref q45, .ref q46, .int 0])), (q47, .inr (9, [.ref q23, .ref q35, .int (-1), .int 0, .ref q48, .null, .int 0, .ref q49, .ref q50, .int 0, .ref q51, .ref q52, .ref q53, .ref q54, .ref q55, .null]))]) (w1 := [(q56, .inr (1, [.ref q8, .int 0, .int 0, .int 0, .int 0, .int 0, .int 0, .int 0, .ref q57, .ref q58, .ref q59, .ref q60, .ref q61, .int 0, .ref q62, .ref q63])), (q57, .inl (k64, 12, .inl (fun _ => 0))), (q58, .inl (k65, 12, .inl (fun _ => 0))), (q59, .inl (k66, 3, .inl (fun _ => 0)))]) hP hD [15] [0, 1, 2, 3, 4, 5, 6, 7, 8, 9, 10, 11, 12, 13, 14] rfl rfl (by decide) (by decide) hk1 hFc hP1 hD1
  generalize H1 = H at hP hS ⊢
  have hK1 := va_K.moved hvm.symm hK1
  have hK := hK.app (hK1.sub (tys' := [(k64, .int), (k65, .int), (k66, .int)]) [0, 1, 2] rfl)
  have hK : va_K (dC, dI) vwCl [(k5, .int), (k6, .int), (k7, .int), (k18, .int), (k19, .int), (k20, .int), (k21, .int), (k22, .int), (k34, .object RX0), (k64, .int), (k65, .int), (k66, .int)] s := hK
  have hP : va_P (dC, dI) vwCl [(h0, .inr (10, [.ref q1, .ref q8, .ref q23, .ref q35, .ref q47, .null, .null])), (q1, .inr (5, [.ref q2, .int 0, .int 0, .int (-1), .ref q3, .ref q4, .int 0, .int 0, .int 0, .int 0])), (q2, .inl (k5, 400, .inl (fun _ => 0))), (q3, .inl (k6, 16, .inl (fun _ => 0))), (q4, .inl (k7, 7, .inl (fun _ => 0))), (q8, .inr (8, [.ref q9, .ref q10, .int 0, .int 0, .ref q11, .int 0, .ref q12, .ref q13, .ref q14, .ref q15, .ref q16, .ref q17, .int 0, .int 0])), (q9, .inl (k18, 12, .inl (fun _ => 0))), (q10, .inl (k19, 12, .inl (fun _ => 0))), (q11, .inl (k20, 200, .inl (fun _ => 0))), (q16, .inl (k21, 8, .inl (fun _ => 0))), (q17, .inl (k22, 8, .inl (fun _ => 0))), (q23, .inr (6, [.ref q8, .ref q24, .int 0, .ref q25, .int 0, .int 0, .int 0, .ref q26, .ref q27, .ref q28, .ref q29, .ref q30, .int 0, .ref q31, .ref q32, .ref q33])), (q24, .inl (k34, 4, .inr (.inr (.inr (.inr (fun _ => none)))))), (q35, .inr (7, [.ref q23, .null, .ref q36, .ref q37, .ref q38, .ref q39, .ref q40, .ref q41, .ref q42, .ref q43, .ref q44, .ref q45, .ref q46, .int 0])), (q47, .inr (9, [.ref q23, .ref q35, .int (-1), .int 0, .ref q48, .null, .int 0, .ref q49, .ref q50, .int 0, .ref q51, .ref q52, .ref q53, .ref q54, .ref q55, .null])), (q56, .inr (1, [.ref q8, .int 0, .int 0, .int 0, .int 0, .int 0, .int 0, .int 0, .ref q57, .ref q58, .ref q59, .ref q60, .ref q61, .int 0, .ref q62, .ref q63])), (q57, .inl (k64, 12, .inl (fun _ => 0))), (q58, .inl (k65, 12, .inl (fun _ => 0))), (q59, .inl (k66, 3, .inl (fun _ => 0)))] H := hP
  have hD : va_D A [(h0, .inr (10, [.ref q1, .ref q8, .ref q23, .ref q35, .ref q47, .null, .null])), (q1, .inr (5, [.ref q2, .int 0, .int 0, .int (-1), .ref q3, .ref q4, .int 0, .int 0, .int 0, .int 0])), (q2, .inl (k5, 400, .inl (fun _ => 0))), (q3, .inl (k6, 16, .inl (fun _ => 0))), (q4, .inl (k7, 7, .inl (fun _ => 0))), (q8, .inr (8, [.ref q9, .ref q10, .int 0, .int 0, .ref q11, .int 0, .ref q12, .ref q13, .ref q14, .ref q15, .ref q16, .ref q17, .int 0, .int 0])), (q9, .inl (k18, 12, .inl (fun _ => 0))), (q10, .inl (k19, 12, .inl (fun _ => 0))), (q11, .inl (k20, 200, .inl (fun _ => 0))), (q16, .inl (k21, 8, .inl (fun _ => 0))), (q17, .inl (k22, 8, .inl (fun _ => 0))), (q23, .inr (6, [.ref q8, .ref q24, .int 0, .ref q25, .int 0, .int 0, .int 0, .ref q26, .ref q27, .ref q28, .ref q29, .ref q30, .int 0, .ref q31, .ref q32, .ref q33])), (q24, .inl (k34, 4, .inr (.inr (.inr (.inr (fun _ => none)))))), (q35, .inr (7, [.ref q23, .null, .ref q36, .ref q37, .ref q38, .ref q39, .ref q40, .ref q41, .ref q42, .ref q43, .ref q44, .ref q45, .ref q46, .int 0])), (q47, .inr (9, [.ref q23, .ref q35, .int (-1), .int 0, .ref q48, .null, .int 0, .ref q49, .ref q50, .int 0, .ref q51, .ref q52, .ref q53, .ref q54, .ref q55, .null])), (q56, .inr (1, [.ref q8, .int 0, .int 0, .int 0, .int 0, .int 0, .int 0, .int 0, .ref q57, .ref q58, .ref q59, .ref q60, .ref q61, .int 0, .ref q62, .ref q63])), (q57, .inl (k64, 12, .inl (fun _ => 0))), (q58, .inl (k65, 12, .inl (fun _ => 0))), (q59, .inl (k66, 3, .inl (fun _ => 0)))] := hD
  refine W.widen (k := 54) (n := 5916) (Nat.le_of_ble_eq_true rfl) (Nat.le_of_ble_eq_true rfl) ?_
  refine va_putF (D := (dC, dI)) (ci := 10) (v := .ref q56) (ty := .object "SportsHouse$Lots") (C := RX10) (T := TX10) (N := 7) hx hb ht inX10 tyX10 tyX10_ok nmX10 hown hK hP hD hS 0 rfl rfl 5 (by decide) (ht _ kw_410) (fun _ h9 => h9) rfl hin rfl (by decide +kernel) rfl rfl (Nat.le_of_ble_eq_true rfl) dX10_init_87 (fun H locs hP hD hS => ?_)
  have hP : va_P (dC, dI) vwCl [(h0, .inr (10, [.ref q1, .ref q8, .ref q23, .ref q35, .ref q47, .ref q56, .null])), (q1, .inr (5, [.ref q2, .int 0, .int 0, .int (-1), .ref q3, .ref q4, .int 0, .int 0, .int 0, .int 0])), (q2, .inl (k5, 400, .inl (fun _ => 0))), (q3, .inl (k6, 16, .inl (fun _ => 0))), (q4, .inl (k7, 7, .inl (fun _ => 0))), (q8, .inr (8, [.ref q9, .ref q10, .int 0, .int 0, .ref q11, .int 0, .ref q12, .ref q13, .ref q14, .ref q15, .ref q16, .ref q17, .int 0, .int 0])), (q9, .inl (k18, 12, .inl (fun _ => 0))), (q10, .inl (k19, 12, .inl (fun _ => 0))), (q11, .inl (k20, 200, .inl (fun _ => 0))), (q16, .inl (k21, 8, .inl (fun _ => 0))), (q17, .inl (k22, 8, .inl (fun _ => 0))), (q23, .inr (6, [.ref q8, .ref q24, .int 0, .ref q25, .int 0, .int 0, .int 0, .ref q26, .ref q27, .ref q28, .ref q29, .ref q30, .int 0, .ref q31, .ref q32, .ref q33])), (q24, .inl (k34, 4, .inr (.inr (.inr (.inr (fun _ => none)))))), (q35, .inr (7, [.ref q23, .null, .ref q36, .ref q37, .ref q38, .ref q39, .ref q40, .ref q41, .ref q42, .ref q43, .ref q44, .ref q45, .ref q46, .int 0])), (q47, .inr (9, [.ref q23, .ref q35, .int (-1), .int 0, .ref q48, .null, .int 0, .ref q49, .ref q50, .int 0, .ref q51, .ref q52, .ref q53, .ref q54, .ref q55, .null])), (q56, .inr (1, [.ref q8, .int 0, .int 0, .int 0, .int 0, .int 0, .int 0, .int 0, .ref q57, .ref q58, .ref q59, .ref q60, .ref q61, .int 0, .ref q62, .ref q63])), (q57, .inl (k64, 12, .inl (fun _ => 0))), (q58, .inl (k65, 12, .inl (fun _ => 0))), (q59, .inl (k66, 3, .inl (fun _ => 0)))] H := hP
  have hD : va_D A [(h0, .inr (10, [.ref q1, .ref q8, .ref q23, .ref q35, .ref q47, .ref q56, .null])), (q1, .inr (5, [.ref q2, .int 0, .int 0, .int (-1), .ref q3, .ref q4, .int 0, .int 0, .int 0, .int 0])), (q2, .inl (k5, 400, .inl (fun _ => 0))), (q3, .inl (k6, 16, .inl (fun _ => 0))), (q4, .inl (k7, 7, .inl (fun _ => 0))), (q8, .inr (8, [.ref q9, .ref q10, .int 0, .int 0, .ref q11, .int 0, .ref q12, .ref q13, .ref q14, .ref q15, .ref q16, .ref q17, .int 0, .int 0])), (q9, .inl (k18, 12, .inl (fun _ => 0))), (q10, .inl (k19, 12, .inl (fun _ => 0))), (q11, .inl (k20, 200, .inl (fun _ => 0))), (q16, .inl (k21, 8, .inl (fun _ => 0))), (q17, .inl (k22, 8, .inl (fun _ => 0))), (q23, .inr (6, [.ref q8, .ref q24, .int 0, .ref q25, .int 0, .int 0, .int 0, .ref q26, .ref q27, .ref q28, .ref q29, .ref q30, .int 0, .ref q31, .ref q32, .ref q33])), (q24, .inl (k34, 4, .inr (.inr (.inr (.inr (fun _ => none)))))), (q35, .inr (7, [.ref q23, .null, .ref q36, .ref q37, .ref q38, .ref q39, .ref q40, .ref q41, .ref q42, .ref q43, .ref q44, .ref q45, .ref q46, .int 0])), (q47, .inr (9, [.ref q23, .ref q35, .int (-1), .int 0, .ref q48, .null, .int 0, .ref q49, .ref q50, .int 0, .ref q51, .ref q52, .ref q53, .ref q54, .ref q55, .null])), (q56, .inr (1, [.ref q8, .int 0, .int 0, .int 0, .int 0, .int 0, .int 0, .int 0, .ref q57, .ref q58, .ref q59, .ref q60, .ref q61, .int 0, .ref q62, .ref q63])), (q57, .inl (k64, 12, .inl (fun _ => 0))), (q58, .inl (k65, 12, .inl (fun _ => 0))), (q59, .inl (k66, 3, .inl (fun _ => 0)))] := hD
  refine lv_aload_n hx hb dX10_init_90 rfl (lv_at hl 0 rfl) ?_
  refine va_new (ci := 4) (fs := [.null, .null, .null, .int 0, .null]) (C := RX4) (T := TX4) (N := 5) hx hb ht inX4 tyX4 tyX4_ok hown (ht _ kw_383) (ht _ kw_384) (ht _ kw_9) hK hP hD hS hA rfl nf_X4 (Nat.le_of_ble_eq_true rfl) (Nat.le_of_ble_eq_true rfl) dX10_init_91 (fun q67 H hP hD hS => ?_)
  have hP : va_P (dC, dI) vwCl [(h0, .inr (10, [.ref q1, .ref q8, .ref q23, .ref q35, .ref q47, .ref q56, .null])), (q1, .inr (5, [.ref q2, .int 0, .int 0, .int (-1), .ref q3, .ref q4, .int 0, .int 0, .int 0, .int 0])), (q2, .inl (k5, 400, .inl (fun _ => 0))), (q3, .inl (k6, 16, .inl (fun _ => 0))), (q4, .inl (k7, 7, .inl (fun _ => 0))), (q8, .inr (8, [.ref q9, .ref q10, .int 0, .int 0, .ref q11, .int 0, .ref q12, .ref q13, .ref q14, .ref q15, .ref q16, .ref q17, .int 0, .int 0])), (q9, .inl (k18, 12, .inl (fun _ => 0))), (q10, .inl (k19, 12, .inl (fun _ => 0))), (q11, .inl (k20, 200, .inl (fun _ => 0))), (q16, .inl (k21, 8, .inl (fun _ => 0))), (q17, .inl (k22, 8, .inl (fun _ => 0))), (q23, .inr (6, [.ref q8, .ref q24, .int 0, .ref q25, .int 0, .int 0, .int 0, .ref q26, .ref q27, .ref q28, .ref q29, .ref q30, .int 0, .ref q31, .ref q32, .ref q33])), (q24, .inl (k34, 4, .inr (.inr (.inr (.inr (fun _ => none)))))), (q35, .inr (7, [.ref q23, .null, .ref q36, .ref q37, .ref q38, .ref q39, .ref q40, .ref q41, .ref q42, .ref q43, .ref q44, .ref q45, .ref q46, .int 0])), (q47, .inr (9, [.ref q23, .ref q35, .int (-1), .int 0, .ref q48, .null, .int 0, .ref q49, .ref q50, .int 0, .ref q51, .ref q52, .ref q53, .ref q54, .ref q55, .null])), (q56, .inr (1, [.ref q8, .int 0, .int 0, .int 0, .int 0, .int 0, .int 0, .int 0, .ref q57, .ref q58, .ref q59, .ref q60, .ref q61, .int 0, .ref q62, .ref q63])), (q57, .inl (k64, 12, .inl (fun _ => 0))), (q58, .inl (k65, 12, .inl (fun _ => 0))), (q59, .inl (k66, 3, .inl (fun _ => 0))), (q67, .inr (4, [.null, .null, .null, .int 0, .null]))] H := hP
  have hD : va_D A [(h0, .inr (10, [.ref q1, .ref q8, .ref q23, .ref q35, .ref q47, .ref q56, .null])), (q1, .inr (5, [.ref q2, .int 0, .int 0, .int (-1), .ref q3, .ref q4, .int 0, .int 0, .int 0, .int 0])), (q2, .inl (k5, 400, .inl (fun _ => 0))), (q3, .inl (k6, 16, .inl (fun _ => 0))), (q4, .inl (k7, 7, .inl (fun _ => 0))), (q8, .inr (8, [.ref q9, .ref q10, .int 0, .int 0, .ref q11, .int 0, .ref q12, .ref q13, .ref q14, .ref q15, .ref q16, .ref q17, .int 0, .int 0])), (q9, .inl (k18, 12, .inl (fun _ => 0))), (q10, .inl (k19, 12, .inl (fun _ => 0))), (q11, .inl (k20, 200, .inl (fun _ => 0))), (q16, .inl (k21, 8, .inl (fun _ => 0))), (q17, .inl (k22, 8, .inl (fun _ => 0))), (q23, .inr (6, [.ref q8, .ref q24, .int 0, .ref q25, .int 0, .int 0, .int 0, .ref q26, .ref q27, .ref q28, .ref q29, .ref q30, .int 0, .ref q31, .ref q32, .ref q33])), (q24, .inl (k34, 4, .inr (.inr (.inr (.inr (fun _ => none)))))), (q35, .inr (7, [.ref q23, .null, .ref q36, .ref q37, .ref q38, .ref q39, .ref q40, .ref q41, .ref q42, .ref q43, .ref q44, .ref q45, .ref q46, .int 0])), (q47, .inr (9, [.ref q23, .ref q35, .int (-1), .int 0, .ref q48, .null, .int 0, .ref q49, .ref q50, .int 0, .ref q51, .ref q52, .ref q53, .ref q54, .ref q55, .null])), (q56, .inr (1, [.ref q8, .int 0, .int 0, .int 0, .int 0, .int 0, .int 0, .int 0, .ref q57, .ref q58, .ref q59, .ref q60, .ref q61, .int 0, .ref q62, .ref q63])), (q57, .inl (k64, 12, .inl (fun _ => 0))), (q58, .inl (k65, 12, .inl (fun _ => 0))), (q59, .inl (k66, 3, .inl (fun _ => 0))), (q67, .inr (4, [.null, .null, .null, .int 0, .null]))] := hD
  refine W.widen (k := 55) (n := 5921) (Nat.le_of_ble_eq_true rfl) (Nat.le_of_ble_eq_true rfl) ?_
  refine lv_dup hx hb dX10_init_94 rfl ?_
  refine lv_aload_n hx hb dX10_init_95 rfl (lv_at hl 0 rfl) ?_
  refine va_get (D := (dC, dI)) (ci := 10) (v := .ref q23) (C := RX10) (T := TX10) (N := 7) hx hb ht inX10 hown hK hP 0 rfl rfl 2 (by decide) (ht _ kw_407) (fun _ h9 => h9) rfl dX10_init_96 ?_
  refine lv_aload_n hx hb dX10_init_99 rfl (lv_at hl 0 rfl) ?_
  refine va_get (D := (dC, dI)) (ci := 10) (v := .ref q8) (C := RX10) (T := TX10) (N := 7) hx hb ht inX10 hown hK hP 0 rfl rfl 1 (by decide) (ht _ kw_406) (fun _ h9 => h9) rfl dX10_init_100 ?_
  have hPc := hP.sub (ws' := [(q67, .inr (4, [.null, .null, .null, .int 0, .null]))]) [19] rfl
  have hDc := hD.sub (ws' := [(q67, .inr (4, [.null, .null, .null, .int 0, .null]))]) [19] (by decide) rfl
  have hKc := hK.sub (tys' := []) [] rfl
  have hFc := va_free (wc := [(q67, .inr (4, [.null, .null, .null, .int 0, .null]))]) hD hS hA [19] rfl
  refine va_callv (va_runI (As := [.ref q23, .ref q8]) (rest := [.ref q67, .ref h0]) ⟨hx, hb, hml, hown, ht⟩ (ct_X4_init l dC dI q67 q23 q8 _ ) (cwI 2 ht gc_X4_init rfl rfl rfl (ht _ kw_9) (ht _ kw_385) (ht _ kw_386) rfl (by decide +kernel) ⟨Nat.le_of_ble_eq_true rfl, Nat.le_of_ble_eq_true rfl⟩) ⟨ro_blind, fun U hU hW => ⟨rfl, by rw [hU], by rw [hU]; exact hPc, va_K.moved hW.alike hKc, hDc.weaken (fun _ _ _ _ => trivial), ex_warm hW hE⟩⟩ rfl rfl hl.1 rfl (lv_room (Nat.le_of_ble_eq_true rfl)) dX10_init_103 ⟨Nat.le_of_ble_eq_true rfl, Nat.le_of_ble_eq_true rfl⟩) hS (fun q _ h => hFc q h) hFc (fun u t H1 locs ht1 hvm hw hB hz1 hk1 hS => ?_)
  obtain ⟨q68, q69, k70, hP1, hK1, hD1⟩ := hB
  rw [ht1] at hP1
  obtain ⟨hP, hD⟩ := va_join (wr := [(h0, .inr (10, [.ref q1, .ref q8, .ref q23, .ref q35, .ref q47, .ref q56, .null])), (q1, .inr (5, [.ref q2, .int 0, .int 0, .int (-1), .ref q3, .ref q4, .int 0, .int 0, .int 0, .int 0])), (q2, .inl (k5, 400, .inl (fun _ => 0))), (q3, .inl (k6, 16, .inl (fun _ => 0))), (q4, .inl (k7, 7, .inl (fun _ => 0))), (q8, .inr (8, [.ref q9, .ref q10, .int 0, .int 0, .ref q11, .int 0, .ref q12, .ref q13, .ref q14, .ref q15, .ref q16, .ref q17, .int 0, .int 0])), (q9, .inl (k18, 12, .inl (fun _ => 0))), (q10, .inl (k19, 12, .inl (fun _ => 0))), (q11, .inl (k20, 200, .inl (fun _ => 0))), (q16, .inl (k21, 8, .inl (fun _ => 0))), (q17, .inl (k22, 8, .inl (fun _ => 0))), (q23, .inr (6, [.ref q8, .ref q24, .int 0, .ref q25, .int 0, .int 0, .int 0, .ref q26, .ref q27, .ref q28, .ref q29, .ref q30, .int 0, .ref q31, .ref q32, .ref q33])), (q24, .inl (k34, 4, .inr (.inr (.inr (.inr (fun _ => none)))))), (q35, .inr (7, [.ref q23, .null, .ref q36, .ref q37, .ref q38, .ref q39, .ref q40, .ref q41, .ref q42, .ref q43, .ref q44, .ref q45, .ref q46, .int 0])), (q47, .inr (9, [.ref q23, .ref q35, .int (-1), .int 0, .ref q48, .null, .int 0, .ref q49, .ref q50, .int 0, .ref q51, .ref q52, .ref q53, .ref q54, .ref q55, .null])), (q56, .inr (1, [.ref q8, .int 0, .int 0, .int 0, .int 0, .int 0, .int 0, .int 0, .ref q57, .ref q58, .ref q59, .ref q60, .ref q61, .int 0, .ref q62, .ref q63])), (q57, .inl (k64, 12, .inl (fun _ => 0))), (q58, .inl (k65, 12, .inl (fun _ => 0))), (q59, .inl (k66, 3, .inl (fun _ => 0)))]) (w1 := [(q67, .inr (4, [.ref q23, .ref q8, .ref q68, .int 0, .ref q69])), (q69, .inl (k70, 1, .inl (fun _ => 0)))]) hP hD [19] [0, 1, 2, 3, 4, 5, 6, 7, 8, 9, 10, 11, 12, 13, 14, 15, 16, 17, 18] rfl rfl (by decide) (by decide) hk1 hFc hP1 hD1
  generalize H1 = H at hP hS ⊢
  have hK1 := va_K.moved hvm.symm hK1
  have hK := hK.app (hK1.sub (tys' := [(k70, .int)]) [0] rfl)
  have hK : va_K (dC, dI) vwCl [(k5, .int), (k6, .int), (k7, .int), (k18, .int), (k19, .int), (k20, .int), (k21, .int), (k22, .int), (k34, .object RX0), (k64, .int), (k65, .int), (k66, .int), (k70, .int)] s := hK
  have hP : va_P (dC, dI) vwCl [(h0, .inr (10, [.ref q1, .ref q8, .ref q23, .ref q35, .ref q47, .ref q56, .null])), (q1, .inr (5, [.ref q2, .int 0, .int 0, .int (-1), .ref q3, .ref q4, .int 0, .int 0, .int 0, .int 0])), (q2, .inl (k5, 400, .inl (fun _ => 0))), (q3, .inl (k6, 16, .inl (fun _ => 0))), (q4, .inl (k7, 7, .inl (fun _ => 0))), (q8, .inr (8, [.ref q9, .ref q10, .int 0, .int 0, .ref q11, .int 0, .ref q12, .ref q13, .ref q14, .ref q15, .ref q16, .ref q17, .int 0, .int 0])), (q9, .inl (k18, 12, .inl (fun _ => 0))), (q10, .inl (k19, 12, .inl (fun _ => 0))), (q11, .inl (k20, 200, .inl (fun _ => 0))), (q16, .inl (k21, 8, .inl (fun _ => 0))), (q17, .inl (k22, 8, .inl (fun _ => 0))), (q23, .inr (6, [.ref q8, .ref q24, .int 0, .ref q25, .int 0, .int 0, .int 0, .ref q26, .ref q27, .ref q28, .ref q29, .ref q30, .int 0, .ref q31, .ref q32, .ref q33])), (q24, .inl (k34, 4, .inr (.inr (.inr (.inr (fun _ => none)))))), (q35, .inr (7, [.ref q23, .null, .ref q36, .ref q37, .ref q38, .ref q39, .ref q40, .ref q41, .ref q42, .ref q43, .ref q44, .ref q45, .ref q46, .int 0])), (q47, .inr (9, [.ref q23, .ref q35, .int (-1), .int 0, .ref q48, .null, .int 0, .ref q49, .ref q50, .int 0, .ref q51, .ref q52, .ref q53, .ref q54, .ref q55, .null])), (q56, .inr (1, [.ref q8, .int 0, .int 0, .int 0, .int 0, .int 0, .int 0, .int 0, .ref q57, .ref q58, .ref q59, .ref q60, .ref q61, .int 0, .ref q62, .ref q63])), (q57, .inl (k64, 12, .inl (fun _ => 0))), (q58, .inl (k65, 12, .inl (fun _ => 0))), (q59, .inl (k66, 3, .inl (fun _ => 0))), (q67, .inr (4, [.ref q23, .ref q8, .ref q68, .int 0, .ref q69])), (q69, .inl (k70, 1, .inl (fun _ => 0)))] H := hP
  have hD : va_D A [(h0, .inr (10, [.ref q1, .ref q8, .ref q23, .ref q35, .ref q47, .ref q56, .null])), (q1, .inr (5, [.ref q2, .int 0, .int 0, .int (-1), .ref q3, .ref q4, .int 0, .int 0, .int 0, .int 0])), (q2, .inl (k5, 400, .inl (fun _ => 0))), (q3, .inl (k6, 16, .inl (fun _ => 0))), (q4, .inl (k7, 7, .inl (fun _ => 0))), (q8, .inr (8, [.ref q9, .ref q10, .int 0, .int 0, .ref q11, .int 0, .ref q12, .ref q13, .ref q14, .ref q15, .ref q16, .ref q17, .int 0, .int 0])), (q9, .inl (k18, 12, .inl (fun _ => 0))), (q10, .inl (k19, 12, .inl (fun _ => 0))), (q11, .inl (k20, 200, .inl (fun _ => 0))), (q16, .inl (k21, 8, .inl (fun _ => 0))), (q17, .inl (k22, 8, .inl (fun _ => 0))), (q23, .inr (6, [.ref q8, .ref q24, .int 0, .ref q25, .int 0, .int 0, .int 0, .ref q26, .ref q27, .ref q28, .ref q29, .ref q30, .int 0, .ref q31, .ref q32, .ref q33])), (q24, .inl (k34, 4, .inr (.inr (.inr (.inr (fun _ => none)))))), (q35, .inr (7, [.ref q23, .null, .ref q36, .ref q37, .ref q38, .ref q39, .ref q40, .ref q41, .ref q42, .ref q43, .ref q44, .ref q45, .ref q46, .int 0])), (q47, .inr (9, [.ref q23, .ref q35, .int (-1), .int 0, .ref q48, .null, .int 0, .ref q49, .ref q50, .int 0, .ref q51, .ref q52, .ref q53, .ref q54, .ref q55, .null])), (q56, .inr (1, [.ref q8, .int 0, .int 0, .int 0, .int 0, .int 0, .int 0, .int 0, .ref q57, .ref q58, .ref q59, .ref q60, .ref q61, .int 0, .ref q62, .ref q63])), (q57, .inl (k64, 12, .inl (fun _ => 0))), (q58, .inl (k65, 12, .inl (fun _ => 0))), (q59, .inl (k66, 3, .inl (fun _ => 0))), (q67, .inr (4, [.ref q23, .ref q8, .ref q68, .int 0, .ref q69])), (q69, .inl (k70, 1, .inl (fun _ => 0)))] := hD
  refine W.widen (k := 57) (n := 6322) (Nat.le_of_ble_eq_true rfl) (Nat.le_of_ble_eq_true rfl) ?_
  refine va_putF (D := (dC, dI)) (ci := 10) (v := .ref q67) (ty := .object "SportsHouse$Referees") (C := RX10) (T := TX10) (N := 7) hx hb ht inX10 tyX10 tyX10_ok nmX10 hown hK hP hD hS 0 rfl rfl 6 (by decide) (ht _ kw_411) (fun _ h9 => h9) rfl hin rfl (by decide +kernel) rfl rfl (Nat.le_of_ble_eq_true rfl) dX10_init_106 (fun H locs hP hD hS => ?_)
  have hP : va_P (dC, dI) vwCl [(h0, .inr (10, [.ref q1, .ref q8, .ref q23, .ref q35, .ref q47, .ref q56, .ref q67])), (q1, .inr (5, [.ref q2, .int 0, .int 0, .int (-1), .ref q3, .ref q4, .int 0, .int 0, .int 0, .int 0])), (q2, .inl (k5, 400, .inl (fun _ => 0))), (q3, .inl (k6, 16, .inl (fun _ => 0))), (q4, .inl (k7, 7, .inl (fun _ => 0))), (q8, .inr (8, [.ref q9, .ref q10, .int 0, .int 0, .ref q11, .int 0, .ref q12, .ref q13, .ref q14, .ref q15, .ref q16, .ref q17, .int 0, .int 0])), (q9, .inl (k18, 12, .inl (fun _ => 0))), (q10, .inl (k19, 12, .inl (fun _ => 0))), (q11, .inl (k20, 200, .inl (fun _ => 0))), (q16, .inl (k21, 8, .inl (fun _ => 0))), (q17, .inl (k22, 8, .inl (fun _ => 0))), (q23, .inr (6, [.ref q8, .ref q24, .int 0, .ref q25, .int 0, .int 0, .int 0, .ref q26, .ref q27, .ref q28, .ref q29, .ref q30, .int 0, .ref q31, .ref q32, .ref q33])), (q24, .inl (k34, 4, .inr (.inr (.inr (.inr (fun _ => none)))))), (q35, .inr (7, [.ref q23, .null, .ref q36, .ref q37, .ref q38, .ref q39, .ref q40, .ref q41, .ref q42, .ref q43, .ref q44, .ref q45, .ref q46, .int 0])), (q47, .inr (9, [.ref q23, .ref q35, .int (-1), .int 0, .ref q48, .null, .int 0, .ref q49, .ref q50, .int 0, .ref q51, .ref q52, .ref q53, .ref q54, .ref q55, .null])), (q56, .inr (1, [.ref q8, .int 0, .int 0, .int 0, .int 0, .int 0, .int 0, .int 0, .ref q57, .ref q58, .ref q59, .ref q60, .ref q61, .int 0, .ref q62, .ref q63])), (q57, .inl (k64, 12, .inl (fun _ => 0))), (q58, .inl (k65, 12, .inl (fun _ => 0))), (q59, .inl (k66, 3, .inl (fun _ => 0))), (q67, .inr (4, [.ref q23, .ref q8, .ref q68, .int 0, .ref q69])), (q69, .inl (k70, 1, .inl (fun _ => 0)))] H := hP
  have hD : va_D A [(h0, .inr (10, [.ref q1, .ref q8, .ref q23, .ref q35, .ref q47, .ref q56, .ref q67])), (q1, .inr (5, [.ref q2, .int 0, .int 0, .int (-1), .ref q3, .ref q4, .int 0, .int 0, .int 0, .int 0])), (q2, .inl (k5, 400, .inl (fun _ => 0))), (q3, .inl (k6, 16, .inl (fun _ => 0))), (q4, .inl (k7, 7, .inl (fun _ => 0))), (q8, .inr (8, [.ref q9, .ref q10, .int 0, .int 0, .ref q11, .int 0, .ref q12, .ref q13, .ref q14, .ref q15, .ref q16, .ref q17, .int 0, .int 0])), (q9, .inl (k18, 12, .inl (fun _ => 0))), (q10, .inl (k19, 12, .inl (fun _ => 0))), (q11, .inl (k20, 200, .inl (fun _ => 0))), (q16, .inl (k21, 8, .inl (fun _ => 0))), (q17, .inl (k22, 8, .inl (fun _ => 0))), (q23, .inr (6, [.ref q8, .ref q24, .int 0, .ref q25, .int 0, .int 0, .int 0, .ref q26, .ref q27, .ref q28, .ref q29, .ref q30, .int 0, .ref q31, .ref q32, .ref q33])), (q24, .inl (k34, 4, .inr (.inr (.inr (.inr (fun _ => none)))))), (q35, .inr (7, [.ref q23, .null, .ref q36, .ref q37, .ref q38, .ref q39, .ref q40, .ref q41, .ref q42, .ref q43, .ref q44, .ref q45, .ref q46, .int 0])), (q47, .inr (9, [.ref q23, .ref q35, .int (-1), .int 0, .ref q48, .null, .int 0, .ref q49, .ref q50, .int 0, .ref q51, .ref q52, .ref q53, .ref q54, .ref q55, .null])), (q56, .inr (1, [.ref q8, .int 0, .int 0, .int 0, .int 0, .int 0, .int 0, .int 0, .ref q57, .ref q58, .ref q59, .ref q60, .ref q61, .int 0, .ref q62, .ref q63])), (q57, .inl (k64, 12, .inl (fun _ => 0))), (q58, .inl (k65, 12, .inl (fun _ => 0))), (q59, .inl (k66, 3, .inl (fun _ => 0))), (q67, .inr (4, [.ref q23, .ref q8, .ref q68, .int 0, .ref q69])), (q69, .inl (k70, 1, .inl (fun _ => 0)))] := hD
  have hP := hP.sub (ws' := [(h0, .inr (10, [.ref q1, .ref q8, .ref q23, .ref q35, .ref q47, .ref q56, .ref q67])), (q1, .inr (5, [.ref q2, .int 0, .int 0, .int (-1), .ref q3, .ref q4, .int 0, .int 0, .int 0, .int 0])), (q2, .inl (k5, 400, .inl (fun _ => 0))), (q3, .inl (k6, 16, .inl (fun _ => 0))), (q4, .inl (k7, 7, .inl (fun _ => 0))), (q8, .inr (8, [.ref q9, .ref q10, .int 0, .int 0, .ref q11, .int 0, .ref q12, .ref q13, .ref q14, .ref q15, .ref q16, .ref q17, .int 0, .int 0])), (q9, .inl (k18, 12, .inl (fun _ => 0))), (q10, .inl (k19, 12, .inl (fun _ => 0))), (q11, .inl (k20, 200, .inl (fun _ => 0))), (q16, .inl (k21, 8, .inl (fun _ => 0))), (q17, .inl (k22, 8, .inl (fun _ => 0))), (q23, .inr (6, [.ref q8, .ref q24, .int 0, .ref q25, .int 0, .int 0, .int 0, .ref q26, .ref q27, .ref q28, .ref q29, .ref q30, .int 0, .ref q31, .ref q32, .ref q33])), (q24, .inl (k34, 4, .inr (.inr (.inr (.inr (fun _ => none)))))), (q47, .inr (9, [.ref q23, .ref q35, .int (-1), .int 0, .ref q48, .null, .int 0, .ref q49, .ref q50, .int 0, .ref q51, .ref q52, .ref q53, .ref q54, .ref q55, .null])), (q56, .inr (1, [.ref q8, .int 0, .int 0, .int 0, .int 0, .int 0, .int 0, .int 0, .ref q57, .ref q58, .ref q59, .ref q60, .ref q61, .int 0, .ref q62, .ref q63])), (q57, .inl (k64, 12, .inl (fun _ => 0))), (q58, .inl (k65, 12, .inl (fun _ => 0))), (q59, .inl (k66, 3, .inl (fun _ => 0))), (q67, .inr (4, [.ref q23, .ref q8, .ref q68, .int 0, .ref q69])), (q69, .inl (k70, 1, .inl (fun _ => 0)))]) [0, 1, 2, 3, 4, 5, 6, 7, 8, 9, 10, 11, 12, 14, 15, 16, 17, 18, 19, 20] rfl
  have hD := hD.sub (ws' := [(h0, .inr (10, [.ref q1, .ref q8, .ref q23, .ref q35, .ref q47, .ref q56, .ref q67])), (q1, .inr (5, [.ref q2, .int 0, .int 0, .int (-1), .ref q3, .ref q4, .int 0, .int 0, .int 0, .int 0])), (q2, .inl (k5, 400, .inl (fun _ => 0))), (q3, .inl (k6, 16, .inl (fun _ => 0))), (q4, .inl (k7, 7, .inl (fun _ => 0))), (q8, .inr (8, [.ref q9, .ref q10, .int 0, .int 0, .ref q11, .int 0, .ref q12, .ref q13, .ref q14, .ref q15, .ref q16, .ref q17, .int 0, .int 0])), (q9, .inl (k18, 12, .inl (fun _ => 0))), (q10, .inl (k19, 12, .inl (fun _ => 0))), (q11, .inl (k20, 200, .inl (fun _ => 0))), (q16, .inl (k21, 8, .inl (fun _ => 0))), (q17, .inl (k22, 8, .inl (fun _ => 0))), (q23, .inr (6, [.ref q8, .ref q24, .int 0, .ref q25, .int 0, .int 0, .int 0, .ref q26, .ref q27, .ref q28, .ref q29, .ref q30, .int 0, .ref q31, .ref q32, .ref q33])), (q24, .inl (k34, 4, .inr (.inr (.inr (.inr (fun _ => none)))))), (q47, .inr (9, [.ref q23, .ref q35, .int (-1), .int 0, .ref q48, .null, .int 0, .ref q49, .ref q50, .int 0, .ref q51, .ref q52, .ref q53, .ref q54, .ref q55, .null])), (q56, .inr (1, [.ref q8, .int 0, .int 0, .int 0, .int 0, .int 0, .int 0, .int 0, .ref q57, .ref q58, .ref q59, .ref q60, .ref q61, .int 0, .ref q62, .ref q63])), (q57, .inl (k64, 12, .inl (fun _ => 0))), (q58, .inl (k65, 12, .inl (fun _ => 0))), (q59, .inl (k66, 3, .inl (fun _ => 0))), (q67, .inr (4, [.ref q23, .ref q8, .ref q68, .int 0, .ref q69])), (q69, .inl (k70, 1, .inl (fun _ => 0)))]) [0, 1, 2, 3, 4, 5, 6, 7, 8, 9, 10, 11, 12, 14, 15, 16, 17, 18, 19, 20] (by decide) rfl
  have hK := hK.sub (tys' := [(k5, .int), (k6, .int), (k7, .int), (k18, .int), (k19, .int), (k20, .int), (k21, .int), (k22, .int), (k34, .object RX0), (k64, .int), (k65, .int), (k66, .int), (k70, .int)]) [0, 1, 2, 3, 4, 5, 6, 7, 8, 9, 10, 11, 12] rfl
  exact W.vret hx hb hr (fun t ht9 hW => ⟨⟨(), rfl, trivial, q1, q8, q23, q35, q47, q56, q67, q2, q3, q4, k5, k6, k7, q9, q10, q11, q12, q13, q14, q15, q16, q17, k18, k19, k20, k21, k22, q24, q25, q26, q27, q28, q29, q30, q31, q32, q33, k34, q48, q49, q50, q51, q52, q53, q54, q55, q57, q58, q59, q60, q61, q62, q63, k64, k65, k66, q68, q69, k70, by rw [ht9]; exact hP, va_K.moved hW.alike hK, hD⟩, hS.F ht9⟩) hS.2.2 dX10_init_109
end
