def RX0 : String := "SportsHouse$Competition"
def TX0 : u_T := fun k => match k with
  | 0 => ("SportsHouse$Competition", "number", "I", true)
  | 1 => ("SportsHouse$Competition", "rules", "[I", true)
  | 2 => ("SportsHouse$Competition", "keys", "[I", true)
  | 3 => ("SportsHouse$Competition", "clubs", "[I", true)
  | 4 => ("SportsHouse$Competition", "seat", "[I", true)
  | 5 => ("SportsHouse$Competition", "entered", "I", false)
  | 6 => ("SportsHouse$Competition", "planned", "Z", false)
  | 7 => ("SportsHouse$Competition", "firstMatch", "I", false)
  | _ => ("SportsHouse$Competition", "matchCount", "I", false)
def tyX0 : Nat → FieldType := fun k => match k with
  | 0 => .int
  | 1 => .array .int
  | 2 => .array .int
  | 3 => .array .int
  | 4 => .array .int
  | 5 => .int
  | 6 => .boolean
  | 7 => .int
  | _ => .int
abbrev wsX00 : List Cond := u_ws RX0 TX0 9
theorem nmX0 : ∀ a, a < 9 → ∀ b, b < 9 → a ≠ b → (TX0 a).2.1 ≠ (TX0 b).2.1 := by decide +kernel
theorem tyX0_ok : ∀ k, k < 9 → parseFieldDescriptor (TX0 k).2.2.1 = some (tyX0 k) := by decide +kernel
def RX1 : String := "SportsHouse$Lots"
def TX1 : u_T := fun k => match k with
  | 0 => ("SportsHouse$Lots", "things", "LSportsHouse$Things;", true)
  | 1 => ("SportsHouse$Lots", "groups", "I", false)
  | 2 => ("SportsHouse$Lots", "limit", "I", false)
  | 3 => ("SportsHouse$Lots", "clubCount", "I", false)
  | 4 => ("SportsHouse$Lots", "drawnCount", "I", false)
  | 5 => ("SportsHouse$Lots", "random", "I", false)
  | 6 => ("SportsHouse$Lots", "total", "I", false)
  | 7 => ("SportsHouse$Lots", "fresh", "Z", false)
  | 8 => ("SportsHouse$Lots", "potOf", "[I", true)
  | 9 => ("SportsHouse$Lots", "groupOf", "[I", true)
  | 10 => ("SportsHouse$Lots", "potSize", "[I", true)
  | 11 => ("SportsHouse$Lots", "with", "[I", true)
  | 12 => ("SportsHouse$Lots", "waiting", "[I", true)
  | 13 => ("SportsHouse$Lots", "waitingCount", "I", false)
  | 14 => ("SportsHouse$Lots", "taken", "[I", true)
  | _ => ("SportsHouse$Lots", "countrymen", "[I", true)
def tyX1 : Nat → FieldType := fun k => match k with
  | 0 => .object "SportsHouse$Things"
  | 1 => .int
  | 2 => .int
  | 3 => .int
  | 4 => .int
  | 5 => .int
  | 6 => .int
  | 7 => .boolean
  | 8 => .array .int
  | 9 => .array .int
  | 10 => .array .int
  | 11 => .array .int
  | 12 => .array .int
  | 13 => .int
  | 14 => .array .int
  | _ => .array .int
abbrev wsX10 : List Cond := u_ws RX1 TX1 16
theorem nmX1 : ∀ a, a < 16 → ∀ b, b < 16 → a ≠ b → (TX1 a).2.1 ≠ (TX1 b).2.1 := by decide +kernel
theorem tyX1_ok : ∀ k, k < 16 → parseFieldDescriptor (TX1 k).2.2.1 = some (tyX1 k) := by decide +kernel
def RX2 : String := "SportsHouse$Match"
def TX2 : u_T := fun k => match k with
  | 0 => ("SportsHouse$Match", "contest", "LSportsHouse$Competition;", true)
  | 1 => ("SportsHouse$Match", "number", "I", true)
  | 2 => ("SportsHouse$Match", "round", "I", true)
  | 3 => ("SportsHouse$Match", "home", "I", true)
  | 4 => ("SportsHouse$Match", "away", "I", true)
  | 5 => ("SportsHouse$Match", "date", "I", false)
  | 6 => ("SportsHouse$Match", "absent", "I", false)
  | 7 => ("SportsHouse$Match", "referee", "I", false)
  | 8 => ("SportsHouse$Match", "sheet", "[I", true)
  | 9 => ("SportsHouse$Match", "listed", "[I", true)
  | _ => ("SportsHouse$Match", "play", "LSportsHouse$Play;", false)
def tyX2 : Nat → FieldType := fun k => match k with
  | 0 => .object "SportsHouse$Competition"
  | 1 => .int
  | 2 => .int
  | 3 => .int
  | 4 => .int
  | 5 => .int
  | 6 => .int
  | 7 => .int
  | 8 => .array .int
  | 9 => .array .int
  | _ => .object "SportsHouse$Play"
abbrev wsX20 : List Cond := u_ws RX2 TX2 11
theorem nmX2 : ∀ a, a < 11 → ∀ b, b < 11 → a ≠ b → (TX2 a).2.1 ≠ (TX2 b).2.1 := by decide +kernel
theorem tyX2_ok : ∀ k, k < 11 → parseFieldDescriptor (TX2 k).2.2.1 = some (tyX2 k) := by decide +kernel
def RX3 : String := "SportsHouse$Play"
def TX3 : u_T := fun k => match k with
  | 0 => ("SportsHouse$Play", "rules", "[I", true)
  | 1 => ("SportsHouse$Play", "sheet", "[I", true)
  | 2 => ("SportsHouse$Play", "listed", "[I", true)
  | 3 => ("SportsHouse$Play", "ended", "Z", false)
  | 4 => ("SportsHouse$Play", "phase", "I", false)
  | 5 => ("SportsHouse$Play", "server", "I", false)
  | 6 => ("SportsHouse$Play", "points", "[I", true)
  | 7 => ("SportsHouse$Play", "games", "[I", true)
  | 8 => ("SportsHouse$Play", "score", "[I", true)
  | 9 => ("SportsHouse$Play", "changes", "[I", true)
  | 10 => ("SportsHouse$Play", "fielded", "[I", true)
  | 11 => ("SportsHouse$Play", "field", "[I", true)
  | 12 => ("SportsHouse$Play", "role", "[I", true)
  | 13 => ("SportsHouse$Play", "yellows", "[I", true)
  | 14 => ("SportsHouse$Play", "log", "[I", false)
  | 15 => ("SportsHouse$Play", "logged", "I", false)
  | 16 => ("SportsHouse$Play", "aside", "[I", false)
  | _ => ("SportsHouse$Play", "asides", "I", false)
def tyX3 : Nat → FieldType := fun k => match k with
  | 0 => .array .int
  | 1 => .array .int
  | 2 => .array .int
  | 3 => .boolean
  | 4 => .int
  | 5 => .int
  | 6 => .array .int
  | 7 => .array .int
  | 8 => .array .int
  | 9 => .array .int
  | 10 => .array .int
  | 11 => .array .int
  | 12 => .array .int
  | 13 => .array .int
  | 14 => .array .int
  | 15 => .int
  | 16 => .array .int
  | _ => .int
abbrev wsX30 : List Cond := u_ws RX3 TX3 18
theorem nmX3 : ∀ a, a < 18 → ∀ b, b < 18 → a ≠ b → (TX3 a).2.1 ≠ (TX3 b).2.1 := by decide +kernel
theorem tyX3_ok : ∀ k, k < 18 → parseFieldDescriptor (TX3 k).2.2.1 = some (tyX3 k) := by decide +kernel
def RX4 : String := "SportsHouse$Referees"
def TX4 : u_T := fun k => match k with
  | 0 => ("SportsHouse$Referees", "season", "LSportsHouse$Season;", true)
  | 1 => ("SportsHouse$Referees", "things", "LSportsHouse$Things;", true)
  | 2 => ("SportsHouse$Referees", "toServe", "[I", true)
  | 3 => ("SportsHouse$Referees", "serveCount", "I", false)
  | _ => ("SportsHouse$Referees", "best", "[I", false)
def tyX4 : Nat → FieldType := fun k => match k with
  | 0 => .object "SportsHouse$Season"
  | 1 => .object "SportsHouse$Things"
  | 2 => .array .int
  | 3 => .int
  | _ => .array .int
abbrev wsX40 : List Cond := u_ws RX4 TX4 5
theorem nmX4 : ∀ a, a < 5 → ∀ b, b < 5 → a ≠ b → (TX4 a).2.1 ≠ (TX4 b).2.1 := by decide +kernel
theorem tyX4_ok : ∀ k, k < 5 → parseFieldDescriptor (TX4 k).2.2.1 = some (tyX4 k) := by decide +kernel
def RX5 : String := "SportsHouse$RuleText"
def TX5 : u_T := fun k => match k with
  | 0 => ("SportsHouse$RuleText", "bytes", "[I", true)
  | 1 => ("SportsHouse$RuleText", "length", "I", false)
  | 2 => ("SportsHouse$RuleText", "faultKind", "I", false)
  | 3 => ("SportsHouse$RuleText", "faultAt", "I", false)
  | 4 => ("SportsHouse$RuleText", "values", "[I", true)
  | 5 => ("SportsHouse$RuleText", "keys", "[I", true)
  | 6 => ("SportsHouse$RuleText", "toldBits", "I", false)
  | 7 => ("SportsHouse$RuleText", "tokenKind", "I", false)
  | 8 => ("SportsHouse$RuleText", "tokenStart", "I", false)
  | _ => ("SportsHouse$RuleText", "tokenEnd", "I", false)
def tyX5 : Nat → FieldType := fun k => match k with
  | 0 => .array .int
  | 1 => .int
  | 2 => .int
  | 3 => .int
  | 4 => .array .int
  | 5 => .array .int
  | 6 => .int
  | 7 => .int
  | 8 => .int
  | _ => .int
abbrev wsX50 : List Cond := u_ws RX5 TX5 10
theorem nmX5 : ∀ a, a < 10 → ∀ b, b < 10 → a ≠ b → (TX5 a).2.1 ≠ (TX5 b).2.1 := by decide +kernel
theorem tyX5_ok : ∀ k, k < 10 → parseFieldDescriptor (TX5 k).2.2.1 = some (tyX5 k) := by decide +kernel
def RX6 : String := "SportsHouse$Season"
def TX6 : u_T := fun k => match k with
  | 0 => ("SportsHouse$Season", "things", "LSportsHouse$Things;", true)
  | 1 => ("SportsHouse$Season", "competitions", "[LSportsHouse$Competition;", true)
  | 2 => ("SportsHouse$Season", "competitionCount", "I", false)
  | 3 => ("SportsHouse$Season", "matches", "[LSportsHouse$Match;", true)
  | 4 => ("SportsHouse$Season", "matchCount", "I", false)
  | 5 => ("SportsHouse$Season", "rowCount", "I", false)
  | 6 => ("SportsHouse$Season", "deductions", "I", false)
  | 7 => ("SportsHouse$Season", "deductedIn", "[I", true)
  | 8 => ("SportsHouse$Season", "deductedFrom", "[I", true)
  | 9 => ("SportsHouse$Season", "deductedPoints", "[I", true)
  | 10 => ("SportsHouse$Season", "deductedOn", "[I", true)
  | 11 => ("SportsHouse$Season", "movedMatches", "[I", true)
  | 12 => ("SportsHouse$Season", "movedCount", "I", false)
  | 13 => ("SportsHouse$Season", "listed", "[I", true)
  | 14 => ("SportsHouse$Season", "datesBefore", "[I", true)
  | _ => ("SportsHouse$Season", "blocked", "[I", true)
def tyX6 : Nat → FieldType := fun k => match k with
  | 0 => .object "SportsHouse$Things"
  | 1 => .array (.object "SportsHouse$Competition")
  | 2 => .int
  | 3 => .array (.object "SportsHouse$Match")
  | 4 => .int
  | 5 => .int
  | 6 => .int
  | 7 => .array .int
  | 8 => .array .int
  | 9 => .array .int
  | 10 => .array .int
  | 11 => .array .int
  | 12 => .int
  | 13 => .array .int
  | 14 => .array .int
  | _ => .array .int
abbrev wsX60 : List Cond := u_ws RX6 TX6 16
theorem nmX6 : ∀ a, a < 16 → ∀ b, b < 16 → a ≠ b → (TX6 a).2.1 ≠ (TX6 b).2.1 := by decide +kernel
theorem tyX6_ok : ∀ k, k < 16 → parseFieldDescriptor (TX6 k).2.2.1 = some (tyX6 k) := by decide +kernel
def RX7 : String := "SportsHouse$Standings"
def TX7 : u_T := fun k => match k with
  | 0 => ("SportsHouse$Standings", "season", "LSportsHouse$Season;", true)
  | 1 => ("SportsHouse$Standings", "contest", "LSportsHouse$Competition;", false)
  | 2 => ("SportsHouse$Standings", "lines", "[I", true)
  | 3 => ("SportsHouse$Standings", "away", "[I", true)
  | 4 => ("SportsHouse$Standings", "fair", "[I", true)
  | 5 => ("SportsHouse$Standings", "headPoints", "[I", true)
  | 6 => ("SportsHouse$Standings", "headScored", "[I", true)
  | 7 => ("SportsHouse$Standings", "order", "[I", true)
  | 8 => ("SportsHouse$Standings", "partedBy", "[I", true)
  | 9 => ("SportsHouse$Standings", "worth", "[J", true)
  | 10 => ("SportsHouse$Standings", "waitingFrom", "[I", true)
  | 11 => ("SportsHouse$Standings", "waitingTo", "[I", true)
  | 12 => ("SportsHouse$Standings", "waitingKey", "[I", true)
  | _ => ("SportsHouse$Standings", "waiting", "I", false)
def tyX7 : Nat → FieldType := fun k => match k with
  | 0 => .object "SportsHouse$Season"
  | 1 => .object "SportsHouse$Competition"
  | 2 => .array .int
  | 3 => .array .int
  | 4 => .array .int
  | 5 => .array .int
  | 6 => .array .int
  | 7 => .array .int
  | 8 => .array .int
  | 9 => .array .long
  | 10 => .array .int
  | 11 => .array .int
  | 12 => .array .int
  | _ => .int
abbrev wsX70 : List Cond := u_ws RX7 TX7 14
theorem nmX7 : ∀ a, a < 14 → ∀ b, b < 14 → a ≠ b → (TX7 a).2.1 ≠ (TX7 b).2.1 := by decide +kernel
theorem tyX7_ok : ∀ k, k < 14 → parseFieldDescriptor (TX7 k).2.2.1 = some (tyX7 k) := by decide +kernel
def RX8 : String := "SportsHouse$Things"
def TX8 : u_T := fun k => match k with
  | 0 => ("SportsHouse$Things", "stadium", "[I", true)
  | 1 => ("SportsHouse$Things", "country", "[I", true)
  | 2 => ("SportsHouse$Things", "clubs", "I", false)
  | 3 => ("SportsHouse$Things", "persons", "I", false)
  | 4 => ("SportsHouse$Things", "firstSpan", "[I", true)
  | 5 => ("SportsHouse$Things", "spans", "I", false)
  | 6 => ("SportsHouse$Things", "spanClub", "[I", true)
  | 7 => ("SportsHouse$Things", "spanFrom", "[I", true)
  | 8 => ("SportsHouse$Things", "spanTo", "[I", true)
  | 9 => ("SportsHouse$Things", "nextSpan", "[I", true)
  | 10 => ("SportsHouse$Things", "officialHome", "[I", true)
  | 11 => ("SportsHouse$Things", "officialCountry", "[I", true)
  | 12 => ("SportsHouse$Things", "officials", "I", false)
  | _ => ("SportsHouse$Things", "today", "I", false)
def tyX8 : Nat → FieldType := fun k => match k with
  | 0 => .array .int
  | 1 => .array .int
  | 2 => .int
  | 3 => .int
  | 4 => .array .int
  | 5 => .int
  | 6 => .array .int
  | 7 => .array .int
  | 8 => .array .int
  | 9 => .array .int
  | 10 => .array .int
  | 11 => .array .int
  | 12 => .int
  | _ => .int
abbrev wsX80 : List Cond := u_ws RX8 TX8 14
theorem nmX8 : ∀ a, a < 14 → ∀ b, b < 14 → a ≠ b → (TX8 a).2.1 ≠ (TX8 b).2.1 := by decide +kernel
theorem tyX8_ok : ∀ k, k < 14 → parseFieldDescriptor (TX8 k).2.2.1 = some (tyX8 k) := by decide +kernel
def RX9 : String := "SportsHouse$Title"
def TX9 : u_T := fun k => match k with
  | 0 => ("SportsHouse$Title", "season", "LSportsHouse$Season;", true)
  | 1 => ("SportsHouse$Title", "standings", "LSportsHouse$Standings;", true)
  | 2 => ("SportsHouse$Title", "answer", "I", false)
  | 3 => ("SportsHouse$Title", "cutBits", "I", false)
  | 4 => ("SportsHouse$Title", "results", "[I", true)
  | 5 => ("SportsHouse$Title", "contest", "LSportsHouse$Competition;", false)
  | 6 => ("SportsHouse$Title", "best", "I", false)
  | 7 => ("SportsHouse$Title", "points", "[I", true)
  | 8 => ("SportsHouse$Title", "open", "[I", true)
  | 9 => ("SportsHouse$Title", "openCount", "I", false)
  | 10 => ("SportsHouse$Title", "homeParts", "[I", true)
  | 11 => ("SportsHouse$Title", "cap", "[I", true)
  | 12 => ("SportsHouse$Title", "load", "[I", true)
  | 13 => ("SportsHouse$Title", "via", "[I", true)
  | 14 => ("SportsHouse$Title", "queue", "[I", true)
  | _ => ("SportsHouse$Title", "slack", "[I", false)
def tyX9 : Nat → FieldType := fun k => match k with
  | 0 => .object "SportsHouse$Season"
  | 1 => .object "SportsHouse$Standings"
  | 2 => .int
  | 3 => .int
  | 4 => .array .int
  | 5 => .object "SportsHouse$Competition"
  | 6 => .int
  | 7 => .array .int
  | 8 => .array .int
  | 9 => .int
  | 10 => .array .int
  | 11 => .array .int
  | 12 => .array .int
  | 13 => .array .int
  | 14 => .array .int
  | _ => .array .int
abbrev wsX90 : List Cond := u_ws RX9 TX9 16
theorem nmX9 : ∀ a, a < 16 → ∀ b, b < 16 → a ≠ b → (TX9 a).2.1 ≠ (TX9 b).2.1 := by decide +kernel
theorem tyX9_ok : ∀ k, k < 16 → parseFieldDescriptor (TX9 k).2.2.1 = some (tyX9 k) := by decide +kernel
def RX10 : String := "SportsHouse"
def TX10 : u_T := fun k => match k with
  | 0 => ("SportsHouse", "text", "LSportsHouse$RuleText;", true)
  | 1 => ("SportsHouse", "things", "LSportsHouse$Things;", true)
  | 2 => ("SportsHouse", "season", "LSportsHouse$Season;", true)
  | 3 => ("SportsHouse", "standings", "LSportsHouse$Standings;", true)
  | 4 => ("SportsHouse", "title", "LSportsHouse$Title;", true)
  | 5 => ("SportsHouse", "lots", "LSportsHouse$Lots;", true)
  | _ => ("SportsHouse", "referees", "LSportsHouse$Referees;", true)
def tyX10 : Nat → FieldType := fun k => match k with
  | 0 => .object "SportsHouse$RuleText"
  | 1 => .object "SportsHouse$Things"
  | 2 => .object "SportsHouse$Season"
  | 3 => .object "SportsHouse$Standings"
  | 4 => .object "SportsHouse$Title"
  | 5 => .object "SportsHouse$Lots"
  | _ => .object "SportsHouse$Referees"
abbrev wsX100 : List Cond := u_ws RX10 TX10 7
theorem nmX10 : ∀ a, a < 7 → ∀ b, b < 7 → a ≠ b → (TX10 a).2.1 ≠ (TX10 b).2.1 := by decide +kernel
theorem tyX10_ok : ∀ k, k < 7 → parseFieldDescriptor (TX10 k).2.2.1 = some (tyX10 k) := by decide +kernel
def RX11 : String := "SportsHouseModel"
def TX11 : u_T := fun k => match k with
  | 0 => ("SportsHouseModel", "text", "[I", true)
  | 1 => ("SportsHouseModel", "length", "I", false)
  | 2 => ("SportsHouseModel", "faultAt", "I", false)
  | 3 => ("SportsHouseModel", "today", "I", false)
  | 4 => ("SportsHouseModel", "fresh", "[I", true)
  | 5 => ("SportsHouseModel", "rules", "[I", true)
  | 6 => ("SportsHouseModel", "competitions", "I", false)
  | 7 => ("SportsHouseModel", "entrants", "[I", true)
  | 8 => ("SportsHouseModel", "entered", "[I", true)
  | 9 => ("SportsHouseModel", "planned", "[Z", true)
  | 10 => ("SportsHouseModel", "firstOf", "[I", true)
  | 11 => ("SportsHouseModel", "manyOf", "[I", true)
  | 12 => ("SportsHouseModel", "clubs", "I", false)
  | 13 => ("SportsHouseModel", "stadiums", "[I", true)
  | 14 => ("SportsHouseModel", "countries", "[I", true)
  | 15 => ("SportsHouseModel", "persons", "I", false)
  | 16 => ("SportsHouseModel", "spans", "I", false)
  | 17 => ("SportsHouseModel", "spanPerson", "[I", true)
  | 18 => ("SportsHouseModel", "spanClub", "[I", true)
  | 19 => ("SportsHouseModel", "spanFrom", "[I", true)
  | 20 => ("SportsHouseModel", "spanTo", "[I", true)
  | 21 => ("SportsHouseModel", "officials", "I", false)
  | 22 => ("SportsHouseModel", "homes", "[I", true)
  | 23 => ("SportsHouseModel", "officialCountries", "[I", true)
  | 24 => ("SportsHouseModel", "deducted", "I", false)
  | 25 => ("SportsHouseModel", "deductComp", "[I", true)
  | 26 => ("SportsHouseModel", "deductClub", "[I", true)
  | 27 => ("SportsHouseModel", "deductPoints", "[I", true)
  | 28 => ("SportsHouseModel", "deductDay", "[I", true)
  | 29 => ("SportsHouseModel", "matches", "I", false)
  | 30 => ("SportsHouseModel", "mComp", "[I", true)
  | 31 => ("SportsHouseModel", "mRound", "[I", true)
  | 32 => ("SportsHouseModel", "mHome", "[I", true)
  | 33 => ("SportsHouseModel", "mAway", "[I", true)
  | 34 => ("SportsHouseModel", "mDay", "[I", true)
  | 35 => ("SportsHouseModel", "mWhat", "[I", true)
  | 36 => ("SportsHouseModel", "mScore0", "[I", true)
  | 37 => ("SportsHouseModel", "mScore1", "[I", true)
  | 38 => ("SportsHouseModel", "mOfficial", "[I", true)
  | 39 => ("SportsHouseModel", "sheetMany", "[I", true)
  | 40 => ("SportsHouseModel", "sheetPerson", "[I", true)
  | 41 => ("SportsHouseModel", "sheetStands", "[I", true)
  | 42 => ("SportsHouseModel", "sheetYellows", "[I", true)
  | 43 => ("SportsHouseModel", "sheetSent", "[Z", true)
  | 44 => ("SportsHouseModel", "fieldMany", "[I", true)
  | 45 => ("SportsHouseModel", "fieldSlot", "[I", true)
  | 46 => ("SportsHouseModel", "live", "[I", true)
  | 47 => ("SportsHouseModel", "rowsMade", "I", false)
  | 48 => ("SportsHouseModel", "rKind", "[I", true)
  | 49 => ("SportsHouseModel", "rSide", "[I", true)
  | 50 => ("SportsHouseModel", "rPerson", "[I", true)
  | 51 => ("SportsHouseModel", "rOther", "[I", true)
  | 52 => ("SportsHouseModel", "rNext", "[I", true)
  | 53 => ("SportsHouseModel", "rowFirst", "[I", true)
  | 54 => ("SportsHouseModel", "rowMany", "[I", true)
  | 55 => ("SportsHouseModel", "asideFirst", "[I", true)
  | 56 => ("SportsHouseModel", "asideMany", "[I", true)
  | 57 => ("SportsHouseModel", "at", "I", false)
  | 58 => ("SportsHouseModel", "tKind", "I", false)
  | 59 => ("SportsHouseModel", "tFrom", "I", false)
  | 60 => ("SportsHouseModel", "tTo", "I", false)
  | 61 => ("SportsHouseModel", "tValue", "I", false)
  | 62 => ("SportsHouseModel", "badNumber", "I", false)
  | 63 => ("SportsHouseModel", "badAt", "I", false)
  | 64 => ("SportsHouseModel", "statementWords", "[I", true)
  | 65 => ("SportsHouseModel", "sportWords", "[I", true)
  | 66 => ("SportsHouseModel", "keyWords", "[I", true)
  | 67 => ("SportsHouseModel", "least", "[I", true)
  | 68 => ("SportsHouseModel", "greatest", "[I", true)
  | 69 => ("SportsHouseModel", "toldAlready", "[Z", true)
  | 70 => ("SportsHouseModel", "keyTold", "[Z", true)
  | 71 => ("SportsHouseModel", "gone", "[I", true)
  | 72 => ("SportsHouseModel", "wasDay", "[I", true)
  | 73 => ("SportsHouseModel", "goneMany", "I", false)
  | 74 => ("SportsHouseModel", "movedRow", "[I", true)
  | 75 => ("SportsHouseModel", "movedMany", "I", false)
  | 76 => ("SportsHouseModel", "told", "[I", true)
  | 77 => ("SportsHouseModel", "standingClub", "[I", true)
  | 78 => ("SportsHouseModel", "partedBy", "[I", true)
  | 79 => ("SportsHouseModel", "standingMany", "I", false)
  | 80 => ("SportsHouseModel", "supposes", "Z", false)
  | 81 => ("SportsHouseModel", "supposed", "[I", true)
  | 82 => ("SportsHouseModel", "result0", "I", false)
  | 83 => ("SportsHouseModel", "result1", "I", false)
  | 84 => ("SportsHouseModel", "says", "[I", true)
  | 85 => ("SportsHouseModel", "groupBits", "I", false)
  | 86 => ("SportsHouseModel", "pile", "[I", true)
  | 87 => ("SportsHouseModel", "piled", "I", false)
  | 88 => ("SportsHouseModel", "witnessOf", "I", false)
  | 89 => ("SportsHouseModel", "witnessed", "[I", true)
  | 90 => ("SportsHouseModel", "cutBits", "I", false)
  | 91 => ("SportsHouseModel", "points", "[I", true)
  | 92 => ("SportsHouseModel", "leftOf", "[I", true)
  | 93 => ("SportsHouseModel", "spare", "[I", true)
  | 94 => ("SportsHouseModel", "between", "[I", true)
  | 95 => ("SportsHouseModel", "best", "I", false)
  | 96 => ("SportsHouseModel", "slack", "[I", true)
  | 97 => ("SportsHouseModel", "open", "[I", true)
  | 98 => ("SportsHouseModel", "isDraw", "Z", false)
  | 99 => ("SportsHouseModel", "groups", "I", false)
  | 100 => ("SportsHouseModel", "limit", "I", false)
  | 101 => ("SportsHouseModel", "potOf", "[I", true)
  | 102 => ("SportsHouseModel", "groupOf", "[I", true)
  | 103 => ("SportsHouseModel", "seed", "I", false)
  | 104 => ("SportsHouseModel", "trying", "[I", true)
  | 105 => ("SportsHouseModel", "tried", "[I", true)
  | 106 => ("SportsHouseModel", "dayMatch", "[I", true)
  | 107 => ("SportsHouseModel", "dayMany", "I", false)
  | 108 => ("SportsHouseModel", "holds", "[I", true)
  | 109 => ("SportsHouseModel", "far", "[I", true)
  | 110 => ("SportsHouseModel", "comesBy", "[I", true)
  | 111 => ("SportsHouseModel", "hasOne", "[I", true)
  | 112 => ("SportsHouseModel", "foundMany", "I", false)
  | _ => ("SportsHouseModel", "foundSum", "I", false)
def tyX11 : Nat → FieldType := fun k => match k with
  | 0 => .array .int
  | 1 => .int
  | 2 => .int
  | 3 => .int
  | 4 => .array .int
  | 5 => .array .int
  | 6 => .int
  | 7 => .array .int
  | 8 => .array .int
  | 9 => .array .boolean
  | 10 => .array .int
  | 11 => .array .int
  | 12 => .int
  | 13 => .array .int
  | 14 => .array .int
  | 15 => .int
  | 16 => .int
  | 17 => .array .int
  | 18 => .array .int
  | 19 => .array .int
  | 20 => .array .int
  | 21 => .int
  | 22 => .array .int
  | 23 => .array .int
  | 24 => .int
  | 25 => .array .int
  | 26 => .array .int
  | 27 => .array .int
  | 28 => .array .int
  | 29 => .int
  | 30 => .array .int
  | 31 => .array .int
  | 32 => .array .int
  | 33 => .array .int
  | 34 => .array .int
  | 35 => .array .int
  | 36 => .array .int
  | 37 => .array .int
  | 38 => .array .int
  | 39 => .array .int
  | 40 => .array .int
  | 41 => .array .int
  | 42 => .array .int
  | 43 => .array .boolean
  | 44 => .array .int
  | 45 => .array .int
  | 46 => .array .int
  | 47 => .int
  | 48 => .array .int
  | 49 => .array .int
  | 50 => .array .int
  | 51 => .array .int
  | 52 => .array .int
  | 53 => .array .int
  | 54 => .array .int
  | 55 => .array .int
  | 56 => .array .int
  | 57 => .int
  | 58 => .int
  | 59 => .int
  | 60 => .int
  | 61 => .int
  | 62 => .int
  | 63 => .int
  | 64 => .array .int
  | 65 => .array .int
  | 66 => .array .int
  | 67 => .array .int
  | 68 => .array .int
  | 69 => .array .boolean
  | 70 => .array .boolean
  | 71 => .array .int
  | 72 => .array .int
  | 73 => .int
  | 74 => .array .int
  | 75 => .int
  | 76 => .array .int
  | 77 => .array .int
  | 78 => .array .int
  | 79 => .int
  | 80 => .boolean
  | 81 => .array .int
  | 82 => .int
  | 83 => .int
  | 84 => .array .int
  | 85 => .int
  | 86 => .array .int
  | 87 => .int
  | 88 => .int
  | 89 => .array .int
  | 90 => .int
  | 91 => .array .int
  | 92 => .array .int
  | 93 => .array .int
  | 94 => .array .int
  | 95 => .int
  | 96 => .array .int
  | 97 => .array .int
  | 98 => .boolean
  | 99 => .int
  | 100 => .int
  | 101 => .array .int
  | 102 => .array .int
  | 103 => .int
  | 104 => .array .int
  | 105 => .array .int
  | 106 => .array .int
  | 107 => .int
  | 108 => .array .int
  | 109 => .array .int
  | 110 => .array .int
  | 111 => .array .int
  | 112 => .int
  | _ => .int
abbrev wsX110 : List Cond := u_ws RX11 TX11 114
theorem nmX11 : ∀ a, a < 114 → ∀ b, b < 114 → a ≠ b → (TX11 a).2.1 ≠ (TX11 b).2.1 := by decide +kernel
theorem tyX11_ok : ∀ k, k < 114 → parseFieldDescriptor (TX11 k).2.2.1 = some (tyX11 k) := by decide +kernel
def RL : String := "SportsHouseLaw"
def RJ7 : String := "java/util/Arrays"
abbrev vwCl : List vw_C := [(RX0, TX0, 9), (RX1, TX1, 16), (RX2, TX2, 11), (RX3, TX3, 18), (RX4, TX4, 5), (RX5, TX5, 10), (RX6, TX6, 16), (RX7, TX7, 14), (RX8, TX8, 14), (RX9, TX9, 16), (RX10, TX10, 7), (RX11, TX11, 114)]
/-- the words that go on holding -/
def lw_g : List Cond := lw_tbl.filter goodWord
theorem lw_at {w : Cond} (i : Nat) (h : tables_1[i]? = some w) (hg : goodWord w = true) : w ∈ lw_g := List.mem_filter.mpr ⟨List.mem_append_right _ (List.mem_of_getElem? h), hg⟩
theorem lw_b1 {w : Cond} (i : Nat) (h : tables_1_1[i]? = some w) (hg : goodWord w = true) : w ∈ lw_g := List.mem_filter.mpr ⟨List.mem_append_right _ (lt_b1 (List.mem_of_getElem? h)), hg⟩
theorem lw_b2 {w : Cond} (i : Nat) (h : tables_1_2[i]? = some w) (hg : goodWord w = true) : w ∈ lw_g := List.mem_filter.mpr ⟨List.mem_append_right _ (lt_b2 (List.mem_of_getElem? h)), hg⟩
theorem lw_b3 {w : Cond} (i : Nat) (h : tables_1_3[i]? = some w) (hg : goodWord w = true) : w ∈ lw_g := List.mem_filter.mpr ⟨List.mem_append_right _ (lt_b3 (List.mem_of_getElem? h)), hg⟩
theorem lw_b4 {w : Cond} (i : Nat) (h : tables_1_4[i]? = some w) (hg : goodWord w = true) : w ∈ lw_g := List.mem_filter.mpr ⟨List.mem_append_right _ (lt_b4 (List.mem_of_getElem? h)), hg⟩
theorem lw_b5 {w : Cond} (i : Nat) (h : tables_1_5[i]? = some w) (hg : goodWord w = true) : w ∈ lw_g := List.mem_filter.mpr ⟨List.mem_append_right _ (lt_b5 (List.mem_of_getElem? h)), hg⟩
theorem lw_b6 {w : Cond} (i : Nat) (h : tables_1_6[i]? = some w) (hg : goodWord w = true) : w ∈ lw_g := List.mem_filter.mpr ⟨List.mem_append_right _ (lt_b6 (List.mem_of_getElem? h)), hg⟩
theorem lw_b7 {w : Cond} (i : Nat) (h : tables_1_7[i]? = some w) (hg : goodWord w = true) : w ∈ lw_g := List.mem_filter.mpr ⟨List.mem_append_right _ (lt_b7 (List.mem_of_getElem? h)), hg⟩
theorem lw_b8 {w : Cond} (i : Nat) (h : tables_1_8[i]? = some w) (hg : goodWord w = true) : w ∈ lw_g := List.mem_filter.mpr ⟨List.mem_append_right _ (lt_b8 (List.mem_of_getElem? h)), hg⟩
theorem lw_b9 {w : Cond} (i : Nat) (h : tables_1_9[i]? = some w) (hg : goodWord w = true) : w ∈ lw_g := List.mem_filter.mpr ⟨List.mem_append_right _ (lt_b9 (List.mem_of_getElem? h)), hg⟩
theorem lw_b10 {w : Cond} (i : Nat) (h : tables_1_10[i]? = some w) (hg : goodWord w = true) : w ∈ lw_g := List.mem_filter.mpr ⟨List.mem_append_right _ (lt_b10 (List.mem_of_getElem? h)), hg⟩
theorem lw_sub2 {L : List Cond} (hL : ∀ w ∈ L, w ∈ tables_1) (ws : List Cond) (ps : List Nat) (hp : ws = ps.filterMap (fun i => L[i]?)) (hg : ws.all goodWord = true) : ∀ w ∈ ws, w ∈ lw_g := by
  intro w hw
  have h1 := List.all_eq_true.mp hg w hw
  rw [hp] at hw
  obtain ⟨i, -, hi⟩ := List.mem_filterMap.mp hw
  exact List.mem_filter.mpr ⟨List.mem_append_right _ (hL w (List.mem_of_getElem? hi)), h1⟩
theorem lw_any {w : Cond} (i : Nat) (h : tables_1[i]? = some w) : w ∈ lw_tbl := List.mem_append_right _ (List.mem_of_getElem? h)
theorem lw_sel (i : Nat) {q : MethodName × Nat} (h : lw_privs[i]? = some q) : Cond.selects q.1.cls q.1 q.1 ∈ lw_g := List.mem_filter.mpr ⟨List.mem_append_left _ (List.mem_map.mpr ⟨q, List.mem_of_getElem? h, rfl⟩), rfl⟩
theorem lw_good : ∀ w ∈ lw_g, (w.onTables && w.keeps) = true ∨ ∃ ty, w = .arrayClass ty := fun w h => good_of_word (List.mem_filter.mp h).2
/-- words of another kind that the methods need -/
def ex_E (U : State) : Prop := va_AO "SportsHouse$Competition" U ∧ va_AO "SportsHouse$Match" U ∧ va_Nw (.castable "[I" "java/lang/Cloneable") U ∧ va_Nw (.methodLinkNest "SportsHouse" 11 ⟨"SportsHouse$RuleText", "<init>", "()V"⟩ "SportsHouse") U ∧ va_Nw (.methodLinkNest "SportsHouse" 18 ⟨"SportsHouse$Things", "<init>", "()V"⟩ "SportsHouse") U ∧ va_Nw (.methodLinkNest "SportsHouse$Play" 89 ⟨"SportsHouse", "isSide", "(I)Z"⟩ "SportsHouse") U
theorem ex_warm {s U : State} (hW : s.WarmedH U.vm) (h : ex_E s) : ex_E U := ⟨h.1.moved hW.alike, h.2.1.moved hW.alike, h.2.2.1.warmC hW, h.2.2.2.1.warmM hW, h.2.2.2.2.1.warmM hW, h.2.2.2.2.2.warmM hW⟩
theorem ex_same {s U : State} (hW : s.vm = U.vm) (h : ex_E s) : ex_E U := ⟨h.1.moved (by rw [hW]; exact Vm.Alike.refl _), h.2.1.moved (by rw [hW]; exact Vm.Alike.refl _), h.2.2.1.same rfl hW, h.2.2.2.1.same rfl hW, h.2.2.2.2.1.same rfl hW, h.2.2.2.2.2.same rfl hW⟩
theorem inX0 : ∀ w ∈ wsX00, w ∈ lw_g := lw_sub2 (L := tables_1_3) (fun _ h => lt_b3 h) _ [114, 116, 118, 120, 122, 124, 126, 128, 130] (by decide +kernel) (by decide +kernel)
theorem inX1 : ∀ w ∈ wsX10, w ∈ lw_g := lw_sub2 (L := tables_1_2) (fun _ h => lt_b2 h) _ [110, 112, 114, 116, 118, 120, 122, 124, 126, 128, 130, 132, 134, 136, 138, 140] (by decide +kernel) (by decide +kernel)
theorem inX2 : ∀ w ∈ wsX20, w ∈ lw_g := lw_sub2 (L := tables_1_4) (fun _ h => lt_b4 h) _ [26, 28, 30, 32, 34, 36, 38, 40, 42, 44, 46] (by decide +kernel) (by decide +kernel)
theorem inX3 : ∀ w ∈ wsX30, w ∈ lw_g := lw_sub2 (L := (tables_1_4 ++ tables_1_5)) (fun _ h => (List.mem_append.mp h).elim lt_b4 lt_b5) _ [217, 219, 221, 223, 225, 227, 229, 231, 233, 235, 237, 239, 241, 243, 245, 247, 249, 251] (by decide +kernel) (by decide +kernel)
theorem inX4 : ∀ w ∈ wsX40, w ∈ lw_g := lw_sub2 (L := tables_1_2) (fun _ h => lt_b2 h) _ [154, 156, 158, 160, 162] (by decide +kernel) (by decide +kernel)
theorem inX5 : ∀ w ∈ wsX50, w ∈ lw_g := lw_sub2 (L := tables_1_1) (fun _ h => lt_b1 h) _ [51, 53, 55, 57, 59, 61, 63, 65, 67, 69] (by decide +kernel) (by decide +kernel)
theorem inX6 : ∀ w ∈ wsX60, w ∈ lw_g := lw_sub2 (L := tables_1_1) (fun _ h => lt_b1 h) _ [172, 174, 176, 178, 180, 182, 184, 186, 188, 190, 192, 194, 196, 198, 200, 202] (by decide +kernel) (by decide +kernel)
theorem inX7 : ∀ w ∈ wsX70, w ∈ lw_g := lw_sub2 (L := (tables_1_1 ++ tables_1_2)) (fun _ h => (List.mem_append.mp h).elim lt_b1 lt_b2) _ [229, 231, 233, 235, 237, 239, 241, 243, 245, 247, 249, 251, 253, 255] (by decide +kernel) (by decide +kernel)
theorem inX8 : ∀ w ∈ wsX80, w ∈ lw_g := lw_sub2 (L := tables_1_1) (fun _ h => lt_b1 h) _ [107, 109, 111, 113, 115, 117, 119, 121, 123, 125, 127, 129, 131, 133] (by decide +kernel) (by decide +kernel)
theorem inX9 : ∀ w ∈ wsX90, w ∈ lw_g := lw_sub2 (L := tables_1_2) (fun _ h => lt_b2 h) _ [47, 49, 51, 53, 55, 57, 59, 61, 63, 65, 67, 69, 71, 73, 75, 77] (by decide +kernel) (by decide +kernel)
theorem inX10 : ∀ w ∈ wsX100, w ∈ lw_g := lw_sub2 (L := tables_1_2) (fun _ h => lt_b2 h) _ [172, 174, 176, 178, 180, 182, 184] (by decide +kernel) (by decide +kernel)
theorem inX11 : ∀ w ∈ wsX110, w ∈ lw_g := lw_sub2 (L := (tables_1_7 ++ tables_1_8)) (fun _ h => (List.mem_append.mp h).elim lt_b7 lt_b8) _ [101, 103, 105, 107, 109, 111, 113, 115, 117, 119, 121, 123, 125, 127, 129, 131, 133, 135, 137, 139, 141, 143, 145, 147, 149, 151, 153, 155, 157, 159, 161, 163, 165, 167, 169, 171, 173, 175, 177, 179, 181, 183, 185, 187, 189, 191, 193, 195, 197, 199, 201, 203, 205, 207, 209, 211, 213, 215, 217, 219, 221, 223, 225, 227, 229, 231, 233, 235, 237, 239, 241, 243, 245, 247, 249, 251, 253, 255, 257, 259, 261, 263, 265, 267, 269, 271, 273, 275, 277, 279, 281, 283, 285, 287, 289, 291, 293, 295, 297, 299, 301, 303, 305, 307, 309, 311, 313, 315, 317, 319, 321, 323, 325, 327] (by decide +kernel) (by decide +kernel)
theorem vi_0 : vwCl[0]? = some (RX0, TX0, 9) := rfl
theorem vi_2 : vwCl[2]? = some (RX2, TX2, 11) := rfl
theorem vi_3 : vwCl[3]? = some (RX3, TX3, 18) := rfl
theorem gi_c {c0 : Cond} (h : c0 ∈ lw_g) : GoodIn lw_g (c0 :: lw_g) := fun w hw => (List.mem_cons.mp hw).elim (fun e => e ▸ ⟨h, lw_good _ h⟩) (fun h => ⟨h, lw_good _ h⟩)
theorem gi_V {own : String} {i : Nat} {C : String} {y : MethodName} {c0 : Cond} (h1 : Cond.methodLink own i y ∈ lw_g) (h2 : Cond.instanceMethod y ∈ lw_g) (h3 : Cond.selects C y y ∈ lw_g) (h4 : Cond.initialized C ∈ lw_g) (hc : c0 ∈ lw_g) : GoodIn lw_g (wsV own i C y (c0 :: lw_g)) := by
  intro w hw
  unfold wsV at hw
  rcases List.mem_append.mp hw with h | h
  · have h9 : w ∈ lw_g := by
      simp only [List.mem_cons, List.not_mem_nil, or_false] at h
      rcases h with rfl | rfl | rfl | rfl <;> assumption
    exact ⟨h9, lw_good _ h9⟩
  · exact gi_c hc w h
theorem gi_S {own : String} {i : Nat} {y : MethodName} {c0 : Cond} (h1 : Cond.methodLink own i y ∈ lw_g) (h2 : Cond.static y ∈ lw_g) (h4 : Cond.initialized y.cls ∈ lw_g) (hc : c0 ∈ lw_g) : GoodIn lw_g (va_wsS own i y (c0 :: lw_g)) := by
  intro w hw
  unfold va_wsS at hw
  rcases List.mem_append.mp hw with h | h
  · have h9 : w ∈ lw_g := by
      simp only [List.mem_cons, List.not_mem_nil, or_false] at h
      rcases h with rfl | rfl | rfl <;> assumption
    exact ⟨h9, lw_good _ h9⟩
  · exact gi_c hc w h
