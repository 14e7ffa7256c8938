theorem fx_0 : TX11 0 = ("SportsHouseModel", "text", "[I", true) := by decide +kernel
theorem fx_1 : TX11 1 = ("SportsHouseModel", "length", "I", false) := by decide +kernel
theorem fx_2 : TX11 2 = ("SportsHouseModel", "faultAt", "I", false) := by decide +kernel
theorem fx_3 : TX11 3 = ("SportsHouseModel", "today", "I", false) := by decide +kernel
theorem fx_4 : TX11 4 = ("SportsHouseModel", "fresh", "[I", true) := by decide +kernel
theorem fx_5 : TX11 5 = ("SportsHouseModel", "rules", "[I", true) := by decide +kernel
theorem fx_6 : TX11 6 = ("SportsHouseModel", "competitions", "I", false) := by decide +kernel
theorem fx_7 : TX11 7 = ("SportsHouseModel", "entrants", "[I", true) := by decide +kernel
theorem fx_8 : TX11 8 = ("SportsHouseModel", "entered", "[I", true) := by decide +kernel
theorem fx_9 : TX11 9 = ("SportsHouseModel", "planned", "[Z", true) := by decide +kernel
theorem fx_10 : TX11 10 = ("SportsHouseModel", "firstOf", "[I", true) := by decide +kernel
theorem fx_11 : TX11 11 = ("SportsHouseModel", "manyOf", "[I", true) := by decide +kernel
theorem fx_12 : TX11 12 = ("SportsHouseModel", "clubs", "I", false) := by decide +kernel
theorem fx_13 : TX11 13 = ("SportsHouseModel", "stadiums", "[I", true) := by decide +kernel
theorem fx_14 : TX11 14 = ("SportsHouseModel", "countries", "[I", true) := by decide +kernel
theorem fx_15 : TX11 15 = ("SportsHouseModel", "persons", "I", false) := by decide +kernel
theorem fx_16 : TX11 16 = ("SportsHouseModel", "spans", "I", false) := by decide +kernel
theorem fx_17 : TX11 17 = ("SportsHouseModel", "spanPerson", "[I", true) := by decide +kernel
theorem fx_18 : TX11 18 = ("SportsHouseModel", "spanClub", "[I", true) := by decide +kernel
theorem fx_19 : TX11 19 = ("SportsHouseModel", "spanFrom", "[I", true) := by decide +kernel
theorem fx_20 : TX11 20 = ("SportsHouseModel", "spanTo", "[I", true) := by decide +kernel
theorem fx_21 : TX11 21 = ("SportsHouseModel", "officials", "I", false) := by decide +kernel
theorem fx_22 : TX11 22 = ("SportsHouseModel", "homes", "[I", true) := by decide +kernel
theorem fx_23 : TX11 23 = ("SportsHouseModel", "officialCountries", "[I", true) := by decide +kernel
theorem fx_24 : TX11 24 = ("SportsHouseModel", "deducted", "I", false) := by decide +kernel
theorem fx_25 : TX11 25 = ("SportsHouseModel", "deductComp", "[I", true) := by decide +kernel
theorem fx_26 : TX11 26 = ("SportsHouseModel", "deductClub", "[I", true) := by decide +kernel
theorem fx_27 : TX11 27 = ("SportsHouseModel", "deductPoints", "[I", true) := by decide +kernel
theorem fx_28 : TX11 28 = ("SportsHouseModel", "deductDay", "[I", true) := by decide +kernel
theorem fx_29 : TX11 29 = ("SportsHouseModel", "matches", "I", false) := by decide +kernel
theorem fx_30 : TX11 30 = ("SportsHouseModel", "mComp", "[I", true) := by decide +kernel
theorem fx_31 : TX11 31 = ("SportsHouseModel", "mRound", "[I", true) := by decide +kernel
theorem fx_32 : TX11 32 = ("SportsHouseModel", "mHome", "[I", true) := by decide +kernel
theorem fx_33 : TX11 33 = ("SportsHouseModel", "mAway", "[I", true) := by decide +kernel
theorem fx_34 : TX11 34 = ("SportsHouseModel", "mDay", "[I", true) := by decide +kernel
theorem fx_35 : TX11 35 = ("SportsHouseModel", "mWhat", "[I", true) := by decide +kernel
theorem fx_36 : TX11 36 = ("SportsHouseModel", "mScore0", "[I", true) := by decide +kernel
theorem fx_37 : TX11 37 = ("SportsHouseModel", "mScore1", "[I", true) := by decide +kernel
theorem fx_38 : TX11 38 = ("SportsHouseModel", "mOfficial", "[I", true) := by decide +kernel
theorem fx_39 : TX11 39 = ("SportsHouseModel", "sheetMany", "[I", true) := by decide +kernel
theorem fx_40 : TX11 40 = ("SportsHouseModel", "sheetPerson", "[I", true) := by decide +kernel
theorem fx_41 : TX11 41 = ("SportsHouseModel", "sheetStands", "[I", true) := by decide +kernel
theorem fx_42 : TX11 42 = ("SportsHouseModel", "sheetYellows", "[I", true) := by decide +kernel
theorem fx_43 : TX11 43 = ("SportsHouseModel", "sheetSent", "[Z", true) := by decide +kernel
theorem fx_44 : TX11 44 = ("SportsHouseModel", "fieldMany", "[I", true) := by decide +kernel
theorem fx_45 : TX11 45 = ("SportsHouseModel", "fieldSlot", "[I", true) := by decide +kernel
theorem fx_46 : TX11 46 = ("SportsHouseModel", "live", "[I", true) := by decide +kernel
theorem fx_47 : TX11 47 = ("SportsHouseModel", "rowsMade", "I", false) := by decide +kernel
theorem fx_48 : TX11 48 = ("SportsHouseModel", "rKind", "[I", true) := by decide +kernel
theorem fx_49 : TX11 49 = ("SportsHouseModel", "rSide", "[I", true) := by decide +kernel
theorem fx_50 : TX11 50 = ("SportsHouseModel", "rPerson", "[I", true) := by decide +kernel
theorem fx_51 : TX11 51 = ("SportsHouseModel", "rOther", "[I", true) := by decide +kernel
theorem fx_52 : TX11 52 = ("SportsHouseModel", "rNext", "[I", true) := by decide +kernel
theorem fx_53 : TX11 53 = ("SportsHouseModel", "rowFirst", "[I", true) := by decide +kernel
theorem fx_54 : TX11 54 = ("SportsHouseModel", "rowMany", "[I", true) := by decide +kernel
theorem fx_55 : TX11 55 = ("SportsHouseModel", "asideFirst", "[I", true) := by decide +kernel
theorem fx_56 : TX11 56 = ("SportsHouseModel", "asideMany", "[I", true) := by decide +kernel
theorem fx_57 : TX11 57 = ("SportsHouseModel", "at", "I", false) := by decide +kernel
theorem fx_58 : TX11 58 = ("SportsHouseModel", "tKind", "I", false) := by decide +kernel
theorem fx_59 : TX11 59 = ("SportsHouseModel", "tFrom", "I", false) := by decide +kernel
theorem fx_60 : TX11 60 = ("SportsHouseModel", "tTo", "I", false) := by decide +kernel
theorem fx_61 : TX11 61 = ("SportsHouseModel", "tValue", "I", false) := by decide +kernel
theorem fx_62 : TX11 62 = ("SportsHouseModel", "badNumber", "I", false) := by decide +kernel
theorem fx_63 : TX11 63 = ("SportsHouseModel", "badAt", "I", false) := by decide +kernel
theorem fx_64 : TX11 64 = ("SportsHouseModel", "statementWords", "[I", true) := by decide +kernel
theorem fx_65 : TX11 65 = ("SportsHouseModel", "sportWords", "[I", true) := by decide +kernel
theorem fx_66 : TX11 66 = ("SportsHouseModel", "keyWords", "[I", true) := by decide +kernel
theorem fx_67 : TX11 67 = ("SportsHouseModel", "least", "[I", true) := by decide +kernel
theorem fx_68 : TX11 68 = ("SportsHouseModel", "greatest", "[I", true) := by decide +kernel
theorem fx_69 : TX11 69 = ("SportsHouseModel", "toldAlready", "[Z", true) := by decide +kernel
theorem fx_70 : TX11 70 = ("SportsHouseModel", "keyTold", "[Z", true) := by decide +kernel
theorem fx_71 : TX11 71 = ("SportsHouseModel", "gone", "[I", true) := by decide +kernel
theorem fx_72 : TX11 72 = ("SportsHouseModel", "wasDay", "[I", true) := by decide +kernel
theorem fx_73 : TX11 73 = ("SportsHouseModel", "goneMany", "I", false) := by decide +kernel
theorem fx_74 : TX11 74 = ("SportsHouseModel", "movedRow", "[I", true) := by decide +kernel
theorem fx_75 : TX11 75 = ("SportsHouseModel", "movedMany", "I", false) := by decide +kernel
theorem fx_76 : TX11 76 = ("SportsHouseModel", "told", "[I", true) := by decide +kernel
theorem fx_77 : TX11 77 = ("SportsHouseModel", "standingClub", "[I", true) := by decide +kernel
theorem fx_78 : TX11 78 = ("SportsHouseModel", "partedBy", "[I", true) := by decide +kernel
theorem fx_79 : TX11 79 = ("SportsHouseModel", "standingMany", "I", false) := by decide +kernel
theorem fx_80 : TX11 80 = ("SportsHouseModel", "supposes", "Z", false) := by decide +kernel
theorem fx_81 : TX11 81 = ("SportsHouseModel", "supposed", "[I", true) := by decide +kernel
theorem fx_82 : TX11 82 = ("SportsHouseModel", "result0", "I", false) := by decide +kernel
theorem fx_83 : TX11 83 = ("SportsHouseModel", "result1", "I", false) := by decide +kernel
theorem fx_84 : TX11 84 = ("SportsHouseModel", "says", "[I", true) := by decide +kernel
theorem fx_85 : TX11 85 = ("SportsHouseModel", "groupBits", "I", false) := by decide +kernel
theorem fx_86 : TX11 86 = ("SportsHouseModel", "pile", "[I", true) := by decide +kernel
theorem fx_87 : TX11 87 = ("SportsHouseModel", "piled", "I", false) := by decide +kernel
theorem fx_88 : TX11 88 = ("SportsHouseModel", "witnessOf", "I", false) := by decide +kernel
theorem fx_89 : TX11 89 = ("SportsHouseModel", "witnessed", "[I", true) := by decide +kernel
theorem fx_90 : TX11 90 = ("SportsHouseModel", "cutBits", "I", false) := by decide +kernel
theorem fx_91 : TX11 91 = ("SportsHouseModel", "points", "[I", true) := by decide +kernel
theorem fx_92 : TX11 92 = ("SportsHouseModel", "leftOf", "[I", true) := by decide +kernel
theorem fx_93 : TX11 93 = ("SportsHouseModel", "spare", "[I", true) := by decide +kernel
theorem fx_94 : TX11 94 = ("SportsHouseModel", "between", "[I", true) := by decide +kernel
theorem fx_95 : TX11 95 = ("SportsHouseModel", "best", "I", false) := by decide +kernel
theorem fx_96 : TX11 96 = ("SportsHouseModel", "slack", "[I", true) := by decide +kernel
theorem fx_97 : TX11 97 = ("SportsHouseModel", "open", "[I", true) := by decide +kernel
theorem fx_98 : TX11 98 = ("SportsHouseModel", "isDraw", "Z", false) := by decide +kernel
theorem fx_99 : TX11 99 = ("SportsHouseModel", "groups", "I", false) := by decide +kernel
theorem fx_100 : TX11 100 = ("SportsHouseModel", "limit", "I", false) := by decide +kernel
theorem fx_101 : TX11 101 = ("SportsHouseModel", "potOf", "[I", true) := by decide +kernel
theorem fx_102 : TX11 102 = ("SportsHouseModel", "groupOf", "[I", true) := by decide +kernel
theorem fx_103 : TX11 103 = ("SportsHouseModel", "seed", "I", false) := by decide +kernel
theorem fx_104 : TX11 104 = ("SportsHouseModel", "trying", "[I", true) := by decide +kernel
theorem fx_105 : TX11 105 = ("SportsHouseModel", "tried", "[I", true) := by decide +kernel
theorem fx_106 : TX11 106 = ("SportsHouseModel", "dayMatch", "[I", true) := by decide +kernel
theorem fx_107 : TX11 107 = ("SportsHouseModel", "dayMany", "I", false) := by decide +kernel
theorem fx_108 : TX11 108 = ("SportsHouseModel", "holds", "[I", true) := by decide +kernel
theorem fx_109 : TX11 109 = ("SportsHouseModel", "far", "[I", true) := by decide +kernel
theorem fx_110 : TX11 110 = ("SportsHouseModel", "comesBy", "[I", true) := by decide +kernel
theorem fx_111 : TX11 111 = ("SportsHouseModel", "hasOne", "[I", true) := by decide +kernel
theorem fx_112 : TX11 112 = ("SportsHouseModel", "foundMany", "I", false) := by decide +kernel
theorem fx_113 : TX11 113 = ("SportsHouseModel", "foundSum", "I", false) := by decide +kernel
theorem pd_I : parseFieldDescriptor "I" = some .int := by decide +kernel
theorem pd_Z : parseFieldDescriptor "Z" = some .boolean := by decide +kernel
section MRW
variable {p : Program} {l : Launch} {e : Env} {R : Room} {s : State} {m : MethodId} {args : Array Value} {below : List Frame} {meth : Method} {c : Code} {H : Heap} {locs : List Loc} {cells slots : Nat} {Q : State → Prop} {cc : ByteArray} {pc index : Nat} {ls : Array Slot} {rest : List Value} {dC : Nat → ClassId} {dI : Nat → Nat → Nat} {A : Nat → Prop} {m0 : Nat} {ad : Nat → Nat} {cI cZ : ClassId} {F : Nat → Int32} {G : Nat → Nat → Int32} {tys : List (ClassId × FieldType)} {H0 : Heap}
/-- a field of the reference is read -/
theorem mr_get (hexec : p.tables.exec = Jvm.exec) (hb : c.code = cc) (hts : ∀ w ∈ lw_g, w.before args s = true) (hown : s.vm.findClass RX11 = some m.cls) (hK : va_K (dC, dI) vwCl tys s) (hP : va_P (dC, dI) vwCl (mw_s m0 ad cI cZ F G) H) (k : Nat) (hk : k < 114) {nm ds : String} {fi : Bool} (hT : TX11 k = ("SportsHouseModel", nm, ds, fi)) (hlink : (Cond.fieldLink RX11 index "SportsHouseModel" nm ds).before args s = true) {v : Value} (hv : (mf_s ad F)[k]? = some v) (hdg : decode cc pc = .ok (.getfield index, 3))
    (kk : W p l e R s m args below meth c H locs cells slots Q (F0 m (pc + 3) ls (v :: rest))) : W p l e R s m args below meth c H locs cells slots Q (F0 m pc ls (.ref m0 :: rest)) :=
  va_get (D := (dC, dI)) (ci := 11) (v := v) (C := RX11) (T := TX11) (N := 114) (own := RX11) (ref := "SportsHouseModel") (index := index) hexec hb hts inX11 hown hK hP 0 mw_o rfl k hk (by rw [hT]; exact hlink) (by rw [hT]; exact fun _ h => h) hv hdg kk
/-- an int field of the reference is put -/
theorem mr_put (hexec : p.tables.exec = Jvm.exec) (hb : c.code = cc) (hts : ∀ w ∈ lw_g, w.before args s = true) (hown : s.vm.findClass RX11 = some m.cls) (hK : va_K (dC, dI) vwCl tys s) (hP : va_P (dC, dI) vwCl (mw_s m0 ad cI cZ F G) H) (hD : va_D A (mw_s m0 ad cI cZ F G)) (hS0 : va_S A H0 H locs) (k : Nat) (hk : k < 114) {nm ds : String} (hT : TX11 k = ("SportsHouseModel", nm, ds, false)) (hlink : (Cond.fieldLink RX11 index "SportsHouseModel" nm ds).before args s = true) {ty : FieldType} {v : Value} {F2 : Nat → Int32} (hset : (mf_s ad F).set k v = mf_s ad F2) (hd : parseFieldDescriptor ds = some ty) (hn : narrow ty v = v) (hfit : fits ty v = true) (hdg : decode cc pc = .ok (.putfield index, 3))
    (kk : ∀ (H1 : Heap) (locs1 : List Loc), va_P (dC, dI) vwCl (mw_s m0 ad cI cZ F2 G) H1 → va_D A (mw_s m0 ad cI cZ F2 G) → va_S A H0 H1 locs1 → W p l e R s m args below meth c H1 locs1 cells slots Q (F0 m (pc + 3) ls rest)) : W p l e R s m args below meth c H locs cells slots Q (F0 m pc ls (v :: .ref m0 :: rest)) := by
  refine va_put (D := (dC, dI)) (ci := 11) (C := RX11) (T := TX11) (N := 114) (ref := "SportsHouseModel") (own := RX11) (index := index) (ty := ty) hexec hb hts inX11 tyX11 tyX11_ok nmX11 hown hK hP hD hS0 0 mw_o rfl k hk (by rw [hT]; exact hlink) (by rw [hT]; exact fun _ h => h) (by rw [hT]) (by rw [hT]; exact hd) hn hfit (by rw [mf_l]; exact hk) hdg (fun H1 locs1 hP hD hS => ?_)
  rw [mw_f _ hset] at hP hD
  exact kk H1 locs1 hP hD hS
/-- a row of ints is read -/
theorem mr_ld (hexec : p.tables.exec = Jvm.exec) (hb : c.code = cc) (hK : va_K (dC, dI) vwCl tys s) (hP : va_P (dC, dI) vwCl (mw_s m0 ad cI cZ F G) H) {q0 j n : Nat} (ha : (mw_s m0 ad cI cZ F G)[q0]? = some (ad j, .inl (cI, n, .inl (G j)))) (t0 : Nat) (ht : tys[t0]? = some (cI, .int)) {i : Int32} (hin : vp_in i n) (hdg : decode cc pc = .ok (.iaload, 1))
    (kk : W p l e R s m args below meth c H locs cells slots Q (F0 m (pc + 1) ls (.int (G j i.toNatClampNeg) :: rest))) : W p l e R s m args below meth c H locs cells slots Q (F0 m pc ls (.int i :: .ref (ad j) :: rest)) :=
  va_iald hexec hb hK hP q0 t0 ha ht hin hdg kk
/-- a row of ints is written -/
theorem mr_st (hexec : p.tables.exec = Jvm.exec) (hb : c.code = cc) (hK : va_K (dC, dI) vwCl tys s) (hP : va_P (dC, dI) vwCl (mw_s m0 ad cI cZ F G) H) (hD : va_D A (mw_s m0 ad cI cZ F G)) (hS0 : va_S A H0 H locs) {q0 j n : Nat} (ha : (mw_s m0 ad cI cZ F G)[q0]? = some (ad j, .inl (cI, n, .inl (G j)))) (hset : ∀ g : Nat → Int32, (mw_s m0 ad cI cZ F G).set q0 (ad j, .inl (cI, n, .inl g)) = mw_s m0 ad cI cZ F (mg_u G j g)) (t0 : Nat) (ht : tys[t0]? = some (cI, .int)) {i x : Int32} (hin : vp_in i n) (hdg : decode cc pc = .ok (.iastore, 1))
    (kk : ∀ (H1 : Heap) (locs1 : List Loc), va_P (dC, dI) vwCl (mw_s m0 ad cI cZ F (mg_u G j (upd (G j) i.toNatClampNeg x))) H1 → va_D A (mw_s m0 ad cI cZ F (mg_u G j (upd (G j) i.toNatClampNeg x))) → va_S A H0 H1 locs1 → W p l e R s m args below meth c H1 locs1 cells slots Q (F0 m (pc + 1) ls rest)) : W p l e R s m args below meth c H locs cells slots Q (F0 m pc ls (.int x :: .int i :: .ref (ad j) :: rest)) := by
  refine va_iast hexec hb hK hP hD hS0 q0 t0 ha ht hin hdg (fun H1 locs1 hP hD hS => ?_)
  rw [hset] at hP hD
  exact kk H1 locs1 hP hD hS
end MRW
