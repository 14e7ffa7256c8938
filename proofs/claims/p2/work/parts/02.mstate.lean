-- the reference: int fields F by their number, rows G by their number, at the addresses ad
def mf_s (ad : Nat → Nat) (F : Nat → Int32) : List Value := [.ref (ad 0), .int (F 1), .int (F 2), .int (F 3), .ref (ad 1), .ref (ad 2), .int (F 6), .ref (ad 3), .ref (ad 4), .ref (ad 5), .ref (ad 6), .ref (ad 7), .int (F 12), .ref (ad 8), .ref (ad 9), .int (F 15), .int (F 16), .ref (ad 10), .ref (ad 11), .ref (ad 12), .ref (ad 13), .int (F 21), .ref (ad 14), .ref (ad 15), .int (F 24), .ref (ad 16), .ref (ad 17), .ref (ad 18), .ref (ad 19), .int (F 29), .ref (ad 20), .ref (ad 21), .ref (ad 22), .ref (ad 23), .ref (ad 24), .ref (ad 25), .ref (ad 26), .ref (ad 27), .ref (ad 28), .ref (ad 29), .ref (ad 30), .ref (ad 31), .ref (ad 32), .ref (ad 33), .ref (ad 34), .ref (ad 35), .ref (ad 36), .int (F 47), .ref (ad 37), .ref (ad 38), .ref (ad 39), .ref (ad 40), .ref (ad 41), .ref (ad 42), .ref (ad 43), .ref (ad 44), .ref (ad 45), .int (F 57), .int (F 58), .int (F 59), .int (F 60), .int (F 61), .int (F 62), .int (F 63), .ref (ad 46), .ref (ad 47), .ref (ad 48), .ref (ad 49), .ref (ad 50), .ref (ad 51), .ref (ad 52), .ref (ad 53), .ref (ad 54), .int (F 73), .ref (ad 55), .int (F 75), .ref (ad 56), .ref (ad 57), .ref (ad 58), .int (F 79), .int (F 80), .ref (ad 59), .int (F 82), .int (F 83), .ref (ad 60), .int (F 85), .ref (ad 61), .int (F 87), .int (F 88), .ref (ad 62), .int (F 90), .ref (ad 63), .ref (ad 64), .ref (ad 65), .ref (ad 66), .int (F 95), .ref (ad 67), .ref (ad 68), .int (F 98), .int (F 99), .int (F 100), .ref (ad 69), .ref (ad 70), .int (F 103), .ref (ad 71), .ref (ad 72), .ref (ad 73), .int (F 107), .ref (ad 74), .ref (ad 75), .ref (ad 76), .ref (ad 77), .int (F 112), .int (F 113)]
def mw_s (m0 : Nat) (ad : Nat → Nat) (cI cZ : ClassId) (F : Nat → Int32) (G : Nat → Nat → Int32) : va_W := (m0, .inr (11, mf_s ad F)) :: [(ad 0, .inl (cI, 400, .inl (G 0))), (ad 1, .inl (cI, 23, .inl (G 1))), (ad 2, .inl (cI, 92, .inl (G 2))), (ad 3, .inl (cI, 48, .inl (G 3))), (ad 4, .inl (cI, 4, .inl (G 4))), (ad 5, .inl (cZ, 4, .inl (G 5))), (ad 6, .inl (cI, 4, .inl (G 6))), (ad 7, .inl (cI, 4, .inl (G 7))), (ad 8, .inl (cI, 12, .inl (G 8))), (ad 9, .inl (cI, 12, .inl (G 9))), (ad 10, .inl (cI, 300, .inl (G 10))), (ad 11, .inl (cI, 300, .inl (G 11))), (ad 12, .inl (cI, 300, .inl (G 12))), (ad 13, .inl (cI, 300, .inl (G 13))), (ad 14, .inl (cI, 8, .inl (G 14))), (ad 15, .inl (cI, 8, .inl (G 15))), (ad 16, .inl (cI, 50, .inl (G 16))), (ad 17, .inl (cI, 50, .inl (G 17))), (ad 18, .inl (cI, 50, .inl (G 18))), (ad 19, .inl (cI, 50, .inl (G 19))), (ad 20, .inl (cI, 400, .inl (G 20))), (ad 21, .inl (cI, 400, .inl (G 21))), (ad 22, .inl (cI, 400, .inl (G 22))), (ad 23, .inl (cI, 400, .inl (G 23))), (ad 24, .inl (cI, 400, .inl (G 24))), (ad 25, .inl (cI, 400, .inl (G 25))), (ad 26, .inl (cI, 400, .inl (G 26))), (ad 27, .inl (cI, 400, .inl (G 27))), (ad 28, .inl (cI, 400, .inl (G 28))), (ad 29, .inl (cI, 800, .inl (G 29))), (ad 30, .inl (cI, 8000, .inl (G 30))), (ad 31, .inl (cI, 8000, .inl (G 31))), (ad 32, .inl (cI, 8000, .inl (G 32))), (ad 33, .inl (cZ, 8000, .inl (G 33))), (ad 34, .inl (cI, 800, .inl (G 34))), (ad 35, .inl (cI, 4800, .inl (G 35))), (ad 36, .inl (cI, 3200, .inl (G 36))), (ad 37, .inl (cI, 3000, .inl (G 37))), (ad 38, .inl (cI, 3000, .inl (G 38))), (ad 39, .inl (cI, 3000, .inl (G 39))), (ad 40, .inl (cI, 3000, .inl (G 40))), (ad 41, .inl (cI, 3000, .inl (G 41))), (ad 42, .inl (cI, 400, .inl (G 42))), (ad 43, .inl (cI, 400, .inl (G 43))), (ad 44, .inl (cI, 400, .inl (G 44))), (ad 45, .inl (cI, 400, .inl (G 45))), (ad 46, .inl (cI, 82, .inl (G 46))), (ad 47, .inl (cI, 36, .inl (G 47))), (ad 48, .inl (cI, 37, .inl (G 48))), (ad 49, .inl (cI, 10, .inl (G 49))), (ad 50, .inl (cI, 10, .inl (G 50))), (ad 51, .inl (cZ, 14, .inl (G 51))), (ad 52, .inl (cZ, 7, .inl (G 52))), (ad 53, .inl (cI, 400, .inl (G 53))), (ad 54, .inl (cI, 400, .inl (G 54))), (ad 55, .inl (cI, 400, .inl (G 55))), (ad 56, .inl (cI, 108, .inl (G 56))), (ad 57, .inl (cI, 12, .inl (G 57))), (ad 58, .inl (cI, 12, .inl (G 58))), (ad 59, .inl (cI, 400, .inl (G 59))), (ad 60, .inl (cI, 36, .inl (G 60))), (ad 61, .inl (cI, 120, .inl (G 61))), (ad 62, .inl (cI, 400, .inl (G 62))), (ad 63, .inl (cI, 12, .inl (G 63))), (ad 64, .inl (cI, 12, .inl (G 64))), (ad 65, .inl (cI, 12, .inl (G 65))), (ad 66, .inl (cI, 144, .inl (G 66))), (ad 67, .inl (cI, 4096, .inl (G 67))), (ad 68, .inl (cI, 400, .inl (G 68))), (ad 69, .inl (cI, 12, .inl (G 69))), (ad 70, .inl (cI, 12, .inl (G 70))), (ad 71, .inl (cI, 12, .inl (G 71))), (ad 72, .inl (cI, 12, .inl (G 72))), (ad 73, .inl (cI, 400, .inl (G 73))), (ad 74, .inl (cI, 8, .inl (G 74))), (ad 75, .inl (cI, 8, .inl (G 75))), (ad 76, .inl (cI, 8, .inl (G 76))), (ad 77, .inl (cI, 400, .inl (G 77)))]
def mf_u (F : Nat → Int32) (k : Nat) (v : Int32) : Nat → Int32 := fun i => if i = k then v else F i
def mg_u (G : Nat → Nat → Int32) (j : Nat) (g : Nat → Int32) : Nat → Nat → Int32 := fun i => if i = j then g else G i
def ml_n : Nat → Nat := fun j => ([400, 23, 92, 48, 4, 4, 4, 4, 12, 12, 300, 300, 300, 300, 8, 8, 50, 50, 50, 50, 400, 400, 400, 400, 400, 400, 400, 400, 400, 800, 8000, 8000, 8000, 8000, 800, 4800, 3200, 3000, 3000, 3000, 3000, 3000, 400, 400, 400, 400, 82, 36, 37, 10, 10, 14, 7, 400, 400, 400, 108, 12, 12, 400, 36, 120, 400, 12, 12, 12, 144, 4096, 400, 12, 12, 12, 12, 400, 8, 8, 8, 400] : List Nat).getD j 0
theorem mf_a0 {ad : Nat → Nat} {F : Nat → Int32} : (mf_s ad F)[0]? = some (Value.ref (ad 0)) := rfl
theorem mf_i1 {ad : Nat → Nat} {F : Nat → Int32} : (mf_s ad F)[1]? = some (Value.int (F 1)) := rfl
theorem mf_p1 {ad : Nat → Nat} {F : Nat → Int32} {v : Int32} : (mf_s ad F).set 1 (Value.int v) = mf_s ad (mf_u F 1 v) := rfl
theorem mf_i2 {ad : Nat → Nat} {F : Nat → Int32} : (mf_s ad F)[2]? = some (Value.int (F 2)) := rfl
theorem mf_p2 {ad : Nat → Nat} {F : Nat → Int32} {v : Int32} : (mf_s ad F).set 2 (Value.int v) = mf_s ad (mf_u F 2 v) := rfl
theorem mf_i3 {ad : Nat → Nat} {F : Nat → Int32} : (mf_s ad F)[3]? = some (Value.int (F 3)) := rfl
theorem mf_p3 {ad : Nat → Nat} {F : Nat → Int32} {v : Int32} : (mf_s ad F).set 3 (Value.int v) = mf_s ad (mf_u F 3 v) := rfl
theorem mf_a4 {ad : Nat → Nat} {F : Nat → Int32} : (mf_s ad F)[4]? = some (Value.ref (ad 1)) := rfl
theorem mf_a5 {ad : Nat → Nat} {F : Nat → Int32} : (mf_s ad F)[5]? = some (Value.ref (ad 2)) := rfl
theorem mf_i6 {ad : Nat → Nat} {F : Nat → Int32} : (mf_s ad F)[6]? = some (Value.int (F 6)) := rfl
theorem mf_p6 {ad : Nat → Nat} {F : Nat → Int32} {v : Int32} : (mf_s ad F).set 6 (Value.int v) = mf_s ad (mf_u F 6 v) := rfl
theorem mf_a7 {ad : Nat → Nat} {F : Nat → Int32} : (mf_s ad F)[7]? = some (Value.ref (ad 3)) := rfl
theorem mf_a8 {ad : Nat → Nat} {F : Nat → Int32} : (mf_s ad F)[8]? = some (Value.ref (ad 4)) := rfl
theorem mf_a9 {ad : Nat → Nat} {F : Nat → Int32} : (mf_s ad F)[9]? = some (Value.ref (ad 5)) := rfl
theorem mf_a10 {ad : Nat → Nat} {F : Nat → Int32} : (mf_s ad F)[10]? = some (Value.ref (ad 6)) := rfl
theorem mf_a11 {ad : Nat → Nat} {F : Nat → Int32} : (mf_s ad F)[11]? = some (Value.ref (ad 7)) := rfl
theorem mf_i12 {ad : Nat → Nat} {F : Nat → Int32} : (mf_s ad F)[12]? = some (Value.int (F 12)) := rfl
theorem mf_p12 {ad : Nat → Nat} {F : Nat → Int32} {v : Int32} : (mf_s ad F).set 12 (Value.int v) = mf_s ad (mf_u F 12 v) := rfl
theorem mf_a13 {ad : Nat → Nat} {F : Nat → Int32} : (mf_s ad F)[13]? = some (Value.ref (ad 8)) := rfl
theorem mf_a14 {ad : Nat → Nat} {F : Nat → Int32} : (mf_s ad F)[14]? = some (Value.ref (ad 9)) := rfl
theorem mf_i15 {ad : Nat → Nat} {F : Nat → Int32} : (mf_s ad F)[15]? = some (Value.int (F 15)) := rfl
theorem mf_p15 {ad : Nat → Nat} {F : Nat → Int32} {v : Int32} : (mf_s ad F).set 15 (Value.int v) = mf_s ad (mf_u F 15 v) := rfl
theorem mf_i16 {ad : Nat → Nat} {F : Nat → Int32} : (mf_s ad F)[16]? = some (Value.int (F 16)) := rfl
theorem mf_p16 {ad : Nat → Nat} {F : Nat → Int32} {v : Int32} : (mf_s ad F).set 16 (Value.int v) = mf_s ad (mf_u F 16 v) := rfl
theorem mf_a17 {ad : Nat → Nat} {F : Nat → Int32} : (mf_s ad F)[17]? = some (Value.ref (ad 10)) := rfl
theorem mf_a18 {ad : Nat → Nat} {F : Nat → Int32} : (mf_s ad F)[18]? = some (Value.ref (ad 11)) := rfl
theorem mf_a19 {ad : Nat → Nat} {F : Nat → Int32} : (mf_s ad F)[19]? = some (Value.ref (ad 12)) := rfl
theorem mf_a20 {ad : Nat → Nat} {F : Nat → Int32} : (mf_s ad F)[20]? = some (Value.ref (ad 13)) := rfl
theorem mf_i21 {ad : Nat → Nat} {F : Nat → Int32} : (mf_s ad F)[21]? = some (Value.int (F 21)) := rfl
theorem mf_p21 {ad : Nat → Nat} {F : Nat → Int32} {v : Int32} : (mf_s ad F).set 21 (Value.int v) = mf_s ad (mf_u F 21 v) := rfl
theorem mf_a22 {ad : Nat → Nat} {F : Nat → Int32} : (mf_s ad F)[22]? = some (Value.ref (ad 14)) := rfl
theorem mf_a23 {ad : Nat → Nat} {F : Nat → Int32} : (mf_s ad F)[23]? = some (Value.ref (ad 15)) := rfl
theorem mf_i24 {ad : Nat → Nat} {F : Nat → Int32} : (mf_s ad F)[24]? = some (Value.int (F 24)) := rfl
theorem mf_p24 {ad : Nat → Nat} {F : Nat → Int32} {v : Int32} : (mf_s ad F).set 24 (Value.int v) = mf_s ad (mf_u F 24 v) := rfl
theorem mf_a25 {ad : Nat → Nat} {F : Nat → Int32} : (mf_s ad F)[25]? = some (Value.ref (ad 16)) := rfl
theorem mf_a26 {ad : Nat → Nat} {F : Nat → Int32} : (mf_s ad F)[26]? = some (Value.ref (ad 17)) := rfl
theorem mf_a27 {ad : Nat → Nat} {F : Nat → Int32} : (mf_s ad F)[27]? = some (Value.ref (ad 18)) := rfl
theorem mf_a28 {ad : Nat → Nat} {F : Nat → Int32} : (mf_s ad F)[28]? = some (Value.ref (ad 19)) := rfl
theorem mf_i29 {ad : Nat → Nat} {F : Nat → Int32} : (mf_s ad F)[29]? = some (Value.int (F 29)) := rfl
theorem mf_p29 {ad : Nat → Nat} {F : Nat → Int32} {v : Int32} : (mf_s ad F).set 29 (Value.int v) = mf_s ad (mf_u F 29 v) := rfl
theorem mf_a30 {ad : Nat → Nat} {F : Nat → Int32} : (mf_s ad F)[30]? = some (Value.ref (ad 20)) := rfl
theorem mf_a31 {ad : Nat → Nat} {F : Nat → Int32} : (mf_s ad F)[31]? = some (Value.ref (ad 21)) := rfl
theorem mf_a32 {ad : Nat → Nat} {F : Nat → Int32} : (mf_s ad F)[32]? = some (Value.ref (ad 22)) := rfl
theorem mf_a33 {ad : Nat → Nat} {F : Nat → Int32} : (mf_s ad F)[33]? = some (Value.ref (ad 23)) := rfl
theorem mf_a34 {ad : Nat → Nat} {F : Nat → Int32} : (mf_s ad F)[34]? = some (Value.ref (ad 24)) := rfl
theorem mf_a35 {ad : Nat → Nat} {F : Nat → Int32} : (mf_s ad F)[35]? = some (Value.ref (ad 25)) := rfl
theorem mf_a36 {ad : Nat → Nat} {F : Nat → Int32} : (mf_s ad F)[36]? = some (Value.ref (ad 26)) := rfl
theorem mf_a37 {ad : Nat → Nat} {F : Nat → Int32} : (mf_s ad F)[37]? = some (Value.ref (ad 27)) := rfl
theorem mf_a38 {ad : Nat → Nat} {F : Nat → Int32} : (mf_s ad F)[38]? = some (Value.ref (ad 28)) := rfl
theorem mf_a39 {ad : Nat → Nat} {F : Nat → Int32} : (mf_s ad F)[39]? = some (Value.ref (ad 29)) := rfl
theorem mf_a40 {ad : Nat → Nat} {F : Nat → Int32} : (mf_s ad F)[40]? = some (Value.ref (ad 30)) := rfl
theorem mf_a41 {ad : Nat → Nat} {F : Nat → Int32} : (mf_s ad F)[41]? = some (Value.ref (ad 31)) := rfl
theorem mf_a42 {ad : Nat → Nat} {F : Nat → Int32} : (mf_s ad F)[42]? = some (Value.ref (ad 32)) := rfl
theorem mf_a43 {ad : Nat → Nat} {F : Nat → Int32} : (mf_s ad F)[43]? = some (Value.ref (ad 33)) := rfl
theorem mf_a44 {ad : Nat → Nat} {F : Nat → Int32} : (mf_s ad F)[44]? = some (Value.ref (ad 34)) := rfl
theorem mf_a45 {ad : Nat → Nat} {F : Nat → Int32} : (mf_s ad F)[45]? = some (Value.ref (ad 35)) := rfl
theorem mf_a46 {ad : Nat → Nat} {F : Nat → Int32} : (mf_s ad F)[46]? = some (Value.ref (ad 36)) := rfl
theorem mf_i47 {ad : Nat → Nat} {F : Nat → Int32} : (mf_s ad F)[47]? = some (Value.int (F 47)) := rfl
theorem mf_p47 {ad : Nat → Nat} {F : Nat → Int32} {v : Int32} : (mf_s ad F).set 47 (Value.int v) = mf_s ad (mf_u F 47 v) := rfl
theorem mf_a48 {ad : Nat → Nat} {F : Nat → Int32} : (mf_s ad F)[48]? = some (Value.ref (ad 37)) := rfl
theorem mf_a49 {ad : Nat → Nat} {F : Nat → Int32} : (mf_s ad F)[49]? = some (Value.ref (ad 38)) := rfl
theorem mf_a50 {ad : Nat → Nat} {F : Nat → Int32} : (mf_s ad F)[50]? = some (Value.ref (ad 39)) := rfl
theorem mf_a51 {ad : Nat → Nat} {F : Nat → Int32} : (mf_s ad F)[51]? = some (Value.ref (ad 40)) := rfl
theorem mf_a52 {ad : Nat → Nat} {F : Nat → Int32} : (mf_s ad F)[52]? = some (Value.ref (ad 41)) := rfl
theorem mf_a53 {ad : Nat → Nat} {F : Nat → Int32} : (mf_s ad F)[53]? = some (Value.ref (ad 42)) := rfl
theorem mf_a54 {ad : Nat → Nat} {F : Nat → Int32} : (mf_s ad F)[54]? = some (Value.ref (ad 43)) := rfl
theorem mf_a55 {ad : Nat → Nat} {F : Nat → Int32} : (mf_s ad F)[55]? = some (Value.ref (ad 44)) := rfl
theorem mf_a56 {ad : Nat → Nat} {F : Nat → Int32} : (mf_s ad F)[56]? = some (Value.ref (ad 45)) := rfl
theorem mf_i57 {ad : Nat → Nat} {F : Nat → Int32} : (mf_s ad F)[57]? = some (Value.int (F 57)) := rfl
theorem mf_p57 {ad : Nat → Nat} {F : Nat → Int32} {v : Int32} : (mf_s ad F).set 57 (Value.int v) = mf_s ad (mf_u F 57 v) := rfl
theorem mf_i58 {ad : Nat → Nat} {F : Nat → Int32} : (mf_s ad F)[58]? = some (Value.int (F 58)) := rfl
theorem mf_p58 {ad : Nat → Nat} {F : Nat → Int32} {v : Int32} : (mf_s ad F).set 58 (Value.int v) = mf_s ad (mf_u F 58 v) := rfl
theorem mf_i59 {ad : Nat → Nat} {F : Nat → Int32} : (mf_s ad F)[59]? = some (Value.int (F 59)) := rfl
theorem mf_p59 {ad : Nat → Nat} {F : Nat → Int32} {v : Int32} : (mf_s ad F).set 59 (Value.int v) = mf_s ad (mf_u F 59 v) := rfl
theorem mf_i60 {ad : Nat → Nat} {F : Nat → Int32} : (mf_s ad F)[60]? = some (Value.int (F 60)) := rfl
theorem mf_p60 {ad : Nat → Nat} {F : Nat → Int32} {v : Int32} : (mf_s ad F).set 60 (Value.int v) = mf_s ad (mf_u F 60 v) := rfl
theorem mf_i61 {ad : Nat → Nat} {F : Nat → Int32} : (mf_s ad F)[61]? = some (Value.int (F 61)) := rfl
theorem mf_p61 {ad : Nat → Nat} {F : Nat → Int32} {v : Int32} : (mf_s ad F).set 61 (Value.int v) = mf_s ad (mf_u F 61 v) := rfl
theorem mf_i62 {ad : Nat → Nat} {F : Nat → Int32} : (mf_s ad F)[62]? = some (Value.int (F 62)) := rfl
theorem mf_p62 {ad : Nat → Nat} {F : Nat → Int32} {v : Int32} : (mf_s ad F).set 62 (Value.int v) = mf_s ad (mf_u F 62 v) := rfl
theorem mf_i63 {ad : Nat → Nat} {F : Nat → Int32} : (mf_s ad F)[63]? = some (Value.int (F 63)) := rfl
theorem mf_p63 {ad : Nat → Nat} {F : Nat → Int32} {v : Int32} : (mf_s ad F).set 63 (Value.int v) = mf_s ad (mf_u F 63 v) := rfl
theorem mf_a64 {ad : Nat → Nat} {F : Nat → Int32} : (mf_s ad F)[64]? = some (Value.ref (ad 46)) := rfl
theorem mf_a65 {ad : Nat → Nat} {F : Nat → Int32} : (mf_s ad F)[65]? = some (Value.ref (ad 47)) := rfl
theorem mf_a66 {ad : Nat → Nat} {F : Nat → Int32} : (mf_s ad F)[66]? = some (Value.ref (ad 48)) := rfl
theorem mf_a67 {ad : Nat → Nat} {F : Nat → Int32} : (mf_s ad F)[67]? = some (Value.ref (ad 49)) := rfl
theorem mf_a68 {ad : Nat → Nat} {F : Nat → Int32} : (mf_s ad F)[68]? = some (Value.ref (ad 50)) := rfl
theorem mf_a69 {ad : Nat → Nat} {F : Nat → Int32} : (mf_s ad F)[69]? = some (Value.ref (ad 51)) := rfl
theorem mf_a70 {ad : Nat → Nat} {F : Nat → Int32} : (mf_s ad F)[70]? = some (Value.ref (ad 52)) := rfl
theorem mf_a71 {ad : Nat → Nat} {F : Nat → Int32} : (mf_s ad F)[71]? = some (Value.ref (ad 53)) := rfl
theorem mf_a72 {ad : Nat → Nat} {F : Nat → Int32} : (mf_s ad F)[72]? = some (Value.ref (ad 54)) := rfl
theorem mf_i73 {ad : Nat → Nat} {F : Nat → Int32} : (mf_s ad F)[73]? = some (Value.int (F 73)) := rfl
theorem mf_p73 {ad : Nat → Nat} {F : Nat → Int32} {v : Int32} : (mf_s ad F).set 73 (Value.int v) = mf_s ad (mf_u F 73 v) := rfl
theorem mf_a74 {ad : Nat → Nat} {F : Nat → Int32} : (mf_s ad F)[74]? = some (Value.ref (ad 55)) := rfl
theorem mf_i75 {ad : Nat → Nat} {F : Nat → Int32} : (mf_s ad F)[75]? = some (Value.int (F 75)) := rfl
theorem mf_p75 {ad : Nat → Nat} {F : Nat → Int32} {v : Int32} : (mf_s ad F).set 75 (Value.int v) = mf_s ad (mf_u F 75 v) := rfl
theorem mf_a76 {ad : Nat → Nat} {F : Nat → Int32} : (mf_s ad F)[76]? = some (Value.ref (ad 56)) := rfl
theorem mf_a77 {ad : Nat → Nat} {F : Nat → Int32} : (mf_s ad F)[77]? = some (Value.ref (ad 57)) := rfl
theorem mf_a78 {ad : Nat → Nat} {F : Nat → Int32} : (mf_s ad F)[78]? = some (Value.ref (ad 58)) := rfl
theorem mf_i79 {ad : Nat → Nat} {F : Nat → Int32} : (mf_s ad F)[79]? = some (Value.int (F 79)) := rfl
theorem mf_p79 {ad : Nat → Nat} {F : Nat → Int32} {v : Int32} : (mf_s ad F).set 79 (Value.int v) = mf_s ad (mf_u F 79 v) := rfl
theorem mf_i80 {ad : Nat → Nat} {F : Nat → Int32} : (mf_s ad F)[80]? = some (Value.int (F 80)) := rfl
theorem mf_p80 {ad : Nat → Nat} {F : Nat → Int32} {v : Int32} : (mf_s ad F).set 80 (Value.int v) = mf_s ad (mf_u F 80 v) := rfl
theorem mf_a81 {ad : Nat → Nat} {F : Nat → Int32} : (mf_s ad F)[81]? = some (Value.ref (ad 59)) := rfl
theorem mf_i82 {ad : Nat → Nat} {F : Nat → Int32} : (mf_s ad F)[82]? = some (Value.int (F 82)) := rfl
theorem mf_p82 {ad : Nat → Nat} {F : Nat → Int32} {v : Int32} : (mf_s ad F).set 82 (Value.int v) = mf_s ad (mf_u F 82 v) := rfl
theorem mf_i83 {ad : Nat → Nat} {F : Nat → Int32} : (mf_s ad F)[83]? = some (Value.int (F 83)) := rfl
theorem mf_p83 {ad : Nat → Nat} {F : Nat → Int32} {v : Int32} : (mf_s ad F).set 83 (Value.int v) = mf_s ad (mf_u F 83 v) := rfl
theorem mf_a84 {ad : Nat → Nat} {F : Nat → Int32} : (mf_s ad F)[84]? = some (Value.ref (ad 60)) := rfl
theorem mf_i85 {ad : Nat → Nat} {F : Nat → Int32} : (mf_s ad F)[85]? = some (Value.int (F 85)) := rfl
theorem mf_p85 {ad : Nat → Nat} {F : Nat → Int32} {v : Int32} : (mf_s ad F).set 85 (Value.int v) = mf_s ad (mf_u F 85 v) := rfl
theorem mf_a86 {ad : Nat → Nat} {F : Nat → Int32} : (mf_s ad F)[86]? = some (Value.ref (ad 61)) := rfl
theorem mf_i87 {ad : Nat → Nat} {F : Nat → Int32} : (mf_s ad F)[87]? = some (Value.int (F 87)) := rfl
theorem mf_p87 {ad : Nat → Nat} {F : Nat → Int32} {v : Int32} : (mf_s ad F).set 87 (Value.int v) = mf_s ad (mf_u F 87 v) := rfl
theorem mf_i88 {ad : Nat → Nat} {F : Nat → Int32} : (mf_s ad F)[88]? = some (Value.int (F 88)) := rfl
theorem mf_p88 {ad : Nat → Nat} {F : Nat → Int32} {v : Int32} : (mf_s ad F).set 88 (Value.int v) = mf_s ad (mf_u F 88 v) := rfl
theorem mf_a89 {ad : Nat → Nat} {F : Nat → Int32} : (mf_s ad F)[89]? = some (Value.ref (ad 62)) := rfl
theorem mf_i90 {ad : Nat → Nat} {F : Nat → Int32} : (mf_s ad F)[90]? = some (Value.int (F 90)) := rfl
theorem mf_p90 {ad : Nat → Nat} {F : Nat → Int32} {v : Int32} : (mf_s ad F).set 90 (Value.int v) = mf_s ad (mf_u F 90 v) := rfl
theorem mf_a91 {ad : Nat → Nat} {F : Nat → Int32} : (mf_s ad F)[91]? = some (Value.ref (ad 63)) := rfl
theorem mf_a92 {ad : Nat → Nat} {F : Nat → Int32} : (mf_s ad F)[92]? = some (Value.ref (ad 64)) := rfl
theorem mf_a93 {ad : Nat → Nat} {F : Nat → Int32} : (mf_s ad F)[93]? = some (Value.ref (ad 65)) := rfl
theorem mf_a94 {ad : Nat → Nat} {F : Nat → Int32} : (mf_s ad F)[94]? = some (Value.ref (ad 66)) := rfl
theorem mf_i95 {ad : Nat → Nat} {F : Nat → Int32} : (mf_s ad F)[95]? = some (Value.int (F 95)) := rfl
theorem mf_p95 {ad : Nat → Nat} {F : Nat → Int32} {v : Int32} : (mf_s ad F).set 95 (Value.int v) = mf_s ad (mf_u F 95 v) := rfl
theorem mf_a96 {ad : Nat → Nat} {F : Nat → Int32} : (mf_s ad F)[96]? = some (Value.ref (ad 67)) := rfl
theorem mf_a97 {ad : Nat → Nat} {F : Nat → Int32} : (mf_s ad F)[97]? = some (Value.ref (ad 68)) := rfl
theorem mf_i98 {ad : Nat → Nat} {F : Nat → Int32} : (mf_s ad F)[98]? = some (Value.int (F 98)) := rfl
theorem mf_p98 {ad : Nat → Nat} {F : Nat → Int32} {v : Int32} : (mf_s ad F).set 98 (Value.int v) = mf_s ad (mf_u F 98 v) := rfl
theorem mf_i99 {ad : Nat → Nat} {F : Nat → Int32} : (mf_s ad F)[99]? = some (Value.int (F 99)) := rfl
theorem mf_p99 {ad : Nat → Nat} {F : Nat → Int32} {v : Int32} : (mf_s ad F).set 99 (Value.int v) = mf_s ad (mf_u F 99 v) := rfl
theorem mf_i100 {ad : Nat → Nat} {F : Nat → Int32} : (mf_s ad F)[100]? = some (Value.int (F 100)) := rfl
theorem mf_p100 {ad : Nat → Nat} {F : Nat → Int32} {v : Int32} : (mf_s ad F).set 100 (Value.int v) = mf_s ad (mf_u F 100 v) := rfl
theorem mf_a101 {ad : Nat → Nat} {F : Nat → Int32} : (mf_s ad F)[101]? = some (Value.ref (ad 69)) := rfl
theorem mf_a102 {ad : Nat → Nat} {F : Nat → Int32} : (mf_s ad F)[102]? = some (Value.ref (ad 70)) := rfl
theorem mf_i103 {ad : Nat → Nat} {F : Nat → Int32} : (mf_s ad F)[103]? = some (Value.int (F 103)) := rfl
theorem mf_p103 {ad : Nat → Nat} {F : Nat → Int32} {v : Int32} : (mf_s ad F).set 103 (Value.int v) = mf_s ad (mf_u F 103 v) := rfl
theorem mf_a104 {ad : Nat → Nat} {F : Nat → Int32} : (mf_s ad F)[104]? = some (Value.ref (ad 71)) := rfl
theorem mf_a105 {ad : Nat → Nat} {F : Nat → Int32} : (mf_s ad F)[105]? = some (Value.ref (ad 72)) := rfl
theorem mf_a106 {ad : Nat → Nat} {F : Nat → Int32} : (mf_s ad F)[106]? = some (Value.ref (ad 73)) := rfl
theorem mf_i107 {ad : Nat → Nat} {F : Nat → Int32} : (mf_s ad F)[107]? = some (Value.int (F 107)) := rfl
theorem mf_p107 {ad : Nat → Nat} {F : Nat → Int32} {v : Int32} : (mf_s ad F).set 107 (Value.int v) = mf_s ad (mf_u F 107 v) := rfl
theorem mf_a108 {ad : Nat → Nat} {F : Nat → Int32} : (mf_s ad F)[108]? = some (Value.ref (ad 74)) := rfl
theorem mf_a109 {ad : Nat → Nat} {F : Nat → Int32} : (mf_s ad F)[109]? = some (Value.ref (ad 75)) := rfl
theorem mf_a110 {ad : Nat → Nat} {F : Nat → Int32} : (mf_s ad F)[110]? = some (Value.ref (ad 76)) := rfl
theorem mf_a111 {ad : Nat → Nat} {F : Nat → Int32} : (mf_s ad F)[111]? = some (Value.ref (ad 77)) := rfl
theorem mf_i112 {ad : Nat → Nat} {F : Nat → Int32} : (mf_s ad F)[112]? = some (Value.int (F 112)) := rfl
theorem mf_p112 {ad : Nat → Nat} {F : Nat → Int32} {v : Int32} : (mf_s ad F).set 112 (Value.int v) = mf_s ad (mf_u F 112 v) := rfl
theorem mf_i113 {ad : Nat → Nat} {F : Nat → Int32} : (mf_s ad F)[113]? = some (Value.int (F 113)) := rfl
theorem mf_p113 {ad : Nat → Nat} {F : Nat → Int32} {v : Int32} : (mf_s ad F).set 113 (Value.int v) = mf_s ad (mf_u F 113 v) := rfl
theorem mw_g0 {m0 : Nat} {ad : Nat → Nat} {cI cZ : ClassId} {F : Nat → Int32} {G : Nat → Nat → Int32} : (mw_s m0 ad cI cZ F G)[1]? = some (ad 0, .inl (cI, 400, .inl (G 0))) := rfl
theorem mw_p0 {m0 : Nat} {ad : Nat → Nat} {cI cZ : ClassId} {F : Nat → Int32} {G : Nat → Nat → Int32} {g : Nat → Int32} : (mw_s m0 ad cI cZ F G).set 1 (ad 0, .inl (cI, 400, .inl g)) = mw_s m0 ad cI cZ F (mg_u G 0 g) := rfl
theorem mw_g1 {m0 : Nat} {ad : Nat → Nat} {cI cZ : ClassId} {F : Nat → Int32} {G : Nat → Nat → Int32} : (mw_s m0 ad cI cZ F G)[2]? = some (ad 1, .inl (cI, 23, .inl (G 1))) := rfl
theorem mw_p1 {m0 : Nat} {ad : Nat → Nat} {cI cZ : ClassId} {F : Nat → Int32} {G : Nat → Nat → Int32} {g : Nat → Int32} : (mw_s m0 ad cI cZ F G).set 2 (ad 1, .inl (cI, 23, .inl g)) = mw_s m0 ad cI cZ F (mg_u G 1 g) := rfl
theorem mw_g2 {m0 : Nat} {ad : Nat → Nat} {cI cZ : ClassId} {F : Nat → Int32} {G : Nat → Nat → Int32} : (mw_s m0 ad cI cZ F G)[3]? = some (ad 2, .inl (cI, 92, .inl (G 2))) := rfl
theorem mw_p2 {m0 : Nat} {ad : Nat → Nat} {cI cZ : ClassId} {F : Nat → Int32} {G : Nat → Nat → Int32} {g : Nat → Int32} : (mw_s m0 ad cI cZ F G).set 3 (ad 2, .inl (cI, 92, .inl g)) = mw_s m0 ad cI cZ F (mg_u G 2 g) := rfl
theorem mw_g3 {m0 : Nat} {ad : Nat → Nat} {cI cZ : ClassId} {F : Nat → Int32} {G : Nat → Nat → Int32} : (mw_s m0 ad cI cZ F G)[4]? = some (ad 3, .inl (cI, 48, .inl (G 3))) := rfl
theorem mw_p3 {m0 : Nat} {ad : Nat → Nat} {cI cZ : ClassId} {F : Nat → Int32} {G : Nat → Nat → Int32} {g : Nat → Int32} : (mw_s m0 ad cI cZ F G).set 4 (ad 3, .inl (cI, 48, .inl g)) = mw_s m0 ad cI cZ F (mg_u G 3 g) := rfl
theorem mw_g4 {m0 : Nat} {ad : Nat → Nat} {cI cZ : ClassId} {F : Nat → Int32} {G : Nat → Nat → Int32} : (mw_s m0 ad cI cZ F G)[5]? = some (ad 4, .inl (cI, 4, .inl (G 4))) := rfl
theorem mw_p4 {m0 : Nat} {ad : Nat → Nat} {cI cZ : ClassId} {F : Nat → Int32} {G : Nat → Nat → Int32} {g : Nat → Int32} : (mw_s m0 ad cI cZ F G).set 5 (ad 4, .inl (cI, 4, .inl g)) = mw_s m0 ad cI cZ F (mg_u G 4 g) := rfl
theorem mw_g5 {m0 : Nat} {ad : Nat → Nat} {cI cZ : ClassId} {F : Nat → Int32} {G : Nat → Nat → Int32} : (mw_s m0 ad cI cZ F G)[6]? = some (ad 5, .inl (cZ, 4, .inl (G 5))) := rfl
theorem mw_p5 {m0 : Nat} {ad : Nat → Nat} {cI cZ : ClassId} {F : Nat → Int32} {G : Nat → Nat → Int32} {g : Nat → Int32} : (mw_s m0 ad cI cZ F G).set 6 (ad 5, .inl (cZ, 4, .inl g)) = mw_s m0 ad cI cZ F (mg_u G 5 g) := rfl
theorem mw_g6 {m0 : Nat} {ad : Nat → Nat} {cI cZ : ClassId} {F : Nat → Int32} {G : Nat → Nat → Int32} : (mw_s m0 ad cI cZ F G)[7]? = some (ad 6, .inl (cI, 4, .inl (G 6))) := rfl
theorem mw_p6 {m0 : Nat} {ad : Nat → Nat} {cI cZ : ClassId} {F : Nat → Int32} {G : Nat → Nat → Int32} {g : Nat → Int32} : (mw_s m0 ad cI cZ F G).set 7 (ad 6, .inl (cI, 4, .inl g)) = mw_s m0 ad cI cZ F (mg_u G 6 g) := rfl
theorem mw_g7 {m0 : Nat} {ad : Nat → Nat} {cI cZ : ClassId} {F : Nat → Int32} {G : Nat → Nat → Int32} : (mw_s m0 ad cI cZ F G)[8]? = some (ad 7, .inl (cI, 4, .inl (G 7))) := rfl
theorem mw_p7 {m0 : Nat} {ad : Nat → Nat} {cI cZ : ClassId} {F : Nat → Int32} {G : Nat → Nat → Int32} {g : Nat → Int32} : (mw_s m0 ad cI cZ F G).set 8 (ad 7, .inl (cI, 4, .inl g)) = mw_s m0 ad cI cZ F (mg_u G 7 g) := rfl
theorem mw_g8 {m0 : Nat} {ad : Nat → Nat} {cI cZ : ClassId} {F : Nat → Int32} {G : Nat → Nat → Int32} : (mw_s m0 ad cI cZ F G)[9]? = some (ad 8, .inl (cI, 12, .inl (G 8))) := rfl
theorem mw_p8 {m0 : Nat} {ad : Nat → Nat} {cI cZ : ClassId} {F : Nat → Int32} {G : Nat → Nat → Int32} {g : Nat → Int32} : (mw_s m0 ad cI cZ F G).set 9 (ad 8, .inl (cI, 12, .inl g)) = mw_s m0 ad cI cZ F (mg_u G 8 g) := rfl
theorem mw_g9 {m0 : Nat} {ad : Nat → Nat} {cI cZ : ClassId} {F : Nat → Int32} {G : Nat → Nat → Int32} : (mw_s m0 ad cI cZ F G)[10]? = some (ad 9, .inl (cI, 12, .inl (G 9))) := rfl
theorem mw_p9 {m0 : Nat} {ad : Nat → Nat} {cI cZ : ClassId} {F : Nat → Int32} {G : Nat → Nat → Int32} {g : Nat → Int32} : (mw_s m0 ad cI cZ F G).set 10 (ad 9, .inl (cI, 12, .inl g)) = mw_s m0 ad cI cZ F (mg_u G 9 g) := rfl
theorem mw_g10 {m0 : Nat} {ad : Nat → Nat} {cI cZ : ClassId} {F : Nat → Int32} {G : Nat → Nat → Int32} : (mw_s m0 ad cI cZ F G)[11]? = some (ad 10, .inl (cI, 300, .inl (G 10))) := rfl
theorem mw_p10 {m0 : Nat} {ad : Nat → Nat} {cI cZ : ClassId} {F : Nat → Int32} {G : Nat → Nat → Int32} {g : Nat → Int32} : (mw_s m0 ad cI cZ F G).set 11 (ad 10, .inl (cI, 300, .inl g)) = mw_s m0 ad cI cZ F (mg_u G 10 g) := rfl
theorem mw_g11 {m0 : Nat} {ad : Nat → Nat} {cI cZ : ClassId} {F : Nat → Int32} {G : Nat → Nat → Int32} : (mw_s m0 ad cI cZ F G)[12]? = some (ad 11, .inl (cI, 300, .inl (G 11))) := rfl
theorem mw_p11 {m0 : Nat} {ad : Nat → Nat} {cI cZ : ClassId} {F : Nat → Int32} {G : Nat → Nat → Int32} {g : Nat → Int32} : (mw_s m0 ad cI cZ F G).set 12 (ad 11, .inl (cI, 300, .inl g)) = mw_s m0 ad cI cZ F (mg_u G 11 g) := rfl
theorem mw_g12 {m0 : Nat} {ad : Nat → Nat} {cI cZ : ClassId} {F : Nat → Int32} {G : Nat → Nat → Int32} : (mw_s m0 ad cI cZ F G)[13]? = some (ad 12, .inl (cI, 300, .inl (G 12))) := rfl
theorem mw_p12 {m0 : Nat} {ad : Nat → Nat} {cI cZ : ClassId} {F : Nat → Int32} {G : Nat → Nat → Int32} {g : Nat → Int32} : (mw_s m0 ad cI cZ F G).set 13 (ad 12, .inl (cI, 300, .inl g)) = mw_s m0 ad cI cZ F (mg_u G 12 g) := rfl
theorem mw_g13 {m0 : Nat} {ad : Nat → Nat} {cI cZ : ClassId} {F : Nat → Int32} {G : Nat → Nat → Int32} : (mw_s m0 ad cI cZ F G)[14]? = some (ad 13, .inl (cI, 300, .inl (G 13))) := rfl
theorem mw_p13 {m0 : Nat} {ad : Nat → Nat} {cI cZ : ClassId} {F : Nat → Int32} {G : Nat → Nat → Int32} {g : Nat → Int32} : (mw_s m0 ad cI cZ F G).set 14 (ad 13, .inl (cI, 300, .inl g)) = mw_s m0 ad cI cZ F (mg_u G 13 g) := rfl
theorem mw_g14 {m0 : Nat} {ad : Nat → Nat} {cI cZ : ClassId} {F : Nat → Int32} {G : Nat → Nat → Int32} : (mw_s m0 ad cI cZ F G)[15]? = some (ad 14, .inl (cI, 8, .inl (G 14))) := rfl
theorem mw_p14 {m0 : Nat} {ad : Nat → Nat} {cI cZ : ClassId} {F : Nat → Int32} {G : Nat → Nat → Int32} {g : Nat → Int32} : (mw_s m0 ad cI cZ F G).set 15 (ad 14, .inl (cI, 8, .inl g)) = mw_s m0 ad cI cZ F (mg_u G 14 g) := rfl
theorem mw_g15 {m0 : Nat} {ad : Nat → Nat} {cI cZ : ClassId} {F : Nat → Int32} {G : Nat → Nat → Int32} : (mw_s m0 ad cI cZ F G)[16]? = some (ad 15, .inl (cI, 8, .inl (G 15))) := rfl
theorem mw_p15 {m0 : Nat} {ad : Nat → Nat} {cI cZ : ClassId} {F : Nat → Int32} {G : Nat → Nat → Int32} {g : Nat → Int32} : (mw_s m0 ad cI cZ F G).set 16 (ad 15, .inl (cI, 8, .inl g)) = mw_s m0 ad cI cZ F (mg_u G 15 g) := rfl
theorem mw_g16 {m0 : Nat} {ad : Nat → Nat} {cI cZ : ClassId} {F : Nat → Int32} {G : Nat → Nat → Int32} : (mw_s m0 ad cI cZ F G)[17]? = some (ad 16, .inl (cI, 50, .inl (G 16))) := rfl
theorem mw_p16 {m0 : Nat} {ad : Nat → Nat} {cI cZ : ClassId} {F : Nat → Int32} {G : Nat → Nat → Int32} {g : Nat → Int32} : (mw_s m0 ad cI cZ F G).set 17 (ad 16, .inl (cI, 50, .inl g)) = mw_s m0 ad cI cZ F (mg_u G 16 g) := rfl
theorem mw_g17 {m0 : Nat} {ad : Nat → Nat} {cI cZ : ClassId} {F : Nat → Int32} {G : Nat → Nat → Int32} : (mw_s m0 ad cI cZ F G)[18]? = some (ad 17, .inl (cI, 50, .inl (G 17))) := rfl
theorem mw_p17 {m0 : Nat} {ad : Nat → Nat} {cI cZ : ClassId} {F : Nat → Int32} {G : Nat → Nat → Int32} {g : Nat → Int32} : (mw_s m0 ad cI cZ F G).set 18 (ad 17, .inl (cI, 50, .inl g)) = mw_s m0 ad cI cZ F (mg_u G 17 g) := rfl
theorem mw_g18 {m0 : Nat} {ad : Nat → Nat} {cI cZ : ClassId} {F : Nat → Int32} {G : Nat → Nat → Int32} : (mw_s m0 ad cI cZ F G)[19]? = some (ad 18, .inl (cI, 50, .inl (G 18))) := rfl
theorem mw_p18 {m0 : Nat} {ad : Nat → Nat} {cI cZ : ClassId} {F : Nat → Int32} {G : Nat → Nat → Int32} {g : Nat → Int32} : (mw_s m0 ad cI cZ F G).set 19 (ad 18, .inl (cI, 50, .inl g)) = mw_s m0 ad cI cZ F (mg_u G 18 g) := rfl
theorem mw_g19 {m0 : Nat} {ad : Nat → Nat} {cI cZ : ClassId} {F : Nat → Int32} {G : Nat → Nat → Int32} : (mw_s m0 ad cI cZ F G)[20]? = some (ad 19, .inl (cI, 50, .inl (G 19))) := rfl
theorem mw_p19 {m0 : Nat} {ad : Nat → Nat} {cI cZ : ClassId} {F : Nat → Int32} {G : Nat → Nat → Int32} {g : Nat → Int32} : (mw_s m0 ad cI cZ F G).set 20 (ad 19, .inl (cI, 50, .inl g)) = mw_s m0 ad cI cZ F (mg_u G 19 g) := rfl
theorem mw_g20 {m0 : Nat} {ad : Nat → Nat} {cI cZ : ClassId} {F : Nat → Int32} {G : Nat → Nat → Int32} : (mw_s m0 ad cI cZ F G)[21]? = some (ad 20, .inl (cI, 400, .inl (G 20))) := rfl
theorem mw_p20 {m0 : Nat} {ad : Nat → Nat} {cI cZ : ClassId} {F : Nat → Int32} {G : Nat → Nat → Int32} {g : Nat → Int32} : (mw_s m0 ad cI cZ F G).set 21 (ad 20, .inl (cI, 400, .inl g)) = mw_s m0 ad cI cZ F (mg_u G 20 g) := rfl
theorem mw_g21 {m0 : Nat} {ad : Nat → Nat} {cI cZ : ClassId} {F : Nat → Int32} {G : Nat → Nat → Int32} : (mw_s m0 ad cI cZ F G)[22]? = some (ad 21, .inl (cI, 400, .inl (G 21))) := rfl
theorem mw_p21 {m0 : Nat} {ad : Nat → Nat} {cI cZ : ClassId} {F : Nat → Int32} {G : Nat → Nat → Int32} {g : Nat → Int32} : (mw_s m0 ad cI cZ F G).set 22 (ad 21, .inl (cI, 400, .inl g)) = mw_s m0 ad cI cZ F (mg_u G 21 g) := rfl
theorem mw_g22 {m0 : Nat} {ad : Nat → Nat} {cI cZ : ClassId} {F : Nat → Int32} {G : Nat → Nat → Int32} : (mw_s m0 ad cI cZ F G)[23]? = some (ad 22, .inl (cI, 400, .inl (G 22))) := rfl
theorem mw_p22 {m0 : Nat} {ad : Nat → Nat} {cI cZ : ClassId} {F : Nat → Int32} {G : Nat → Nat → Int32} {g : Nat → Int32} : (mw_s m0 ad cI cZ F G).set 23 (ad 22, .inl (cI, 400, .inl g)) = mw_s m0 ad cI cZ F (mg_u G 22 g) := rfl
theorem mw_g23 {m0 : Nat} {ad : Nat → Nat} {cI cZ : ClassId} {F : Nat → Int32} {G : Nat → Nat → Int32} : (mw_s m0 ad cI cZ F G)[24]? = some (ad 23, .inl (cI, 400, .inl (G 23))) := rfl
theorem mw_p23 {m0 : Nat} {ad : Nat → Nat} {cI cZ : ClassId} {F : Nat → Int32} {G : Nat → Nat → Int32} {g : Nat → Int32} : (mw_s m0 ad cI cZ F G).set 24 (ad 23, .inl (cI, 400, .inl g)) = mw_s m0 ad cI cZ F (mg_u G 23 g) := rfl
theorem mw_g24 {m0 : Nat} {ad : Nat → Nat} {cI cZ : ClassId} {F : Nat → Int32} {G : Nat → Nat → Int32} : (mw_s m0 ad cI cZ F G)[25]? = some (ad 24, .inl (cI, 400, .inl (G 24))) := rfl
theorem mw_p24 {m0 : Nat} {ad : Nat → Nat} {cI cZ : ClassId} {F : Nat → Int32} {G : Nat → Nat → Int32} {g : Nat → Int32} : (mw_s m0 ad cI cZ F G).set 25 (ad 24, .inl (cI, 400, .inl g)) = mw_s m0 ad cI cZ F (mg_u G 24 g) := rfl
theorem mw_g25 {m0 : Nat} {ad : Nat → Nat} {cI cZ : ClassId} {F : Nat → Int32} {G : Nat → Nat → Int32} : (mw_s m0 ad cI cZ F G)[26]? = some (ad 25, .inl (cI, 400, .inl (G 25))) := rfl
theorem mw_p25 {m0 : Nat} {ad : Nat → Nat} {cI cZ : ClassId} {F : Nat → Int32} {G : Nat → Nat → Int32} {g : Nat → Int32} : (mw_s m0 ad cI cZ F G).set 26 (ad 25, .inl (cI, 400, .inl g)) = mw_s m0 ad cI cZ F (mg_u G 25 g) := rfl
theorem mw_g26 {m0 : Nat} {ad : Nat → Nat} {cI cZ : ClassId} {F : Nat → Int32} {G : Nat → Nat → Int32} : (mw_s m0 ad cI cZ F G)[27]? = some (ad 26, .inl (cI, 400, .inl (G 26))) := rfl
theorem mw_p26 {m0 : Nat} {ad : Nat → Nat} {cI cZ : ClassId} {F : Nat → Int32} {G : Nat → Nat → Int32} {g : Nat → Int32} : (mw_s m0 ad cI cZ F G).set 27 (ad 26, .inl (cI, 400, .inl g)) = mw_s m0 ad cI cZ F (mg_u G 26 g) := rfl
theorem mw_g27 {m0 : Nat} {ad : Nat → Nat} {cI cZ : ClassId} {F : Nat → Int32} {G : Nat → Nat → Int32} : (mw_s m0 ad cI cZ F G)[28]? = some (ad 27, .inl (cI, 400, .inl (G 27))) := rfl
theorem mw_p27 {m0 : Nat} {ad : Nat → Nat} {cI cZ : ClassId} {F : Nat → Int32} {G : Nat → Nat → Int32} {g : Nat → Int32} : (mw_s m0 ad cI cZ F G).set 28 (ad 27, .inl (cI, 400, .inl g)) = mw_s m0 ad cI cZ F (mg_u G 27 g) := rfl
theorem mw_g28 {m0 : Nat} {ad : Nat → Nat} {cI cZ : ClassId} {F : Nat → Int32} {G : Nat → Nat → Int32} : (mw_s m0 ad cI cZ F G)[29]? = some (ad 28, .inl (cI, 400, .inl (G 28))) := rfl
theorem mw_p28 {m0 : Nat} {ad : Nat → Nat} {cI cZ : ClassId} {F : Nat → Int32} {G : Nat → Nat → Int32} {g : Nat → Int32} : (mw_s m0 ad cI cZ F G).set 29 (ad 28, .inl (cI, 400, .inl g)) = mw_s m0 ad cI cZ F (mg_u G 28 g) := rfl
theorem mw_g29 {m0 : Nat} {ad : Nat → Nat} {cI cZ : ClassId} {F : Nat → Int32} {G : Nat → Nat → Int32} : (mw_s m0 ad cI cZ F G)[30]? = some (ad 29, .inl (cI, 800, .inl (G 29))) := rfl
theorem mw_p29 {m0 : Nat} {ad : Nat → Nat} {cI cZ : ClassId} {F : Nat → Int32} {G : Nat → Nat → Int32} {g : Nat → Int32} : (mw_s m0 ad cI cZ F G).set 30 (ad 29, .inl (cI, 800, .inl g)) = mw_s m0 ad cI cZ F (mg_u G 29 g) := rfl
theorem mw_g30 {m0 : Nat} {ad : Nat → Nat} {cI cZ : ClassId} {F : Nat → Int32} {G : Nat → Nat → Int32} : (mw_s m0 ad cI cZ F G)[31]? = some (ad 30, .inl (cI, 8000, .inl (G 30))) := rfl
theorem mw_p30 {m0 : Nat} {ad : Nat → Nat} {cI cZ : ClassId} {F : Nat → Int32} {G : Nat → Nat → Int32} {g : Nat → Int32} : (mw_s m0 ad cI cZ F G).set 31 (ad 30, .inl (cI, 8000, .inl g)) = mw_s m0 ad cI cZ F (mg_u G 30 g) := rfl
theorem mw_g31 {m0 : Nat} {ad : Nat → Nat} {cI cZ : ClassId} {F : Nat → Int32} {G : Nat → Nat → Int32} : (mw_s m0 ad cI cZ F G)[32]? = some (ad 31, .inl (cI, 8000, .inl (G 31))) := rfl
theorem mw_p31 {m0 : Nat} {ad : Nat → Nat} {cI cZ : ClassId} {F : Nat → Int32} {G : Nat → Nat → Int32} {g : Nat → Int32} : (mw_s m0 ad cI cZ F G).set 32 (ad 31, .inl (cI, 8000, .inl g)) = mw_s m0 ad cI cZ F (mg_u G 31 g) := rfl
theorem mw_g32 {m0 : Nat} {ad : Nat → Nat} {cI cZ : ClassId} {F : Nat → Int32} {G : Nat → Nat → Int32} : (mw_s m0 ad cI cZ F G)[33]? = some (ad 32, .inl (cI, 8000, .inl (G 32))) := rfl
theorem mw_p32 {m0 : Nat} {ad : Nat → Nat} {cI cZ : ClassId} {F : Nat → Int32} {G : Nat → Nat → Int32} {g : Nat → Int32} : (mw_s m0 ad cI cZ F G).set 33 (ad 32, .inl (cI, 8000, .inl g)) = mw_s m0 ad cI cZ F (mg_u G 32 g) := rfl
theorem mw_g33 {m0 : Nat} {ad : Nat → Nat} {cI cZ : ClassId} {F : Nat → Int32} {G : Nat → Nat → Int32} : (mw_s m0 ad cI cZ F G)[34]? = some (ad 33, .inl (cZ, 8000, .inl (G 33))) := rfl
theorem mw_p33 {m0 : Nat} {ad : Nat → Nat} {cI cZ : ClassId} {F : Nat → Int32} {G : Nat → Nat → Int32} {g : Nat → Int32} : (mw_s m0 ad cI cZ F G).set 34 (ad 33, .inl (cZ, 8000, .inl g)) = mw_s m0 ad cI cZ F (mg_u G 33 g) := rfl
theorem mw_g34 {m0 : Nat} {ad : Nat → Nat} {cI cZ : ClassId} {F : Nat → Int32} {G : Nat → Nat → Int32} : (mw_s m0 ad cI cZ F G)[35]? = some (ad 34, .inl (cI, 800, .inl (G 34))) := rfl
theorem mw_p34 {m0 : Nat} {ad : Nat → Nat} {cI cZ : ClassId} {F : Nat → Int32} {G : Nat → Nat → Int32} {g : Nat → Int32} : (mw_s m0 ad cI cZ F G).set 35 (ad 34, .inl (cI, 800, .inl g)) = mw_s m0 ad cI cZ F (mg_u G 34 g) := rfl
theorem mw_g35 {m0 : Nat} {ad : Nat → Nat} {cI cZ : ClassId} {F : Nat → Int32} {G : Nat → Nat → Int32} : (mw_s m0 ad cI cZ F G)[36]? = some (ad 35, .inl (cI, 4800, .inl (G 35))) := rfl
theorem mw_p35 {m0 : Nat} {ad : Nat → Nat} {cI cZ : ClassId} {F : Nat → Int32} {G : Nat → Nat → Int32} {g : Nat → Int32} : (mw_s m0 ad cI cZ F G).set 36 (ad 35, .inl (cI, 4800, .inl g)) = mw_s m0 ad cI cZ F (mg_u G 35 g) := rfl
theorem mw_g36 {m0 : Nat} {ad : Nat → Nat} {cI cZ : ClassId} {F : Nat → Int32} {G : Nat → Nat → Int32} : (mw_s m0 ad cI cZ F G)[37]? = some (ad 36, .inl (cI, 3200, .inl (G 36))) := rfl
theorem mw_p36 {m0 : Nat} {ad : Nat → Nat} {cI cZ : ClassId} {F : Nat → Int32} {G : Nat → Nat → Int32} {g : Nat → Int32} : (mw_s m0 ad cI cZ F G).set 37 (ad 36, .inl (cI, 3200, .inl g)) = mw_s m0 ad cI cZ F (mg_u G 36 g) := rfl
theorem mw_g37 {m0 : Nat} {ad : Nat → Nat} {cI cZ : ClassId} {F : Nat → Int32} {G : Nat → Nat → Int32} : (mw_s m0 ad cI cZ F G)[38]? = some (ad 37, .inl (cI, 3000, .inl (G 37))) := rfl
theorem mw_p37 {m0 : Nat} {ad : Nat → Nat} {cI cZ : ClassId} {F : Nat → Int32} {G : Nat → Nat → Int32} {g : Nat → Int32} : (mw_s m0 ad cI cZ F G).set 38 (ad 37, .inl (cI, 3000, .inl g)) = mw_s m0 ad cI cZ F (mg_u G 37 g) := rfl
theorem mw_g38 {m0 : Nat} {ad : Nat → Nat} {cI cZ : ClassId} {F : Nat → Int32} {G : Nat → Nat → Int32} : (mw_s m0 ad cI cZ F G)[39]? = some (ad 38, .inl (cI, 3000, .inl (G 38))) := rfl
theorem mw_p38 {m0 : Nat} {ad : Nat → Nat} {cI cZ : ClassId} {F : Nat → Int32} {G : Nat → Nat → Int32} {g : Nat → Int32} : (mw_s m0 ad cI cZ F G).set 39 (ad 38, .inl (cI, 3000, .inl g)) = mw_s m0 ad cI cZ F (mg_u G 38 g) := rfl
theorem mw_g39 {m0 : Nat} {ad : Nat → Nat} {cI cZ : ClassId} {F : Nat → Int32} {G : Nat → Nat → Int32} : (mw_s m0 ad cI cZ F G)[40]? = some (ad 39, .inl (cI, 3000, .inl (G 39))) := rfl
theorem mw_p39 {m0 : Nat} {ad : Nat → Nat} {cI cZ : ClassId} {F : Nat → Int32} {G : Nat → Nat → Int32} {g : Nat → Int32} : (mw_s m0 ad cI cZ F G).set 40 (ad 39, .inl (cI, 3000, .inl g)) = mw_s m0 ad cI cZ F (mg_u G 39 g) := rfl
theorem mw_g40 {m0 : Nat} {ad : Nat → Nat} {cI cZ : ClassId} {F : Nat → Int32} {G : Nat → Nat → Int32} : (mw_s m0 ad cI cZ F G)[41]? = some (ad 40, .inl (cI, 3000, .inl (G 40))) := rfl
theorem mw_p40 {m0 : Nat} {ad : Nat → Nat} {cI cZ : ClassId} {F : Nat → Int32} {G : Nat → Nat → Int32} {g : Nat → Int32} : (mw_s m0 ad cI cZ F G).set 41 (ad 40, .inl (cI, 3000, .inl g)) = mw_s m0 ad cI cZ F (mg_u G 40 g) := rfl
theorem mw_g41 {m0 : Nat} {ad : Nat → Nat} {cI cZ : ClassId} {F : Nat → Int32} {G : Nat → Nat → Int32} : (mw_s m0 ad cI cZ F G)[42]? = some (ad 41, .inl (cI, 3000, .inl (G 41))) := rfl
theorem mw_p41 {m0 : Nat} {ad : Nat → Nat} {cI cZ : ClassId} {F : Nat → Int32} {G : Nat → Nat → Int32} {g : Nat → Int32} : (mw_s m0 ad cI cZ F G).set 42 (ad 41, .inl (cI, 3000, .inl g)) = mw_s m0 ad cI cZ F (mg_u G 41 g) := rfl
theorem mw_g42 {m0 : Nat} {ad : Nat → Nat} {cI cZ : ClassId} {F : Nat → Int32} {G : Nat → Nat → Int32} : (mw_s m0 ad cI cZ F G)[43]? = some (ad 42, .inl (cI, 400, .inl (G 42))) := rfl
theorem mw_p42 {m0 : Nat} {ad : Nat → Nat} {cI cZ : ClassId} {F : Nat → Int32} {G : Nat → Nat → Int32} {g : Nat → Int32} : (mw_s m0 ad cI cZ F G).set 43 (ad 42, .inl (cI, 400, .inl g)) = mw_s m0 ad cI cZ F (mg_u G 42 g) := rfl
theorem mw_g43 {m0 : Nat} {ad : Nat → Nat} {cI cZ : ClassId} {F : Nat → Int32} {G : Nat → Nat → Int32} : (mw_s m0 ad cI cZ F G)[44]? = some (ad 43, .inl (cI, 400, .inl (G 43))) := rfl
theorem mw_p43 {m0 : Nat} {ad : Nat → Nat} {cI cZ : ClassId} {F : Nat → Int32} {G : Nat → Nat → Int32} {g : Nat → Int32} : (mw_s m0 ad cI cZ F G).set 44 (ad 43, .inl (cI, 400, .inl g)) = mw_s m0 ad cI cZ F (mg_u G 43 g) := rfl
theorem mw_g44 {m0 : Nat} {ad : Nat → Nat} {cI cZ : ClassId} {F : Nat → Int32} {G : Nat → Nat → Int32} : (mw_s m0 ad cI cZ F G)[45]? = some (ad 44, .inl (cI, 400, .inl (G 44))) := rfl
theorem mw_p44 {m0 : Nat} {ad : Nat → Nat} {cI cZ : ClassId} {F : Nat → Int32} {G : Nat → Nat → Int32} {g : Nat → Int32} : (mw_s m0 ad cI cZ F G).set 45 (ad 44, .inl (cI, 400, .inl g)) = mw_s m0 ad cI cZ F (mg_u G 44 g) := rfl
theorem mw_g45 {m0 : Nat} {ad : Nat → Nat} {cI cZ : ClassId} {F : Nat → Int32} {G : Nat → Nat → Int32} : (mw_s m0 ad cI cZ F G)[46]? = some (ad 45, .inl (cI, 400, .inl (G 45))) := rfl
theorem mw_p45 {m0 : Nat} {ad : Nat → Nat} {cI cZ : ClassId} {F : Nat → Int32} {G : Nat → Nat → Int32} {g : Nat → Int32} : (mw_s m0 ad cI cZ F G).set 46 (ad 45, .inl (cI, 400, .inl g)) = mw_s m0 ad cI cZ F (mg_u G 45 g) := rfl
theorem mw_g46 {m0 : Nat} {ad : Nat → Nat} {cI cZ : ClassId} {F : Nat → Int32} {G : Nat → Nat → Int32} : (mw_s m0 ad cI cZ F G)[47]? = some (ad 46, .inl (cI, 82, .inl (G 46))) := rfl
theorem mw_p46 {m0 : Nat} {ad : Nat → Nat} {cI cZ : ClassId} {F : Nat → Int32} {G : Nat → Nat → Int32} {g : Nat → Int32} : (mw_s m0 ad cI cZ F G).set 47 (ad 46, .inl (cI, 82, .inl g)) = mw_s m0 ad cI cZ F (mg_u G 46 g) := rfl
theorem mw_g47 {m0 : Nat} {ad : Nat → Nat} {cI cZ : ClassId} {F : Nat → Int32} {G : Nat → Nat → Int32} : (mw_s m0 ad cI cZ F G)[48]? = some (ad 47, .inl (cI, 36, .inl (G 47))) := rfl
theorem mw_p47 {m0 : Nat} {ad : Nat → Nat} {cI cZ : ClassId} {F : Nat → Int32} {G : Nat → Nat → Int32} {g : Nat → Int32} : (mw_s m0 ad cI cZ F G).set 48 (ad 47, .inl (cI, 36, .inl g)) = mw_s m0 ad cI cZ F (mg_u G 47 g) := rfl
theorem mw_g48 {m0 : Nat} {ad : Nat → Nat} {cI cZ : ClassId} {F : Nat → Int32} {G : Nat → Nat → Int32} : (mw_s m0 ad cI cZ F G)[49]? = some (ad 48, .inl (cI, 37, .inl (G 48))) := rfl
theorem mw_p48 {m0 : Nat} {ad : Nat → Nat} {cI cZ : ClassId} {F : Nat → Int32} {G : Nat → Nat → Int32} {g : Nat → Int32} : (mw_s m0 ad cI cZ F G).set 49 (ad 48, .inl (cI, 37, .inl g)) = mw_s m0 ad cI cZ F (mg_u G 48 g) := rfl
theorem mw_g49 {m0 : Nat} {ad : Nat → Nat} {cI cZ : ClassId} {F : Nat → Int32} {G : Nat → Nat → Int32} : (mw_s m0 ad cI cZ F G)[50]? = some (ad 49, .inl (cI, 10, .inl (G 49))) := rfl
theorem mw_p49 {m0 : Nat} {ad : Nat → Nat} {cI cZ : ClassId} {F : Nat → Int32} {G : Nat → Nat → Int32} {g : Nat → Int32} : (mw_s m0 ad cI cZ F G).set 50 (ad 49, .inl (cI, 10, .inl g)) = mw_s m0 ad cI cZ F (mg_u G 49 g) := rfl
theorem mw_g50 {m0 : Nat} {ad : Nat → Nat} {cI cZ : ClassId} {F : Nat → Int32} {G : Nat → Nat → Int32} : (mw_s m0 ad cI cZ F G)[51]? = some (ad 50, .inl (cI, 10, .inl (G 50))) := rfl
theorem mw_p50 {m0 : Nat} {ad : Nat → Nat} {cI cZ : ClassId} {F : Nat → Int32} {G : Nat → Nat → Int32} {g : Nat → Int32} : (mw_s m0 ad cI cZ F G).set 51 (ad 50, .inl (cI, 10, .inl g)) = mw_s m0 ad cI cZ F (mg_u G 50 g) := rfl
theorem mw_g51 {m0 : Nat} {ad : Nat → Nat} {cI cZ : ClassId} {F : Nat → Int32} {G : Nat → Nat → Int32} : (mw_s m0 ad cI cZ F G)[52]? = some (ad 51, .inl (cZ, 14, .inl (G 51))) := rfl
theorem mw_p51 {m0 : Nat} {ad : Nat → Nat} {cI cZ : ClassId} {F : Nat → Int32} {G : Nat → Nat → Int32} {g : Nat → Int32} : (mw_s m0 ad cI cZ F G).set 52 (ad 51, .inl (cZ, 14, .inl g)) = mw_s m0 ad cI cZ F (mg_u G 51 g) := rfl
theorem mw_g52 {m0 : Nat} {ad : Nat → Nat} {cI cZ : ClassId} {F : Nat → Int32} {G : Nat → Nat → Int32} : (mw_s m0 ad cI cZ F G)[53]? = some (ad 52, .inl (cZ, 7, .inl (G 52))) := rfl
theorem mw_p52 {m0 : Nat} {ad : Nat → Nat} {cI cZ : ClassId} {F : Nat → Int32} {G : Nat → Nat → Int32} {g : Nat → Int32} : (mw_s m0 ad cI cZ F G).set 53 (ad 52, .inl (cZ, 7, .inl g)) = mw_s m0 ad cI cZ F (mg_u G 52 g) := rfl
theorem mw_g53 {m0 : Nat} {ad : Nat → Nat} {cI cZ : ClassId} {F : Nat → Int32} {G : Nat → Nat → Int32} : (mw_s m0 ad cI cZ F G)[54]? = some (ad 53, .inl (cI, 400, .inl (G 53))) := rfl
theorem mw_p53 {m0 : Nat} {ad : Nat → Nat} {cI cZ : ClassId} {F : Nat → Int32} {G : Nat → Nat → Int32} {g : Nat → Int32} : (mw_s m0 ad cI cZ F G).set 54 (ad 53, .inl (cI, 400, .inl g)) = mw_s m0 ad cI cZ F (mg_u G 53 g) := rfl
theorem mw_g54 {m0 : Nat} {ad : Nat → Nat} {cI cZ : ClassId} {F : Nat → Int32} {G : Nat → Nat → Int32} : (mw_s m0 ad cI cZ F G)[55]? = some (ad 54, .inl (cI, 400, .inl (G 54))) := rfl
theorem mw_p54 {m0 : Nat} {ad : Nat → Nat} {cI cZ : ClassId} {F : Nat → Int32} {G : Nat → Nat → Int32} {g : Nat → Int32} : (mw_s m0 ad cI cZ F G).set 55 (ad 54, .inl (cI, 400, .inl g)) = mw_s m0 ad cI cZ F (mg_u G 54 g) := rfl
theorem mw_g55 {m0 : Nat} {ad : Nat → Nat} {cI cZ : ClassId} {F : Nat → Int32} {G : Nat → Nat → Int32} : (mw_s m0 ad cI cZ F G)[56]? = some (ad 55, .inl (cI, 400, .inl (G 55))) := rfl
theorem mw_p55 {m0 : Nat} {ad : Nat → Nat} {cI cZ : ClassId} {F : Nat → Int32} {G : Nat → Nat → Int32} {g : Nat → Int32} : (mw_s m0 ad cI cZ F G).set 56 (ad 55, .inl (cI, 400, .inl g)) = mw_s m0 ad cI cZ F (mg_u G 55 g) := rfl
theorem mw_g56 {m0 : Nat} {ad : Nat → Nat} {cI cZ : ClassId} {F : Nat → Int32} {G : Nat → Nat → Int32} : (mw_s m0 ad cI cZ F G)[57]? = some (ad 56, .inl (cI, 108, .inl (G 56))) := rfl
theorem mw_p56 {m0 : Nat} {ad : Nat → Nat} {cI cZ : ClassId} {F : Nat → Int32} {G : Nat → Nat → Int32} {g : Nat → Int32} : (mw_s m0 ad cI cZ F G).set 57 (ad 56, .inl (cI, 108, .inl g)) = mw_s m0 ad cI cZ F (mg_u G 56 g) := rfl
theorem mw_g57 {m0 : Nat} {ad : Nat → Nat} {cI cZ : ClassId} {F : Nat → Int32} {G : Nat → Nat → Int32} : (mw_s m0 ad cI cZ F G)[58]? = some (ad 57, .inl (cI, 12, .inl (G 57))) := rfl
theorem mw_p57 {m0 : Nat} {ad : Nat → Nat} {cI cZ : ClassId} {F : Nat → Int32} {G : Nat → Nat → Int32} {g : Nat → Int32} : (mw_s m0 ad cI cZ F G).set 58 (ad 57, .inl (cI, 12, .inl g)) = mw_s m0 ad cI cZ F (mg_u G 57 g) := rfl
theorem mw_g58 {m0 : Nat} {ad : Nat → Nat} {cI cZ : ClassId} {F : Nat → Int32} {G : Nat → Nat → Int32} : (mw_s m0 ad cI cZ F G)[59]? = some (ad 58, .inl (cI, 12, .inl (G 58))) := rfl
theorem mw_p58 {m0 : Nat} {ad : Nat → Nat} {cI cZ : ClassId} {F : Nat → Int32} {G : Nat → Nat → Int32} {g : Nat → Int32} : (mw_s m0 ad cI cZ F G).set 59 (ad 58, .inl (cI, 12, .inl g)) = mw_s m0 ad cI cZ F (mg_u G 58 g) := rfl
theorem mw_g59 {m0 : Nat} {ad : Nat → Nat} {cI cZ : ClassId} {F : Nat → Int32} {G : Nat → Nat → Int32} : (mw_s m0 ad cI cZ F G)[60]? = some (ad 59, .inl (cI, 400, .inl (G 59))) := rfl
theorem mw_p59 {m0 : Nat} {ad : Nat → Nat} {cI cZ : ClassId} {F : Nat → Int32} {G : Nat → Nat → Int32} {g : Nat → Int32} : (mw_s m0 ad cI cZ F G).set 60 (ad 59, .inl (cI, 400, .inl g)) = mw_s m0 ad cI cZ F (mg_u G 59 g) := rfl
theorem mw_g60 {m0 : Nat} {ad : Nat → Nat} {cI cZ : ClassId} {F : Nat → Int32} {G : Nat → Nat → Int32} : (mw_s m0 ad cI cZ F G)[61]? = some (ad 60, .inl (cI, 36, .inl (G 60))) := rfl
theorem mw_p60 {m0 : Nat} {ad : Nat → Nat} {cI cZ : ClassId} {F : Nat → Int32} {G : Nat → Nat → Int32} {g : Nat → Int32} : (mw_s m0 ad cI cZ F G).set 61 (ad 60, .inl (cI, 36, .inl g)) = mw_s m0 ad cI cZ F (mg_u G 60 g) := rfl
theorem mw_g61 {m0 : Nat} {ad : Nat → Nat} {cI cZ : ClassId} {F : Nat → Int32} {G : Nat → Nat → Int32} : (mw_s m0 ad cI cZ F G)[62]? = some (ad 61, .inl (cI, 120, .inl (G 61))) := rfl
theorem mw_p61 {m0 : Nat} {ad : Nat → Nat} {cI cZ : ClassId} {F : Nat → Int32} {G : Nat → Nat → Int32} {g : Nat → Int32} : (mw_s m0 ad cI cZ F G).set 62 (ad 61, .inl (cI, 120, .inl g)) = mw_s m0 ad cI cZ F (mg_u G 61 g) := rfl
theorem mw_g62 {m0 : Nat} {ad : Nat → Nat} {cI cZ : ClassId} {F : Nat → Int32} {G : Nat → Nat → Int32} : (mw_s m0 ad cI cZ F G)[63]? = some (ad 62, .inl (cI, 400, .inl (G 62))) := rfl
theorem mw_p62 {m0 : Nat} {ad : Nat → Nat} {cI cZ : ClassId} {F : Nat → Int32} {G : Nat → Nat → Int32} {g : Nat → Int32} : (mw_s m0 ad cI cZ F G).set 63 (ad 62, .inl (cI, 400, .inl g)) = mw_s m0 ad cI cZ F (mg_u G 62 g) := rfl
theorem mw_g63 {m0 : Nat} {ad : Nat → Nat} {cI cZ : ClassId} {F : Nat → Int32} {G : Nat → Nat → Int32} : (mw_s m0 ad cI cZ F G)[64]? = some (ad 63, .inl (cI, 12, .inl (G 63))) := rfl
theorem mw_p63 {m0 : Nat} {ad : Nat → Nat} {cI cZ : ClassId} {F : Nat → Int32} {G : Nat → Nat → Int32} {g : Nat → Int32} : (mw_s m0 ad cI cZ F G).set 64 (ad 63, .inl (cI, 12, .inl g)) = mw_s m0 ad cI cZ F (mg_u G 63 g) := rfl
theorem mw_g64 {m0 : Nat} {ad : Nat → Nat} {cI cZ : ClassId} {F : Nat → Int32} {G : Nat → Nat → Int32} : (mw_s m0 ad cI cZ F G)[65]? = some (ad 64, .inl (cI, 12, .inl (G 64))) := rfl
theorem mw_p64 {m0 : Nat} {ad : Nat → Nat} {cI cZ : ClassId} {F : Nat → Int32} {G : Nat → Nat → Int32} {g : Nat → Int32} : (mw_s m0 ad cI cZ F G).set 65 (ad 64, .inl (cI, 12, .inl g)) = mw_s m0 ad cI cZ F (mg_u G 64 g) := rfl
theorem mw_g65 {m0 : Nat} {ad : Nat → Nat} {cI cZ : ClassId} {F : Nat → Int32} {G : Nat → Nat → Int32} : (mw_s m0 ad cI cZ F G)[66]? = some (ad 65, .inl (cI, 12, .inl (G 65))) := rfl
theorem mw_p65 {m0 : Nat} {ad : Nat → Nat} {cI cZ : ClassId} {F : Nat → Int32} {G : Nat → Nat → Int32} {g : Nat → Int32} : (mw_s m0 ad cI cZ F G).set 66 (ad 65, .inl (cI, 12, .inl g)) = mw_s m0 ad cI cZ F (mg_u G 65 g) := rfl
theorem mw_g66 {m0 : Nat} {ad : Nat → Nat} {cI cZ : ClassId} {F : Nat → Int32} {G : Nat → Nat → Int32} : (mw_s m0 ad cI cZ F G)[67]? = some (ad 66, .inl (cI, 144, .inl (G 66))) := rfl
theorem mw_p66 {m0 : Nat} {ad : Nat → Nat} {cI cZ : ClassId} {F : Nat → Int32} {G : Nat → Nat → Int32} {g : Nat → Int32} : (mw_s m0 ad cI cZ F G).set 67 (ad 66, .inl (cI, 144, .inl g)) = mw_s m0 ad cI cZ F (mg_u G 66 g) := rfl
theorem mw_g67 {m0 : Nat} {ad : Nat → Nat} {cI cZ : ClassId} {F : Nat → Int32} {G : Nat → Nat → Int32} : (mw_s m0 ad cI cZ F G)[68]? = some (ad 67, .inl (cI, 4096, .inl (G 67))) := rfl
theorem mw_p67 {m0 : Nat} {ad : Nat → Nat} {cI cZ : ClassId} {F : Nat → Int32} {G : Nat → Nat → Int32} {g : Nat → Int32} : (mw_s m0 ad cI cZ F G).set 68 (ad 67, .inl (cI, 4096, .inl g)) = mw_s m0 ad cI cZ F (mg_u G 67 g) := rfl
theorem mw_g68 {m0 : Nat} {ad : Nat → Nat} {cI cZ : ClassId} {F : Nat → Int32} {G : Nat → Nat → Int32} : (mw_s m0 ad cI cZ F G)[69]? = some (ad 68, .inl (cI, 400, .inl (G 68))) := rfl
theorem mw_p68 {m0 : Nat} {ad : Nat → Nat} {cI cZ : ClassId} {F : Nat → Int32} {G : Nat → Nat → Int32} {g : Nat → Int32} : (mw_s m0 ad cI cZ F G).set 69 (ad 68, .inl (cI, 400, .inl g)) = mw_s m0 ad cI cZ F (mg_u G 68 g) := rfl
theorem mw_g69 {m0 : Nat} {ad : Nat → Nat} {cI cZ : ClassId} {F : Nat → Int32} {G : Nat → Nat → Int32} : (mw_s m0 ad cI cZ F G)[70]? = some (ad 69, .inl (cI, 12, .inl (G 69))) := rfl
theorem mw_p69 {m0 : Nat} {ad : Nat → Nat} {cI cZ : ClassId} {F : Nat → Int32} {G : Nat → Nat → Int32} {g : Nat → Int32} : (mw_s m0 ad cI cZ F G).set 70 (ad 69, .inl (cI, 12, .inl g)) = mw_s m0 ad cI cZ F (mg_u G 69 g) := rfl
theorem mw_g70 {m0 : Nat} {ad : Nat → Nat} {cI cZ : ClassId} {F : Nat → Int32} {G : Nat → Nat → Int32} : (mw_s m0 ad cI cZ F G)[71]? = some (ad 70, .inl (cI, 12, .inl (G 70))) := rfl
theorem mw_p70 {m0 : Nat} {ad : Nat → Nat} {cI cZ : ClassId} {F : Nat → Int32} {G : Nat → Nat → Int32} {g : Nat → Int32} : (mw_s m0 ad cI cZ F G).set 71 (ad 70, .inl (cI, 12, .inl g)) = mw_s m0 ad cI cZ F (mg_u G 70 g) := rfl
theorem mw_g71 {m0 : Nat} {ad : Nat → Nat} {cI cZ : ClassId} {F : Nat → Int32} {G : Nat → Nat → Int32} : (mw_s m0 ad cI cZ F G)[72]? = some (ad 71, .inl (cI, 12, .inl (G 71))) := rfl
theorem mw_p71 {m0 : Nat} {ad : Nat → Nat} {cI cZ : ClassId} {F : Nat → Int32} {G : Nat → Nat → Int32} {g : Nat → Int32} : (mw_s m0 ad cI cZ F G).set 72 (ad 71, .inl (cI, 12, .inl g)) = mw_s m0 ad cI cZ F (mg_u G 71 g) := rfl
theorem mw_g72 {m0 : Nat} {ad : Nat → Nat} {cI cZ : ClassId} {F : Nat → Int32} {G : Nat → Nat → Int32} : (mw_s m0 ad cI cZ F G)[73]? = some (ad 72, .inl (cI, 12, .inl (G 72))) := rfl
theorem mw_p72 {m0 : Nat} {ad : Nat → Nat} {cI cZ : ClassId} {F : Nat → Int32} {G : Nat → Nat → Int32} {g : Nat → Int32} : (mw_s m0 ad cI cZ F G).set 73 (ad 72, .inl (cI, 12, .inl g)) = mw_s m0 ad cI cZ F (mg_u G 72 g) := rfl
theorem mw_g73 {m0 : Nat} {ad : Nat → Nat} {cI cZ : ClassId} {F : Nat → Int32} {G : Nat → Nat → Int32} : (mw_s m0 ad cI cZ F G)[74]? = some (ad 73, .inl (cI, 400, .inl (G 73))) := rfl
theorem mw_p73 {m0 : Nat} {ad : Nat → Nat} {cI cZ : ClassId} {F : Nat → Int32} {G : Nat → Nat → Int32} {g : Nat → Int32} : (mw_s m0 ad cI cZ F G).set 74 (ad 73, .inl (cI, 400, .inl g)) = mw_s m0 ad cI cZ F (mg_u G 73 g) := rfl
theorem mw_g74 {m0 : Nat} {ad : Nat → Nat} {cI cZ : ClassId} {F : Nat → Int32} {G : Nat → Nat → Int32} : (mw_s m0 ad cI cZ F G)[75]? = some (ad 74, .inl (cI, 8, .inl (G 74))) := rfl
theorem mw_p74 {m0 : Nat} {ad : Nat → Nat} {cI cZ : ClassId} {F : Nat → Int32} {G : Nat → Nat → Int32} {g : Nat → Int32} : (mw_s m0 ad cI cZ F G).set 75 (ad 74, .inl (cI, 8, .inl g)) = mw_s m0 ad cI cZ F (mg_u G 74 g) := rfl
theorem mw_g75 {m0 : Nat} {ad : Nat → Nat} {cI cZ : ClassId} {F : Nat → Int32} {G : Nat → Nat → Int32} : (mw_s m0 ad cI cZ F G)[76]? = some (ad 75, .inl (cI, 8, .inl (G 75))) := rfl
theorem mw_p75 {m0 : Nat} {ad : Nat → Nat} {cI cZ : ClassId} {F : Nat → Int32} {G : Nat → Nat → Int32} {g : Nat → Int32} : (mw_s m0 ad cI cZ F G).set 76 (ad 75, .inl (cI, 8, .inl g)) = mw_s m0 ad cI cZ F (mg_u G 75 g) := rfl
theorem mw_g76 {m0 : Nat} {ad : Nat → Nat} {cI cZ : ClassId} {F : Nat → Int32} {G : Nat → Nat → Int32} : (mw_s m0 ad cI cZ F G)[77]? = some (ad 76, .inl (cI, 8, .inl (G 76))) := rfl
theorem mw_p76 {m0 : Nat} {ad : Nat → Nat} {cI cZ : ClassId} {F : Nat → Int32} {G : Nat → Nat → Int32} {g : Nat → Int32} : (mw_s m0 ad cI cZ F G).set 77 (ad 76, .inl (cI, 8, .inl g)) = mw_s m0 ad cI cZ F (mg_u G 76 g) := rfl
theorem mw_g77 {m0 : Nat} {ad : Nat → Nat} {cI cZ : ClassId} {F : Nat → Int32} {G : Nat → Nat → Int32} : (mw_s m0 ad cI cZ F G)[78]? = some (ad 77, .inl (cI, 400, .inl (G 77))) := rfl
theorem mw_p77 {m0 : Nat} {ad : Nat → Nat} {cI cZ : ClassId} {F : Nat → Int32} {G : Nat → Nat → Int32} {g : Nat → Int32} : (mw_s m0 ad cI cZ F G).set 78 (ad 77, .inl (cI, 400, .inl g)) = mw_s m0 ad cI cZ F (mg_u G 77 g) := rfl
theorem mw_o {m0 : Nat} {ad : Nat → Nat} {cI cZ : ClassId} {F : Nat → Int32} {G : Nat → Nat → Int32} : (mw_s m0 ad cI cZ F G)[0]? = some (m0, .inr (11, mf_s ad F)) := rfl
theorem mw_f {m0 : Nat} {ad : Nat → Nat} {cI cZ : ClassId} {F F2 : Nat → Int32} {G : Nat → Nat → Int32} (fs : List Value) (h : fs = mf_s ad F2) : (mw_s m0 ad cI cZ F G).set 0 (m0, .inr (11, fs)) = mw_s m0 ad cI cZ F2 G := by subst h; rfl
theorem mf_l {ad : Nat → Nat} {F : Nat → Int32} : (mf_s ad F).length = 114 := rfl
