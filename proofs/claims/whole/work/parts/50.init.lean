/-! ===== the heaps that the two constructors go through: by program (mkinit.py) ===== -/
def K0 (L : Nat) (xs : Nat → Int32) : PH := H0 L xs
def K1 (L : Nat) (xs : Nat → Int32) : PH := nC (K0 L xs) 12 9
def K2 (L : Nat) (xs : Nat → Int32) : PH := nC (K1 L xs) 9 5
def K3 (L : Nat) (xs : Nat → Int32) : PH := nC (K2 L xs) 24 16
def K4 (L : Nat) (xs : Nat → Int32) : PH := sR (K3 L xs) 2 0 (some 3)
def K5 (L : Nat) (xs : Nat → Int32) : PH := nC (K4 L xs) 20 16
def K6 (L : Nat) (xs : Nat → Int32) : PH := sR (K5 L xs) 2 1 (some 4)
def K7 (L : Nat) (xs : Nat → Int32) : PH := sI (K6 L xs) 2 3 (5)
def K8 (L : Nat) (xs : Nat → Int32) : PH := sI (K7 L xs) 2 4 (2)
def K9 (L : Nat) (xs : Nat → Int32) : PH := sR (K8 L xs) 1 0 (some 2)
def K10 (L : Nat) (xs : Nat → Int32) : PH := nC (K9 L xs) 2 6
def K11 (L : Nat) (xs : Nat → Int32) : PH := nC (K10 L xs) 20 64
def K12 (L : Nat) (xs : Nat → Int32) : PH := sR (K11 L xs) 5 0 (some 6)
def K13 (L : Nat) (xs : Nat → Int32) : PH := nC (K12 L xs) 25 10
def K14 (L : Nat) (xs : Nat → Int32) : PH := sR (K13 L xs) 5 1 (some 7)
def K15 (L : Nat) (xs : Nat → Int32) : PH := nC (K14 L xs) 20 10
def K16 (L : Nat) (xs : Nat → Int32) : PH := sR (K15 L xs) 5 2 (some 8)
def K17 (L : Nat) (xs : Nat → Int32) : PH := sI (K16 L xs) 5 4 (2)
def K18 (L : Nat) (xs : Nat → Int32) : PH := sR (K17 L xs) 1 1 (some 5)
def K19 (L : Nat) (xs : Nat → Int32) : PH := nC (K18 L xs) 5 7
def K20 (L : Nat) (xs : Nat → Int32) : PH := nC (K19 L xs) 23 1024
def K21 (L : Nat) (xs : Nat → Int32) : PH := sR (K20 L xs) 9 1 (some 10)
def K22 (L : Nat) (xs : Nat → Int32) : PH := nC (K21 L xs) 23 1024
def K23 (L : Nat) (xs : Nat → Int32) : PH := sR (K22 L xs) 9 2 (some 11)
def K24 (L : Nat) (xs : Nat → Int32) : PH := nC (K23 L xs) 20 10
def K25 (L : Nat) (xs : Nat → Int32) : PH := sR (K24 L xs) 9 3 (some 12)
def K26 (L : Nat) (xs : Nat → Int32) : PH := sI (K25 L xs) 9 4 (-1)
def K27 (L : Nat) (xs : Nat → Int32) : PH := sR (K26 L xs) 9 0 (some 5)
def K28 (L : Nat) (xs : Nat → Int32) : PH := sR (K27 L xs) 1 2 (some 9)
def K29 (L : Nat) (xs : Nat → Int32) : PH := nC (K28 L xs) 11 3
def K30 (L : Nat) (xs : Nat → Int32) : PH := sR (K29 L xs) 13 0 (some 2)
def K31 (L : Nat) (xs : Nat → Int32) : PH := sR (K30 L xs) 13 1 (some 5)
def K32 (L : Nat) (xs : Nat → Int32) : PH := sR (K31 L xs) 1 3 (some 13)
def K33 (L : Nat) (xs : Nat → Int32) : PH := nC (K32 L xs) 10 2
def K34 (L : Nat) (xs : Nat → Int32) : PH := nC (K33 L xs) 21 600
def K35 (L : Nat) (xs : Nat → Int32) : PH := sR (K34 L xs) 14 0 (some 15)
def K36 (L : Nat) (xs : Nat → Int32) : PH := sR (K35 L xs) 1 4 (some 14)
def K37 (L : Nat) (xs : Nat → Int32) : PH := nC (K36 L xs) 7 13
def K38 (L : Nat) (xs : Nat → Int32) : PH := nC (K37 L xs) 20 600
def K39 (L : Nat) (xs : Nat → Int32) : PH := sR (K38 L xs) 16 1 (some 17)
def K40 (L : Nat) (xs : Nat → Int32) : PH := nC (K39 L xs) 20 10
def K41 (L : Nat) (xs : Nat → Int32) : PH := sR (K40 L xs) 16 2 (some 18)
def K42 (L : Nat) (xs : Nat → Int32) : PH := nC (K41 L xs) 20 10
def K43 (L : Nat) (xs : Nat → Int32) : PH := sR (K42 L xs) 16 3 (some 19)
def K44 (L : Nat) (xs : Nat → Int32) : PH := sI (K43 L xs) 16 12 (-1)
def K45 (L : Nat) (xs : Nat → Int32) : PH := sR (K44 L xs) 16 0 (some 14)
def K46 (L : Nat) (xs : Nat → Int32) : PH := sR (K45 L xs) 1 5 (some 16)
def K47 (L : Nat) (xs : Nat → Int32) : PH := nC (K46 L xs) 8 3
def K48 (L : Nat) (xs : Nat → Int32) : PH := nC (K47 L xs) 20 100
def K49 (L : Nat) (xs : Nat → Int32) : PH := sR (K48 L xs) 20 0 (some 21)
def K50 (L : Nat) (xs : Nat → Int32) : PH := nC (K49 L xs) 20 6
def K51 (L : Nat) (xs : Nat → Int32) : PH := sR (K50 L xs) 20 1 (some 22)
def K52 (L : Nat) (xs : Nat → Int32) : PH := sR (K51 L xs) 1 6 (some 20)
def K53 (L : Nat) (xs : Nat → Int32) : PH := nC (K52 L xs) 1 6
def K54 (L : Nat) (xs : Nat → Int32) : PH := nC (K53 L xs) 20 40
def K55 (L : Nat) (xs : Nat → Int32) : PH := sR (K54 L xs) 23 0 (some 24)
def K56 (L : Nat) (xs : Nat → Int32) : PH := nC (K55 L xs) 20 40
def K57 (L : Nat) (xs : Nat → Int32) : PH := sR (K56 L xs) 23 1 (some 25)
def K58 (L : Nat) (xs : Nat → Int32) : PH := nC (K57 L xs) 20 40
def K59 (L : Nat) (xs : Nat → Int32) : PH := sR (K58 L xs) 23 2 (some 26)
def K60 (L : Nat) (xs : Nat → Int32) : PH := nC (K59 L xs) 20 40
def K61 (L : Nat) (xs : Nat → Int32) : PH := sR (K60 L xs) 23 3 (some 27)
def K62 (L : Nat) (xs : Nat → Int32) : PH := nC (K61 L xs) 20 40
def K63 (L : Nat) (xs : Nat → Int32) : PH := sR (K62 L xs) 23 4 (some 28)
def K64 (L : Nat) (xs : Nat → Int32) : PH := sR (K63 L xs) 1 7 (some 23)
def K65 (L : Nat) (xs : Nat → Int32) : PH := nC (K64 L xs) 6 3
def K66 (L : Nat) (xs : Nat → Int32) : PH := nC (K65 L xs) 20 0
def K67 (L : Nat) (xs : Nat → Int32) : PH := nC (K66 L xs) 20 0
def K68 (L : Nat) (xs : Nat → Int32) : PH := nC (K67 L xs) 20 0
def K69 (L : Nat) (xs : Nat → Int32) : PH := sR (K68 L xs) 29 0 (some 30)
def K70 (L : Nat) (xs : Nat → Int32) : PH := sR (K69 L xs) 29 1 (some 31)
def K71 (L : Nat) (xs : Nat → Int32) : PH := sR (K70 L xs) 29 2 (some 32)
def K72 (L : Nat) (xs : Nat → Int32) : PH := sR (K71 L xs) 1 8 (some 29)
def K73 (L : Nat) (xs : Nat → Int32) : PH := nC (K72 L xs) 13 60
def K74 (L : Nat) (xs : Nat → Int32) : PH := sI (K73 L xs) 33 1 (5)
def K75 (L : Nat) (xs : Nat → Int32) : PH := sI (K74 L xs) 33 2 (2)
def K76 (L : Nat) (xs : Nat → Int32) : PH := sI (K75 L xs) 33 3 (2)
def K77 (L : Nat) (xs : Nat → Int32) : PH := nC (K76 L xs) 20 16
def K78 (L : Nat) (xs : Nat → Int32) : PH := sR (K77 L xs) 33 5 (some 34)
def K79 (L : Nat) (xs : Nat → Int32) : PH := nC (K78 L xs) 20 16
def K80 (L : Nat) (xs : Nat → Int32) : PH := sR (K79 L xs) 33 6 (some 35)
def K81 (L : Nat) (xs : Nat → Int32) : PH := nC (K80 L xs) 20 16
def K82 (L : Nat) (xs : Nat → Int32) : PH := sR (K81 L xs) 33 7 (some 36)
def K83 (L : Nat) (xs : Nat → Int32) : PH := nC (K82 L xs) 20 16
def K84 (L : Nat) (xs : Nat → Int32) : PH := sR (K83 L xs) 33 8 (some 37)
def K85 (L : Nat) (xs : Nat → Int32) : PH := nC (K84 L xs) 22 16
def K86 (L : Nat) (xs : Nat → Int32) : PH := sR (K85 L xs) 33 9 (some 38)
def K87 (L : Nat) (xs : Nat → Int32) : PH := nC (K86 L xs) 20 64
def K88 (L : Nat) (xs : Nat → Int32) : PH := sR (K87 L xs) 33 10 (some 39)
def K89 (L : Nat) (xs : Nat → Int32) : PH := nC (K88 L xs) 20 10
def K90 (L : Nat) (xs : Nat → Int32) : PH := sR (K89 L xs) 33 12 (some 40)
def K91 (L : Nat) (xs : Nat → Int32) : PH := nC (K90 L xs) 20 10
def K92 (L : Nat) (xs : Nat → Int32) : PH := sR (K91 L xs) 33 13 (some 41)
def K93 (L : Nat) (xs : Nat → Int32) : PH := nC (K92 L xs) 20 10
def K94 (L : Nat) (xs : Nat → Int32) : PH := sR (K93 L xs) 33 14 (some 42)
def K95 (L : Nat) (xs : Nat → Int32) : PH := nC (K94 L xs) 20 10
def K96 (L : Nat) (xs : Nat → Int32) : PH := sR (K95 L xs) 33 15 (some 43)
def K97 (L : Nat) (xs : Nat → Int32) : PH := nC (K96 L xs) 20 10
def K98 (L : Nat) (xs : Nat → Int32) : PH := sR (K97 L xs) 33 16 (some 44)
def K99 (L : Nat) (xs : Nat → Int32) : PH := nC (K98 L xs) 20 10
def K100 (L : Nat) (xs : Nat → Int32) : PH := sR (K99 L xs) 33 17 (some 45)
def K101 (L : Nat) (xs : Nat → Int32) : PH := nC (K100 L xs) 20 10
def K102 (L : Nat) (xs : Nat → Int32) : PH := sR (K101 L xs) 33 18 (some 46)
def K103 (L : Nat) (xs : Nat → Int32) : PH := nC (K102 L xs) 22 10
def K104 (L : Nat) (xs : Nat → Int32) : PH := sR (K103 L xs) 33 19 (some 47)
def K105 (L : Nat) (xs : Nat → Int32) : PH := nC (K104 L xs) 20 6600
def K106 (L : Nat) (xs : Nat → Int32) : PH := sR (K105 L xs) 33 20 (some 48)
def K107 (L : Nat) (xs : Nat → Int32) : PH := nC (K106 L xs) 20 6600
def K108 (L : Nat) (xs : Nat → Int32) : PH := sR (K107 L xs) 33 21 (some 49)
def K109 (L : Nat) (xs : Nat → Int32) : PH := nC (K108 L xs) 20 242
def K110 (L : Nat) (xs : Nat → Int32) : PH := sR (K109 L xs) 33 22 (some 50)
def K111 (L : Nat) (xs : Nat → Int32) : PH := nC (K110 L xs) 20 11
def K112 (L : Nat) (xs : Nat → Int32) : PH := sR (K111 L xs) 33 23 (some 51)
def K113 (L : Nat) (xs : Nat → Int32) : PH := nC (K112 L xs) 20 10
def K114 (L : Nat) (xs : Nat → Int32) : PH := sR (K113 L xs) 33 27 (some 52)
def K115 (L : Nat) (xs : Nat → Int32) : PH := nC (K114 L xs) 20 10
def K116 (L : Nat) (xs : Nat → Int32) : PH := sR (K115 L xs) 33 28 (some 53)
def K117 (L : Nat) (xs : Nat → Int32) : PH := nC (K116 L xs) 20 10
def K118 (L : Nat) (xs : Nat → Int32) : PH := sR (K117 L xs) 33 29 (some 54)
def K119 (L : Nat) (xs : Nat → Int32) : PH := nC (K118 L xs) 20 10
def K120 (L : Nat) (xs : Nat → Int32) : PH := sR (K119 L xs) 33 30 (some 55)
def K121 (L : Nat) (xs : Nat → Int32) : PH := nC (K120 L xs) 20 11
def K122 (L : Nat) (xs : Nat → Int32) : PH := sR (K121 L xs) 33 31 (some 56)
def K123 (L : Nat) (xs : Nat → Int32) : PH := nC (K122 L xs) 20 10
def K124 (L : Nat) (xs : Nat → Int32) : PH := sR (K123 L xs) 33 32 (some 57)
def K125 (L : Nat) (xs : Nat → Int32) : PH := nC (K124 L xs) 20 600
def K126 (L : Nat) (xs : Nat → Int32) : PH := sR (K125 L xs) 33 33 (some 58)
def K127 (L : Nat) (xs : Nat → Int32) : PH := nC (K126 L xs) 20 600
def K128 (L : Nat) (xs : Nat → Int32) : PH := sR (K127 L xs) 33 34 (some 59)
def K129 (L : Nat) (xs : Nat → Int32) : PH := nC (K128 L xs) 20 22
def K130 (L : Nat) (xs : Nat → Int32) : PH := sR (K129 L xs) 33 35 (some 60)
def K131 (L : Nat) (xs : Nat → Int32) : PH := nC (K130 L xs) 20 600
def K132 (L : Nat) (xs : Nat → Int32) : PH := sR (K131 L xs) 33 39 (some 61)
def K133 (L : Nat) (xs : Nat → Int32) : PH := sI (K132 L xs) 33 42 (-1)
def K134 (L : Nat) (xs : Nat → Int32) : PH := nC (K133 L xs) 20 400
def K135 (L : Nat) (xs : Nat → Int32) : PH := sR (K134 L xs) 33 49 (some 62)
def K136 (L : Nat) (xs : Nat → Int32) : PH := nC (K135 L xs) 20 300
def K137 (L : Nat) (xs : Nat → Int32) : PH := sR (K136 L xs) 33 52 (some 63)
def K138 (L : Nat) (xs : Nat → Int32) : PH := nC (K137 L xs) 20 6
def K139 (L : Nat) (xs : Nat → Int32) : PH := sR (K138 L xs) 33 53 (some 64)
def K140 (L : Nat) (xs : Nat → Int32) : PH := nC (K139 L xs) 20 40
def K141 (L : Nat) (xs : Nat → Int32) : PH := sR (K140 L xs) 33 55 (some 65)
def K142 (L : Nat) (xs : Nat → Int32) : PH := nC (K141 L xs) 20 40
def K143 (L : Nat) (xs : Nat → Int32) : PH := sR (K142 L xs) 33 56 (some 66)
def K144 (L : Nat) (xs : Nat → Int32) : PH := nC (K143 L xs) 20 40
def K145 (L : Nat) (xs : Nat → Int32) : PH := sR (K144 L xs) 33 57 (some 67)
def K146 (L : Nat) (xs : Nat → Int32) : PH := nC (K145 L xs) 20 40
def K147 (L : Nat) (xs : Nat → Int32) : PH := sR (K146 L xs) 33 58 (some 68)
def K148 (L : Nat) (xs : Nat → Int32) : PH := nC (K147 L xs) 20 40
def K149 (L : Nat) (xs : Nat → Int32) : PH := sR (K148 L xs) 33 59 (some 69)
theorem hn_0 (L : Nat) (xs : Nat → Int32) : hN (K0 L xs) = 0 := rfl
theorem hn_1 (L : Nat) (xs : Nat → Int32) : hN (K1 L xs) = 1 := congrArg (· + 1) (hn_0 L xs)
theorem hn_2 (L : Nat) (xs : Nat → Int32) : hN (K2 L xs) = 2 := congrArg (· + 1) (hn_1 L xs)
theorem hn_3 (L : Nat) (xs : Nat → Int32) : hN (K3 L xs) = 3 := congrArg (· + 1) (hn_2 L xs)
theorem hn_4 (L : Nat) (xs : Nat → Int32) : hN (K4 L xs) = 3 := hn_3 L xs
theorem hn_5 (L : Nat) (xs : Nat → Int32) : hN (K5 L xs) = 4 := congrArg (· + 1) (hn_4 L xs)
theorem hn_6 (L : Nat) (xs : Nat → Int32) : hN (K6 L xs) = 4 := hn_5 L xs
theorem hn_7 (L : Nat) (xs : Nat → Int32) : hN (K7 L xs) = 4 := hn_6 L xs
theorem hn_8 (L : Nat) (xs : Nat → Int32) : hN (K8 L xs) = 4 := hn_7 L xs
theorem hn_9 (L : Nat) (xs : Nat → Int32) : hN (K9 L xs) = 4 := hn_8 L xs
theorem hn_10 (L : Nat) (xs : Nat → Int32) : hN (K10 L xs) = 5 := congrArg (· + 1) (hn_9 L xs)
theorem hn_11 (L : Nat) (xs : Nat → Int32) : hN (K11 L xs) = 6 := congrArg (· + 1) (hn_10 L xs)
theorem hn_12 (L : Nat) (xs : Nat → Int32) : hN (K12 L xs) = 6 := hn_11 L xs
theorem hn_13 (L : Nat) (xs : Nat → Int32) : hN (K13 L xs) = 7 := congrArg (· + 1) (hn_12 L xs)
theorem hn_14 (L : Nat) (xs : Nat → Int32) : hN (K14 L xs) = 7 := hn_13 L xs
theorem hn_15 (L : Nat) (xs : Nat → Int32) : hN (K15 L xs) = 8 := congrArg (· + 1) (hn_14 L xs)
theorem hn_16 (L : Nat) (xs : Nat → Int32) : hN (K16 L xs) = 8 := hn_15 L xs
theorem hn_17 (L : Nat) (xs : Nat → Int32) : hN (K17 L xs) = 8 := hn_16 L xs
theorem hn_18 (L : Nat) (xs : Nat → Int32) : hN (K18 L xs) = 8 := hn_17 L xs
theorem hn_19 (L : Nat) (xs : Nat → Int32) : hN (K19 L xs) = 9 := congrArg (· + 1) (hn_18 L xs)
theorem hn_20 (L : Nat) (xs : Nat → Int32) : hN (K20 L xs) = 10 := congrArg (· + 1) (hn_19 L xs)
theorem hn_21 (L : Nat) (xs : Nat → Int32) : hN (K21 L xs) = 10 := hn_20 L xs
theorem hn_22 (L : Nat) (xs : Nat → Int32) : hN (K22 L xs) = 11 := congrArg (· + 1) (hn_21 L xs)
theorem hn_23 (L : Nat) (xs : Nat → Int32) : hN (K23 L xs) = 11 := hn_22 L xs
theorem hn_24 (L : Nat) (xs : Nat → Int32) : hN (K24 L xs) = 12 := congrArg (· + 1) (hn_23 L xs)
theorem hn_25 (L : Nat) (xs : Nat → Int32) : hN (K25 L xs) = 12 := hn_24 L xs
theorem hn_26 (L : Nat) (xs : Nat → Int32) : hN (K26 L xs) = 12 := hn_25 L xs
theorem hn_27 (L : Nat) (xs : Nat → Int32) : hN (K27 L xs) = 12 := hn_26 L xs
theorem hn_28 (L : Nat) (xs : Nat → Int32) : hN (K28 L xs) = 12 := hn_27 L xs
theorem hn_29 (L : Nat) (xs : Nat → Int32) : hN (K29 L xs) = 13 := congrArg (· + 1) (hn_28 L xs)
theorem hn_30 (L : Nat) (xs : Nat → Int32) : hN (K30 L xs) = 13 := hn_29 L xs
theorem hn_31 (L : Nat) (xs : Nat → Int32) : hN (K31 L xs) = 13 := hn_30 L xs
theorem hn_32 (L : Nat) (xs : Nat → Int32) : hN (K32 L xs) = 13 := hn_31 L xs
theorem hn_33 (L : Nat) (xs : Nat → Int32) : hN (K33 L xs) = 14 := congrArg (· + 1) (hn_32 L xs)
theorem hn_34 (L : Nat) (xs : Nat → Int32) : hN (K34 L xs) = 15 := congrArg (· + 1) (hn_33 L xs)
theorem hn_35 (L : Nat) (xs : Nat → Int32) : hN (K35 L xs) = 15 := hn_34 L xs
theorem hn_36 (L : Nat) (xs : Nat → Int32) : hN (K36 L xs) = 15 := hn_35 L xs
theorem hn_37 (L : Nat) (xs : Nat → Int32) : hN (K37 L xs) = 16 := congrArg (· + 1) (hn_36 L xs)
theorem hn_38 (L : Nat) (xs : Nat → Int32) : hN (K38 L xs) = 17 := congrArg (· + 1) (hn_37 L xs)
theorem hn_39 (L : Nat) (xs : Nat → Int32) : hN (K39 L xs) = 17 := hn_38 L xs
theorem hn_40 (L : Nat) (xs : Nat → Int32) : hN (K40 L xs) = 18 := congrArg (· + 1) (hn_39 L xs)
theorem hn_41 (L : Nat) (xs : Nat → Int32) : hN (K41 L xs) = 18 := hn_40 L xs
theorem hn_42 (L : Nat) (xs : Nat → Int32) : hN (K42 L xs) = 19 := congrArg (· + 1) (hn_41 L xs)
theorem hn_43 (L : Nat) (xs : Nat → Int32) : hN (K43 L xs) = 19 := hn_42 L xs
theorem hn_44 (L : Nat) (xs : Nat → Int32) : hN (K44 L xs) = 19 := hn_43 L xs
theorem hn_45 (L : Nat) (xs : Nat → Int32) : hN (K45 L xs) = 19 := hn_44 L xs
theorem hn_46 (L : Nat) (xs : Nat → Int32) : hN (K46 L xs) = 19 := hn_45 L xs
theorem hn_47 (L : Nat) (xs : Nat → Int32) : hN (K47 L xs) = 20 := congrArg (· + 1) (hn_46 L xs)
theorem hn_48 (L : Nat) (xs : Nat → Int32) : hN (K48 L xs) = 21 := congrArg (· + 1) (hn_47 L xs)
theorem hn_49 (L : Nat) (xs : Nat → Int32) : hN (K49 L xs) = 21 := hn_48 L xs
theorem hn_50 (L : Nat) (xs : Nat → Int32) : hN (K50 L xs) = 22 := congrArg (· + 1) (hn_49 L xs)
theorem hn_51 (L : Nat) (xs : Nat → Int32) : hN (K51 L xs) = 22 := hn_50 L xs
theorem hn_52 (L : Nat) (xs : Nat → Int32) : hN (K52 L xs) = 22 := hn_51 L xs
theorem hn_53 (L : Nat) (xs : Nat → Int32) : hN (K53 L xs) = 23 := congrArg (· + 1) (hn_52 L xs)
theorem hn_54 (L : Nat) (xs : Nat → Int32) : hN (K54 L xs) = 24 := congrArg (· + 1) (hn_53 L xs)
theorem hn_55 (L : Nat) (xs : Nat → Int32) : hN (K55 L xs) = 24 := hn_54 L xs
theorem hn_56 (L : Nat) (xs : Nat → Int32) : hN (K56 L xs) = 25 := congrArg (· + 1) (hn_55 L xs)
theorem hn_57 (L : Nat) (xs : Nat → Int32) : hN (K57 L xs) = 25 := hn_56 L xs
theorem hn_58 (L : Nat) (xs : Nat → Int32) : hN (K58 L xs) = 26 := congrArg (· + 1) (hn_57 L xs)
theorem hn_59 (L : Nat) (xs : Nat → Int32) : hN (K59 L xs) = 26 := hn_58 L xs
theorem hn_60 (L : Nat) (xs : Nat → Int32) : hN (K60 L xs) = 27 := congrArg (· + 1) (hn_59 L xs)
theorem hn_61 (L : Nat) (xs : Nat → Int32) : hN (K61 L xs) = 27 := hn_60 L xs
theorem hn_62 (L : Nat) (xs : Nat → Int32) : hN (K62 L xs) = 28 := congrArg (· + 1) (hn_61 L xs)
theorem hn_63 (L : Nat) (xs : Nat → Int32) : hN (K63 L xs) = 28 := hn_62 L xs
theorem hn_64 (L : Nat) (xs : Nat → Int32) : hN (K64 L xs) = 28 := hn_63 L xs
theorem hn_65 (L : Nat) (xs : Nat → Int32) : hN (K65 L xs) = 29 := congrArg (· + 1) (hn_64 L xs)
theorem hn_66 (L : Nat) (xs : Nat → Int32) : hN (K66 L xs) = 30 := congrArg (· + 1) (hn_65 L xs)
theorem hn_67 (L : Nat) (xs : Nat → Int32) : hN (K67 L xs) = 31 := congrArg (· + 1) (hn_66 L xs)
theorem hn_68 (L : Nat) (xs : Nat → Int32) : hN (K68 L xs) = 32 := congrArg (· + 1) (hn_67 L xs)
theorem hn_69 (L : Nat) (xs : Nat → Int32) : hN (K69 L xs) = 32 := hn_68 L xs
theorem hn_70 (L : Nat) (xs : Nat → Int32) : hN (K70 L xs) = 32 := hn_69 L xs
theorem hn_71 (L : Nat) (xs : Nat → Int32) : hN (K71 L xs) = 32 := hn_70 L xs
theorem hn_72 (L : Nat) (xs : Nat → Int32) : hN (K72 L xs) = 32 := hn_71 L xs
theorem hn_73 (L : Nat) (xs : Nat → Int32) : hN (K73 L xs) = 33 := congrArg (· + 1) (hn_72 L xs)
theorem hn_74 (L : Nat) (xs : Nat → Int32) : hN (K74 L xs) = 33 := hn_73 L xs
theorem hn_75 (L : Nat) (xs : Nat → Int32) : hN (K75 L xs) = 33 := hn_74 L xs
theorem hn_76 (L : Nat) (xs : Nat → Int32) : hN (K76 L xs) = 33 := hn_75 L xs
theorem hn_77 (L : Nat) (xs : Nat → Int32) : hN (K77 L xs) = 34 := congrArg (· + 1) (hn_76 L xs)
theorem hn_78 (L : Nat) (xs : Nat → Int32) : hN (K78 L xs) = 34 := hn_77 L xs
theorem hn_79 (L : Nat) (xs : Nat → Int32) : hN (K79 L xs) = 35 := congrArg (· + 1) (hn_78 L xs)
theorem hn_80 (L : Nat) (xs : Nat → Int32) : hN (K80 L xs) = 35 := hn_79 L xs
theorem hn_81 (L : Nat) (xs : Nat → Int32) : hN (K81 L xs) = 36 := congrArg (· + 1) (hn_80 L xs)
theorem hn_82 (L : Nat) (xs : Nat → Int32) : hN (K82 L xs) = 36 := hn_81 L xs
theorem hn_83 (L : Nat) (xs : Nat → Int32) : hN (K83 L xs) = 37 := congrArg (· + 1) (hn_82 L xs)
theorem hn_84 (L : Nat) (xs : Nat → Int32) : hN (K84 L xs) = 37 := hn_83 L xs
theorem hn_85 (L : Nat) (xs : Nat → Int32) : hN (K85 L xs) = 38 := congrArg (· + 1) (hn_84 L xs)
theorem hn_86 (L : Nat) (xs : Nat → Int32) : hN (K86 L xs) = 38 := hn_85 L xs
theorem hn_87 (L : Nat) (xs : Nat → Int32) : hN (K87 L xs) = 39 := congrArg (· + 1) (hn_86 L xs)
theorem hn_88 (L : Nat) (xs : Nat → Int32) : hN (K88 L xs) = 39 := hn_87 L xs
theorem hn_89 (L : Nat) (xs : Nat → Int32) : hN (K89 L xs) = 40 := congrArg (· + 1) (hn_88 L xs)
theorem hn_90 (L : Nat) (xs : Nat → Int32) : hN (K90 L xs) = 40 := hn_89 L xs
theorem hn_91 (L : Nat) (xs : Nat → Int32) : hN (K91 L xs) = 41 := congrArg (· + 1) (hn_90 L xs)
theorem hn_92 (L : Nat) (xs : Nat → Int32) : hN (K92 L xs) = 41 := hn_91 L xs
theorem hn_93 (L : Nat) (xs : Nat → Int32) : hN (K93 L xs) = 42 := congrArg (· + 1) (hn_92 L xs)
theorem hn_94 (L : Nat) (xs : Nat → Int32) : hN (K94 L xs) = 42 := hn_93 L xs
theorem hn_95 (L : Nat) (xs : Nat → Int32) : hN (K95 L xs) = 43 := congrArg (· + 1) (hn_94 L xs)
theorem hn_96 (L : Nat) (xs : Nat → Int32) : hN (K96 L xs) = 43 := hn_95 L xs
theorem hn_97 (L : Nat) (xs : Nat → Int32) : hN (K97 L xs) = 44 := congrArg (· + 1) (hn_96 L xs)
theorem hn_98 (L : Nat) (xs : Nat → Int32) : hN (K98 L xs) = 44 := hn_97 L xs
theorem hn_99 (L : Nat) (xs : Nat → Int32) : hN (K99 L xs) = 45 := congrArg (· + 1) (hn_98 L xs)
theorem hn_100 (L : Nat) (xs : Nat → Int32) : hN (K100 L xs) = 45 := hn_99 L xs
theorem hn_101 (L : Nat) (xs : Nat → Int32) : hN (K101 L xs) = 46 := congrArg (· + 1) (hn_100 L xs)
theorem hn_102 (L : Nat) (xs : Nat → Int32) : hN (K102 L xs) = 46 := hn_101 L xs
theorem hn_103 (L : Nat) (xs : Nat → Int32) : hN (K103 L xs) = 47 := congrArg (· + 1) (hn_102 L xs)
theorem hn_104 (L : Nat) (xs : Nat → Int32) : hN (K104 L xs) = 47 := hn_103 L xs
theorem hn_105 (L : Nat) (xs : Nat → Int32) : hN (K105 L xs) = 48 := congrArg (· + 1) (hn_104 L xs)
theorem hn_106 (L : Nat) (xs : Nat → Int32) : hN (K106 L xs) = 48 := hn_105 L xs
theorem hn_107 (L : Nat) (xs : Nat → Int32) : hN (K107 L xs) = 49 := congrArg (· + 1) (hn_106 L xs)
theorem hn_108 (L : Nat) (xs : Nat → Int32) : hN (K108 L xs) = 49 := hn_107 L xs
theorem hn_109 (L : Nat) (xs : Nat → Int32) : hN (K109 L xs) = 50 := congrArg (· + 1) (hn_108 L xs)
theorem hn_110 (L : Nat) (xs : Nat → Int32) : hN (K110 L xs) = 50 := hn_109 L xs
theorem hn_111 (L : Nat) (xs : Nat → Int32) : hN (K111 L xs) = 51 := congrArg (· + 1) (hn_110 L xs)
theorem hn_112 (L : Nat) (xs : Nat → Int32) : hN (K112 L xs) = 51 := hn_111 L xs
theorem hn_113 (L : Nat) (xs : Nat → Int32) : hN (K113 L xs) = 52 := congrArg (· + 1) (hn_112 L xs)
theorem hn_114 (L : Nat) (xs : Nat → Int32) : hN (K114 L xs) = 52 := hn_113 L xs
theorem hn_115 (L : Nat) (xs : Nat → Int32) : hN (K115 L xs) = 53 := congrArg (· + 1) (hn_114 L xs)
theorem hn_116 (L : Nat) (xs : Nat → Int32) : hN (K116 L xs) = 53 := hn_115 L xs
theorem hn_117 (L : Nat) (xs : Nat → Int32) : hN (K117 L xs) = 54 := congrArg (· + 1) (hn_116 L xs)
theorem hn_118 (L : Nat) (xs : Nat → Int32) : hN (K118 L xs) = 54 := hn_117 L xs
theorem hn_119 (L : Nat) (xs : Nat → Int32) : hN (K119 L xs) = 55 := congrArg (· + 1) (hn_118 L xs)
theorem hn_120 (L : Nat) (xs : Nat → Int32) : hN (K120 L xs) = 55 := hn_119 L xs
theorem hn_121 (L : Nat) (xs : Nat → Int32) : hN (K121 L xs) = 56 := congrArg (· + 1) (hn_120 L xs)
theorem hn_122 (L : Nat) (xs : Nat → Int32) : hN (K122 L xs) = 56 := hn_121 L xs
theorem hn_123 (L : Nat) (xs : Nat → Int32) : hN (K123 L xs) = 57 := congrArg (· + 1) (hn_122 L xs)
theorem hn_124 (L : Nat) (xs : Nat → Int32) : hN (K124 L xs) = 57 := hn_123 L xs
theorem hn_125 (L : Nat) (xs : Nat → Int32) : hN (K125 L xs) = 58 := congrArg (· + 1) (hn_124 L xs)
theorem hn_126 (L : Nat) (xs : Nat → Int32) : hN (K126 L xs) = 58 := hn_125 L xs
theorem hn_127 (L : Nat) (xs : Nat → Int32) : hN (K127 L xs) = 59 := congrArg (· + 1) (hn_126 L xs)
theorem hn_128 (L : Nat) (xs : Nat → Int32) : hN (K128 L xs) = 59 := hn_127 L xs
theorem hn_129 (L : Nat) (xs : Nat → Int32) : hN (K129 L xs) = 60 := congrArg (· + 1) (hn_128 L xs)
theorem hn_130 (L : Nat) (xs : Nat → Int32) : hN (K130 L xs) = 60 := hn_129 L xs
theorem hn_131 (L : Nat) (xs : Nat → Int32) : hN (K131 L xs) = 61 := congrArg (· + 1) (hn_130 L xs)
theorem hn_132 (L : Nat) (xs : Nat → Int32) : hN (K132 L xs) = 61 := hn_131 L xs
theorem hn_133 (L : Nat) (xs : Nat → Int32) : hN (K133 L xs) = 61 := hn_132 L xs
theorem hn_134 (L : Nat) (xs : Nat → Int32) : hN (K134 L xs) = 62 := congrArg (· + 1) (hn_133 L xs)
theorem hn_135 (L : Nat) (xs : Nat → Int32) : hN (K135 L xs) = 62 := hn_134 L xs
theorem hn_136 (L : Nat) (xs : Nat → Int32) : hN (K136 L xs) = 63 := congrArg (· + 1) (hn_135 L xs)
theorem hn_137 (L : Nat) (xs : Nat → Int32) : hN (K137 L xs) = 63 := hn_136 L xs
theorem hn_138 (L : Nat) (xs : Nat → Int32) : hN (K138 L xs) = 64 := congrArg (· + 1) (hn_137 L xs)
theorem hn_139 (L : Nat) (xs : Nat → Int32) : hN (K139 L xs) = 64 := hn_138 L xs
theorem hn_140 (L : Nat) (xs : Nat → Int32) : hN (K140 L xs) = 65 := congrArg (· + 1) (hn_139 L xs)
theorem hn_141 (L : Nat) (xs : Nat → Int32) : hN (K141 L xs) = 65 := hn_140 L xs
theorem hn_142 (L : Nat) (xs : Nat → Int32) : hN (K142 L xs) = 66 := congrArg (· + 1) (hn_141 L xs)
theorem hn_143 (L : Nat) (xs : Nat → Int32) : hN (K143 L xs) = 66 := hn_142 L xs
theorem hn_144 (L : Nat) (xs : Nat → Int32) : hN (K144 L xs) = 67 := congrArg (· + 1) (hn_143 L xs)
theorem hn_145 (L : Nat) (xs : Nat → Int32) : hN (K145 L xs) = 67 := hn_144 L xs
theorem hn_146 (L : Nat) (xs : Nat → Int32) : hN (K146 L xs) = 68 := congrArg (· + 1) (hn_145 L xs)
theorem hn_147 (L : Nat) (xs : Nat → Int32) : hN (K147 L xs) = 68 := hn_146 L xs
theorem hn_148 (L : Nat) (xs : Nat → Int32) : hN (K148 L xs) = 69 := congrArg (· + 1) (hn_147 L xs)
theorem hn_149 (L : Nat) (xs : Nat → Int32) : hN (K149 L xs) = 69 := hn_148 L xs
theorem hk_1_1 (L : Nat) (xs : Nat → Int32) : hK (K1 L xs) 1 = (12, 9) := by show hK (nC (K0 L xs) 12 9) 1 = _; rw [hK_nC, hn_0]; exact u1_eq _ _ _
theorem hk_2_1 (L : Nat) (xs : Nat → Int32) : hK (K2 L xs) 1 = (12, 9) := (hK_nC' (by rw [hn_1]; decide)).trans (hk_1_1 L xs)
theorem hk_3_1 (L : Nat) (xs : Nat → Int32) : hK (K3 L xs) 1 = (12, 9) := (hK_nC' (by rw [hn_2]; decide)).trans (hk_2_1 L xs)
theorem hk_4_1 (L : Nat) (xs : Nat → Int32) : hK (K4 L xs) 1 = (12, 9) := hk_3_1 L xs
theorem hk_5_1 (L : Nat) (xs : Nat → Int32) : hK (K5 L xs) 1 = (12, 9) := (hK_nC' (by rw [hn_4]; decide)).trans (hk_4_1 L xs)
theorem hk_6_1 (L : Nat) (xs : Nat → Int32) : hK (K6 L xs) 1 = (12, 9) := hk_5_1 L xs
theorem hk_7_1 (L : Nat) (xs : Nat → Int32) : hK (K7 L xs) 1 = (12, 9) := hk_6_1 L xs
theorem hk_8_1 (L : Nat) (xs : Nat → Int32) : hK (K8 L xs) 1 = (12, 9) := hk_7_1 L xs
theorem hk_9_1 (L : Nat) (xs : Nat → Int32) : hK (K9 L xs) 1 = (12, 9) := hk_8_1 L xs
theorem hk_10_1 (L : Nat) (xs : Nat → Int32) : hK (K10 L xs) 1 = (12, 9) := (hK_nC' (by rw [hn_9]; decide)).trans (hk_9_1 L xs)
theorem hk_11_1 (L : Nat) (xs : Nat → Int32) : hK (K11 L xs) 1 = (12, 9) := (hK_nC' (by rw [hn_10]; decide)).trans (hk_10_1 L xs)
theorem hk_12_1 (L : Nat) (xs : Nat → Int32) : hK (K12 L xs) 1 = (12, 9) := hk_11_1 L xs
theorem hk_13_1 (L : Nat) (xs : Nat → Int32) : hK (K13 L xs) 1 = (12, 9) := (hK_nC' (by rw [hn_12]; decide)).trans (hk_12_1 L xs)
theorem hk_14_1 (L : Nat) (xs : Nat → Int32) : hK (K14 L xs) 1 = (12, 9) := hk_13_1 L xs
theorem hk_15_1 (L : Nat) (xs : Nat → Int32) : hK (K15 L xs) 1 = (12, 9) := (hK_nC' (by rw [hn_14]; decide)).trans (hk_14_1 L xs)
theorem hk_16_1 (L : Nat) (xs : Nat → Int32) : hK (K16 L xs) 1 = (12, 9) := hk_15_1 L xs
theorem hk_17_1 (L : Nat) (xs : Nat → Int32) : hK (K17 L xs) 1 = (12, 9) := hk_16_1 L xs
theorem hk_18_1 (L : Nat) (xs : Nat → Int32) : hK (K18 L xs) 1 = (12, 9) := hk_17_1 L xs
theorem hk_19_1 (L : Nat) (xs : Nat → Int32) : hK (K19 L xs) 1 = (12, 9) := (hK_nC' (by rw [hn_18]; decide)).trans (hk_18_1 L xs)
theorem hk_20_1 (L : Nat) (xs : Nat → Int32) : hK (K20 L xs) 1 = (12, 9) := (hK_nC' (by rw [hn_19]; decide)).trans (hk_19_1 L xs)
theorem hk_21_1 (L : Nat) (xs : Nat → Int32) : hK (K21 L xs) 1 = (12, 9) := hk_20_1 L xs
theorem hk_22_1 (L : Nat) (xs : Nat → Int32) : hK (K22 L xs) 1 = (12, 9) := (hK_nC' (by rw [hn_21]; decide)).trans (hk_21_1 L xs)
theorem hk_23_1 (L : Nat) (xs : Nat → Int32) : hK (K23 L xs) 1 = (12, 9) := hk_22_1 L xs
theorem hk_24_1 (L : Nat) (xs : Nat → Int32) : hK (K24 L xs) 1 = (12, 9) := (hK_nC' (by rw [hn_23]; decide)).trans (hk_23_1 L xs)
theorem hk_25_1 (L : Nat) (xs : Nat → Int32) : hK (K25 L xs) 1 = (12, 9) := hk_24_1 L xs
theorem hk_26_1 (L : Nat) (xs : Nat → Int32) : hK (K26 L xs) 1 = (12, 9) := hk_25_1 L xs
theorem hk_27_1 (L : Nat) (xs : Nat → Int32) : hK (K27 L xs) 1 = (12, 9) := hk_26_1 L xs
theorem hk_28_1 (L : Nat) (xs : Nat → Int32) : hK (K28 L xs) 1 = (12, 9) := hk_27_1 L xs
theorem hk_29_1 (L : Nat) (xs : Nat → Int32) : hK (K29 L xs) 1 = (12, 9) := (hK_nC' (by rw [hn_28]; decide)).trans (hk_28_1 L xs)
theorem hk_30_1 (L : Nat) (xs : Nat → Int32) : hK (K30 L xs) 1 = (12, 9) := hk_29_1 L xs
theorem hk_31_1 (L : Nat) (xs : Nat → Int32) : hK (K31 L xs) 1 = (12, 9) := hk_30_1 L xs
theorem hk_32_1 (L : Nat) (xs : Nat → Int32) : hK (K32 L xs) 1 = (12, 9) := hk_31_1 L xs
theorem hk_33_1 (L : Nat) (xs : Nat → Int32) : hK (K33 L xs) 1 = (12, 9) := (hK_nC' (by rw [hn_32]; decide)).trans (hk_32_1 L xs)
theorem hk_34_1 (L : Nat) (xs : Nat → Int32) : hK (K34 L xs) 1 = (12, 9) := (hK_nC' (by rw [hn_33]; decide)).trans (hk_33_1 L xs)
theorem hk_35_1 (L : Nat) (xs : Nat → Int32) : hK (K35 L xs) 1 = (12, 9) := hk_34_1 L xs
theorem hk_36_1 (L : Nat) (xs : Nat → Int32) : hK (K36 L xs) 1 = (12, 9) := hk_35_1 L xs
theorem hk_37_1 (L : Nat) (xs : Nat → Int32) : hK (K37 L xs) 1 = (12, 9) := (hK_nC' (by rw [hn_36]; decide)).trans (hk_36_1 L xs)
theorem hk_38_1 (L : Nat) (xs : Nat → Int32) : hK (K38 L xs) 1 = (12, 9) := (hK_nC' (by rw [hn_37]; decide)).trans (hk_37_1 L xs)
theorem hk_39_1 (L : Nat) (xs : Nat → Int32) : hK (K39 L xs) 1 = (12, 9) := hk_38_1 L xs
theorem hk_40_1 (L : Nat) (xs : Nat → Int32) : hK (K40 L xs) 1 = (12, 9) := (hK_nC' (by rw [hn_39]; decide)).trans (hk_39_1 L xs)
theorem hk_41_1 (L : Nat) (xs : Nat → Int32) : hK (K41 L xs) 1 = (12, 9) := hk_40_1 L xs
theorem hk_42_1 (L : Nat) (xs : Nat → Int32) : hK (K42 L xs) 1 = (12, 9) := (hK_nC' (by rw [hn_41]; decide)).trans (hk_41_1 L xs)
theorem hk_43_1 (L : Nat) (xs : Nat → Int32) : hK (K43 L xs) 1 = (12, 9) := hk_42_1 L xs
theorem hk_44_1 (L : Nat) (xs : Nat → Int32) : hK (K44 L xs) 1 = (12, 9) := hk_43_1 L xs
theorem hk_45_1 (L : Nat) (xs : Nat → Int32) : hK (K45 L xs) 1 = (12, 9) := hk_44_1 L xs
theorem hk_46_1 (L : Nat) (xs : Nat → Int32) : hK (K46 L xs) 1 = (12, 9) := hk_45_1 L xs
theorem hk_47_1 (L : Nat) (xs : Nat → Int32) : hK (K47 L xs) 1 = (12, 9) := (hK_nC' (by rw [hn_46]; decide)).trans (hk_46_1 L xs)
theorem hk_48_1 (L : Nat) (xs : Nat → Int32) : hK (K48 L xs) 1 = (12, 9) := (hK_nC' (by rw [hn_47]; decide)).trans (hk_47_1 L xs)
theorem hk_49_1 (L : Nat) (xs : Nat → Int32) : hK (K49 L xs) 1 = (12, 9) := hk_48_1 L xs
theorem hk_50_1 (L : Nat) (xs : Nat → Int32) : hK (K50 L xs) 1 = (12, 9) := (hK_nC' (by rw [hn_49]; decide)).trans (hk_49_1 L xs)
theorem hk_51_1 (L : Nat) (xs : Nat → Int32) : hK (K51 L xs) 1 = (12, 9) := hk_50_1 L xs
theorem hk_52_1 (L : Nat) (xs : Nat → Int32) : hK (K52 L xs) 1 = (12, 9) := hk_51_1 L xs
theorem hk_53_1 (L : Nat) (xs : Nat → Int32) : hK (K53 L xs) 1 = (12, 9) := (hK_nC' (by rw [hn_52]; decide)).trans (hk_52_1 L xs)
theorem hk_54_1 (L : Nat) (xs : Nat → Int32) : hK (K54 L xs) 1 = (12, 9) := (hK_nC' (by rw [hn_53]; decide)).trans (hk_53_1 L xs)
theorem hk_55_1 (L : Nat) (xs : Nat → Int32) : hK (K55 L xs) 1 = (12, 9) := hk_54_1 L xs
theorem hk_56_1 (L : Nat) (xs : Nat → Int32) : hK (K56 L xs) 1 = (12, 9) := (hK_nC' (by rw [hn_55]; decide)).trans (hk_55_1 L xs)
theorem hk_57_1 (L : Nat) (xs : Nat → Int32) : hK (K57 L xs) 1 = (12, 9) := hk_56_1 L xs
theorem hk_58_1 (L : Nat) (xs : Nat → Int32) : hK (K58 L xs) 1 = (12, 9) := (hK_nC' (by rw [hn_57]; decide)).trans (hk_57_1 L xs)
theorem hk_59_1 (L : Nat) (xs : Nat → Int32) : hK (K59 L xs) 1 = (12, 9) := hk_58_1 L xs
theorem hk_60_1 (L : Nat) (xs : Nat → Int32) : hK (K60 L xs) 1 = (12, 9) := (hK_nC' (by rw [hn_59]; decide)).trans (hk_59_1 L xs)
theorem hk_61_1 (L : Nat) (xs : Nat → Int32) : hK (K61 L xs) 1 = (12, 9) := hk_60_1 L xs
theorem hk_62_1 (L : Nat) (xs : Nat → Int32) : hK (K62 L xs) 1 = (12, 9) := (hK_nC' (by rw [hn_61]; decide)).trans (hk_61_1 L xs)
theorem hk_63_1 (L : Nat) (xs : Nat → Int32) : hK (K63 L xs) 1 = (12, 9) := hk_62_1 L xs
theorem hk_64_1 (L : Nat) (xs : Nat → Int32) : hK (K64 L xs) 1 = (12, 9) := hk_63_1 L xs
theorem hk_65_1 (L : Nat) (xs : Nat → Int32) : hK (K65 L xs) 1 = (12, 9) := (hK_nC' (by rw [hn_64]; decide)).trans (hk_64_1 L xs)
theorem hk_66_1 (L : Nat) (xs : Nat → Int32) : hK (K66 L xs) 1 = (12, 9) := (hK_nC' (by rw [hn_65]; decide)).trans (hk_65_1 L xs)
theorem hk_67_1 (L : Nat) (xs : Nat → Int32) : hK (K67 L xs) 1 = (12, 9) := (hK_nC' (by rw [hn_66]; decide)).trans (hk_66_1 L xs)
theorem hk_68_1 (L : Nat) (xs : Nat → Int32) : hK (K68 L xs) 1 = (12, 9) := (hK_nC' (by rw [hn_67]; decide)).trans (hk_67_1 L xs)
theorem hk_69_1 (L : Nat) (xs : Nat → Int32) : hK (K69 L xs) 1 = (12, 9) := hk_68_1 L xs
theorem hk_70_1 (L : Nat) (xs : Nat → Int32) : hK (K70 L xs) 1 = (12, 9) := hk_69_1 L xs
theorem hk_71_1 (L : Nat) (xs : Nat → Int32) : hK (K71 L xs) 1 = (12, 9) := hk_70_1 L xs
theorem hk_2_2 (L : Nat) (xs : Nat → Int32) : hK (K2 L xs) 2 = (9, 5) := by show hK (nC (K1 L xs) 9 5) 2 = _; rw [hK_nC, hn_1]; exact u1_eq _ _ _
theorem hk_3_2 (L : Nat) (xs : Nat → Int32) : hK (K3 L xs) 2 = (9, 5) := (hK_nC' (by rw [hn_2]; decide)).trans (hk_2_2 L xs)
theorem hk_4_2 (L : Nat) (xs : Nat → Int32) : hK (K4 L xs) 2 = (9, 5) := hk_3_2 L xs
theorem hk_5_2 (L : Nat) (xs : Nat → Int32) : hK (K5 L xs) 2 = (9, 5) := (hK_nC' (by rw [hn_4]; decide)).trans (hk_4_2 L xs)
theorem hk_6_2 (L : Nat) (xs : Nat → Int32) : hK (K6 L xs) 2 = (9, 5) := hk_5_2 L xs
theorem hk_7_2 (L : Nat) (xs : Nat → Int32) : hK (K7 L xs) 2 = (9, 5) := hk_6_2 L xs
theorem hk_10_5 (L : Nat) (xs : Nat → Int32) : hK (K10 L xs) 5 = (2, 6) := by show hK (nC (K9 L xs) 2 6) 5 = _; rw [hK_nC, hn_9]; exact u1_eq _ _ _
theorem hk_11_5 (L : Nat) (xs : Nat → Int32) : hK (K11 L xs) 5 = (2, 6) := (hK_nC' (by rw [hn_10]; decide)).trans (hk_10_5 L xs)
theorem hk_12_5 (L : Nat) (xs : Nat → Int32) : hK (K12 L xs) 5 = (2, 6) := hk_11_5 L xs
theorem hk_13_5 (L : Nat) (xs : Nat → Int32) : hK (K13 L xs) 5 = (2, 6) := (hK_nC' (by rw [hn_12]; decide)).trans (hk_12_5 L xs)
theorem hk_14_5 (L : Nat) (xs : Nat → Int32) : hK (K14 L xs) 5 = (2, 6) := hk_13_5 L xs
theorem hk_15_5 (L : Nat) (xs : Nat → Int32) : hK (K15 L xs) 5 = (2, 6) := (hK_nC' (by rw [hn_14]; decide)).trans (hk_14_5 L xs)
theorem hk_16_5 (L : Nat) (xs : Nat → Int32) : hK (K16 L xs) 5 = (2, 6) := hk_15_5 L xs
theorem hk_19_9 (L : Nat) (xs : Nat → Int32) : hK (K19 L xs) 9 = (5, 7) := by show hK (nC (K18 L xs) 5 7) 9 = _; rw [hK_nC, hn_18]; exact u1_eq _ _ _
theorem hk_20_9 (L : Nat) (xs : Nat → Int32) : hK (K20 L xs) 9 = (5, 7) := (hK_nC' (by rw [hn_19]; decide)).trans (hk_19_9 L xs)
theorem hk_21_9 (L : Nat) (xs : Nat → Int32) : hK (K21 L xs) 9 = (5, 7) := hk_20_9 L xs
theorem hk_22_9 (L : Nat) (xs : Nat → Int32) : hK (K22 L xs) 9 = (5, 7) := (hK_nC' (by rw [hn_21]; decide)).trans (hk_21_9 L xs)
theorem hk_23_9 (L : Nat) (xs : Nat → Int32) : hK (K23 L xs) 9 = (5, 7) := hk_22_9 L xs
theorem hk_24_9 (L : Nat) (xs : Nat → Int32) : hK (K24 L xs) 9 = (5, 7) := (hK_nC' (by rw [hn_23]; decide)).trans (hk_23_9 L xs)
theorem hk_25_9 (L : Nat) (xs : Nat → Int32) : hK (K25 L xs) 9 = (5, 7) := hk_24_9 L xs
theorem hk_26_9 (L : Nat) (xs : Nat → Int32) : hK (K26 L xs) 9 = (5, 7) := hk_25_9 L xs
theorem hk_29_13 (L : Nat) (xs : Nat → Int32) : hK (K29 L xs) 13 = (11, 3) := by show hK (nC (K28 L xs) 11 3) 13 = _; rw [hK_nC, hn_28]; exact u1_eq _ _ _
theorem hk_30_13 (L : Nat) (xs : Nat → Int32) : hK (K30 L xs) 13 = (11, 3) := hk_29_13 L xs
theorem hk_33_14 (L : Nat) (xs : Nat → Int32) : hK (K33 L xs) 14 = (10, 2) := by show hK (nC (K32 L xs) 10 2) 14 = _; rw [hK_nC, hn_32]; exact u1_eq _ _ _
theorem hk_34_14 (L : Nat) (xs : Nat → Int32) : hK (K34 L xs) 14 = (10, 2) := (hK_nC' (by rw [hn_33]; decide)).trans (hk_33_14 L xs)
theorem hk_37_16 (L : Nat) (xs : Nat → Int32) : hK (K37 L xs) 16 = (7, 13) := by show hK (nC (K36 L xs) 7 13) 16 = _; rw [hK_nC, hn_36]; exact u1_eq _ _ _
theorem hk_38_16 (L : Nat) (xs : Nat → Int32) : hK (K38 L xs) 16 = (7, 13) := (hK_nC' (by rw [hn_37]; decide)).trans (hk_37_16 L xs)
theorem hk_39_16 (L : Nat) (xs : Nat → Int32) : hK (K39 L xs) 16 = (7, 13) := hk_38_16 L xs
theorem hk_40_16 (L : Nat) (xs : Nat → Int32) : hK (K40 L xs) 16 = (7, 13) := (hK_nC' (by rw [hn_39]; decide)).trans (hk_39_16 L xs)
theorem hk_41_16 (L : Nat) (xs : Nat → Int32) : hK (K41 L xs) 16 = (7, 13) := hk_40_16 L xs
theorem hk_42_16 (L : Nat) (xs : Nat → Int32) : hK (K42 L xs) 16 = (7, 13) := (hK_nC' (by rw [hn_41]; decide)).trans (hk_41_16 L xs)
theorem hk_43_16 (L : Nat) (xs : Nat → Int32) : hK (K43 L xs) 16 = (7, 13) := hk_42_16 L xs
theorem hk_44_16 (L : Nat) (xs : Nat → Int32) : hK (K44 L xs) 16 = (7, 13) := hk_43_16 L xs
theorem hk_47_20 (L : Nat) (xs : Nat → Int32) : hK (K47 L xs) 20 = (8, 3) := by show hK (nC (K46 L xs) 8 3) 20 = _; rw [hK_nC, hn_46]; exact u1_eq _ _ _
theorem hk_48_20 (L : Nat) (xs : Nat → Int32) : hK (K48 L xs) 20 = (8, 3) := (hK_nC' (by rw [hn_47]; decide)).trans (hk_47_20 L xs)
theorem hk_49_20 (L : Nat) (xs : Nat → Int32) : hK (K49 L xs) 20 = (8, 3) := hk_48_20 L xs
theorem hk_50_20 (L : Nat) (xs : Nat → Int32) : hK (K50 L xs) 20 = (8, 3) := (hK_nC' (by rw [hn_49]; decide)).trans (hk_49_20 L xs)
theorem hk_53_23 (L : Nat) (xs : Nat → Int32) : hK (K53 L xs) 23 = (1, 6) := by show hK (nC (K52 L xs) 1 6) 23 = _; rw [hK_nC, hn_52]; exact u1_eq _ _ _
theorem hk_54_23 (L : Nat) (xs : Nat → Int32) : hK (K54 L xs) 23 = (1, 6) := (hK_nC' (by rw [hn_53]; decide)).trans (hk_53_23 L xs)
theorem hk_55_23 (L : Nat) (xs : Nat → Int32) : hK (K55 L xs) 23 = (1, 6) := hk_54_23 L xs
theorem hk_56_23 (L : Nat) (xs : Nat → Int32) : hK (K56 L xs) 23 = (1, 6) := (hK_nC' (by rw [hn_55]; decide)).trans (hk_55_23 L xs)
theorem hk_57_23 (L : Nat) (xs : Nat → Int32) : hK (K57 L xs) 23 = (1, 6) := hk_56_23 L xs
theorem hk_58_23 (L : Nat) (xs : Nat → Int32) : hK (K58 L xs) 23 = (1, 6) := (hK_nC' (by rw [hn_57]; decide)).trans (hk_57_23 L xs)
theorem hk_59_23 (L : Nat) (xs : Nat → Int32) : hK (K59 L xs) 23 = (1, 6) := hk_58_23 L xs
theorem hk_60_23 (L : Nat) (xs : Nat → Int32) : hK (K60 L xs) 23 = (1, 6) := (hK_nC' (by rw [hn_59]; decide)).trans (hk_59_23 L xs)
theorem hk_61_23 (L : Nat) (xs : Nat → Int32) : hK (K61 L xs) 23 = (1, 6) := hk_60_23 L xs
theorem hk_62_23 (L : Nat) (xs : Nat → Int32) : hK (K62 L xs) 23 = (1, 6) := (hK_nC' (by rw [hn_61]; decide)).trans (hk_61_23 L xs)
theorem hk_65_29 (L : Nat) (xs : Nat → Int32) : hK (K65 L xs) 29 = (6, 3) := by show hK (nC (K64 L xs) 6 3) 29 = _; rw [hK_nC, hn_64]; exact u1_eq _ _ _
theorem hk_66_29 (L : Nat) (xs : Nat → Int32) : hK (K66 L xs) 29 = (6, 3) := (hK_nC' (by rw [hn_65]; decide)).trans (hk_65_29 L xs)
theorem hk_67_29 (L : Nat) (xs : Nat → Int32) : hK (K67 L xs) 29 = (6, 3) := (hK_nC' (by rw [hn_66]; decide)).trans (hk_66_29 L xs)
theorem hk_68_29 (L : Nat) (xs : Nat → Int32) : hK (K68 L xs) 29 = (6, 3) := (hK_nC' (by rw [hn_67]; decide)).trans (hk_67_29 L xs)
theorem hk_69_29 (L : Nat) (xs : Nat → Int32) : hK (K69 L xs) 29 = (6, 3) := hk_68_29 L xs
theorem hk_70_29 (L : Nat) (xs : Nat → Int32) : hK (K70 L xs) 29 = (6, 3) := hk_69_29 L xs
theorem hk_73_33 (L : Nat) (xs : Nat → Int32) : hK (K73 L xs) 33 = (13, 60) := by show hK (nC (K72 L xs) 13 60) 33 = _; rw [hK_nC, hn_72]; exact u1_eq _ _ _
theorem hk_74_33 (L : Nat) (xs : Nat → Int32) : hK (K74 L xs) 33 = (13, 60) := hk_73_33 L xs
theorem hk_75_33 (L : Nat) (xs : Nat → Int32) : hK (K75 L xs) 33 = (13, 60) := hk_74_33 L xs
theorem hk_76_33 (L : Nat) (xs : Nat → Int32) : hK (K76 L xs) 33 = (13, 60) := hk_75_33 L xs
theorem hk_77_33 (L : Nat) (xs : Nat → Int32) : hK (K77 L xs) 33 = (13, 60) := (hK_nC' (by rw [hn_76]; decide)).trans (hk_76_33 L xs)
theorem hk_78_33 (L : Nat) (xs : Nat → Int32) : hK (K78 L xs) 33 = (13, 60) := hk_77_33 L xs
theorem hk_79_33 (L : Nat) (xs : Nat → Int32) : hK (K79 L xs) 33 = (13, 60) := (hK_nC' (by rw [hn_78]; decide)).trans (hk_78_33 L xs)
theorem hk_80_33 (L : Nat) (xs : Nat → Int32) : hK (K80 L xs) 33 = (13, 60) := hk_79_33 L xs
theorem hk_81_33 (L : Nat) (xs : Nat → Int32) : hK (K81 L xs) 33 = (13, 60) := (hK_nC' (by rw [hn_80]; decide)).trans (hk_80_33 L xs)
theorem hk_82_33 (L : Nat) (xs : Nat → Int32) : hK (K82 L xs) 33 = (13, 60) := hk_81_33 L xs
theorem hk_83_33 (L : Nat) (xs : Nat → Int32) : hK (K83 L xs) 33 = (13, 60) := (hK_nC' (by rw [hn_82]; decide)).trans (hk_82_33 L xs)
theorem hk_84_33 (L : Nat) (xs : Nat → Int32) : hK (K84 L xs) 33 = (13, 60) := hk_83_33 L xs
theorem hk_85_33 (L : Nat) (xs : Nat → Int32) : hK (K85 L xs) 33 = (13, 60) := (hK_nC' (by rw [hn_84]; decide)).trans (hk_84_33 L xs)
theorem hk_86_33 (L : Nat) (xs : Nat → Int32) : hK (K86 L xs) 33 = (13, 60) := hk_85_33 L xs
theorem hk_87_33 (L : Nat) (xs : Nat → Int32) : hK (K87 L xs) 33 = (13, 60) := (hK_nC' (by rw [hn_86]; decide)).trans (hk_86_33 L xs)
theorem hk_88_33 (L : Nat) (xs : Nat → Int32) : hK (K88 L xs) 33 = (13, 60) := hk_87_33 L xs
theorem hk_89_33 (L : Nat) (xs : Nat → Int32) : hK (K89 L xs) 33 = (13, 60) := (hK_nC' (by rw [hn_88]; decide)).trans (hk_88_33 L xs)
theorem hk_90_33 (L : Nat) (xs : Nat → Int32) : hK (K90 L xs) 33 = (13, 60) := hk_89_33 L xs
theorem hk_91_33 (L : Nat) (xs : Nat → Int32) : hK (K91 L xs) 33 = (13, 60) := (hK_nC' (by rw [hn_90]; decide)).trans (hk_90_33 L xs)
theorem hk_92_33 (L : Nat) (xs : Nat → Int32) : hK (K92 L xs) 33 = (13, 60) := hk_91_33 L xs
theorem hk_93_33 (L : Nat) (xs : Nat → Int32) : hK (K93 L xs) 33 = (13, 60) := (hK_nC' (by rw [hn_92]; decide)).trans (hk_92_33 L xs)
theorem hk_94_33 (L : Nat) (xs : Nat → Int32) : hK (K94 L xs) 33 = (13, 60) := hk_93_33 L xs
theorem hk_95_33 (L : Nat) (xs : Nat → Int32) : hK (K95 L xs) 33 = (13, 60) := (hK_nC' (by rw [hn_94]; decide)).trans (hk_94_33 L xs)
theorem hk_96_33 (L : Nat) (xs : Nat → Int32) : hK (K96 L xs) 33 = (13, 60) := hk_95_33 L xs
theorem hk_97_33 (L : Nat) (xs : Nat → Int32) : hK (K97 L xs) 33 = (13, 60) := (hK_nC' (by rw [hn_96]; decide)).trans (hk_96_33 L xs)
theorem hk_98_33 (L : Nat) (xs : Nat → Int32) : hK (K98 L xs) 33 = (13, 60) := hk_97_33 L xs
theorem hk_99_33 (L : Nat) (xs : Nat → Int32) : hK (K99 L xs) 33 = (13, 60) := (hK_nC' (by rw [hn_98]; decide)).trans (hk_98_33 L xs)
theorem hk_100_33 (L : Nat) (xs : Nat → Int32) : hK (K100 L xs) 33 = (13, 60) := hk_99_33 L xs
theorem hk_101_33 (L : Nat) (xs : Nat → Int32) : hK (K101 L xs) 33 = (13, 60) := (hK_nC' (by rw [hn_100]; decide)).trans (hk_100_33 L xs)
theorem hk_102_33 (L : Nat) (xs : Nat → Int32) : hK (K102 L xs) 33 = (13, 60) := hk_101_33 L xs
theorem hk_103_33 (L : Nat) (xs : Nat → Int32) : hK (K103 L xs) 33 = (13, 60) := (hK_nC' (by rw [hn_102]; decide)).trans (hk_102_33 L xs)
theorem hk_104_33 (L : Nat) (xs : Nat → Int32) : hK (K104 L xs) 33 = (13, 60) := hk_103_33 L xs
theorem hk_105_33 (L : Nat) (xs : Nat → Int32) : hK (K105 L xs) 33 = (13, 60) := (hK_nC' (by rw [hn_104]; decide)).trans (hk_104_33 L xs)
theorem hk_106_33 (L : Nat) (xs : Nat → Int32) : hK (K106 L xs) 33 = (13, 60) := hk_105_33 L xs
theorem hk_107_33 (L : Nat) (xs : Nat → Int32) : hK (K107 L xs) 33 = (13, 60) := (hK_nC' (by rw [hn_106]; decide)).trans (hk_106_33 L xs)
theorem hk_108_33 (L : Nat) (xs : Nat → Int32) : hK (K108 L xs) 33 = (13, 60) := hk_107_33 L xs
theorem hk_109_33 (L : Nat) (xs : Nat → Int32) : hK (K109 L xs) 33 = (13, 60) := (hK_nC' (by rw [hn_108]; decide)).trans (hk_108_33 L xs)
theorem hk_110_33 (L : Nat) (xs : Nat → Int32) : hK (K110 L xs) 33 = (13, 60) := hk_109_33 L xs
theorem hk_111_33 (L : Nat) (xs : Nat → Int32) : hK (K111 L xs) 33 = (13, 60) := (hK_nC' (by rw [hn_110]; decide)).trans (hk_110_33 L xs)
theorem hk_112_33 (L : Nat) (xs : Nat → Int32) : hK (K112 L xs) 33 = (13, 60) := hk_111_33 L xs
theorem hk_113_33 (L : Nat) (xs : Nat → Int32) : hK (K113 L xs) 33 = (13, 60) := (hK_nC' (by rw [hn_112]; decide)).trans (hk_112_33 L xs)
theorem hk_114_33 (L : Nat) (xs : Nat → Int32) : hK (K114 L xs) 33 = (13, 60) := hk_113_33 L xs
theorem hk_115_33 (L : Nat) (xs : Nat → Int32) : hK (K115 L xs) 33 = (13, 60) := (hK_nC' (by rw [hn_114]; decide)).trans (hk_114_33 L xs)
theorem hk_116_33 (L : Nat) (xs : Nat → Int32) : hK (K116 L xs) 33 = (13, 60) := hk_115_33 L xs
theorem hk_117_33 (L : Nat) (xs : Nat → Int32) : hK (K117 L xs) 33 = (13, 60) := (hK_nC' (by rw [hn_116]; decide)).trans (hk_116_33 L xs)
theorem hk_118_33 (L : Nat) (xs : Nat → Int32) : hK (K118 L xs) 33 = (13, 60) := hk_117_33 L xs
theorem hk_119_33 (L : Nat) (xs : Nat → Int32) : hK (K119 L xs) 33 = (13, 60) := (hK_nC' (by rw [hn_118]; decide)).trans (hk_118_33 L xs)
theorem hk_120_33 (L : Nat) (xs : Nat → Int32) : hK (K120 L xs) 33 = (13, 60) := hk_119_33 L xs
theorem hk_121_33 (L : Nat) (xs : Nat → Int32) : hK (K121 L xs) 33 = (13, 60) := (hK_nC' (by rw [hn_120]; decide)).trans (hk_120_33 L xs)
theorem hk_122_33 (L : Nat) (xs : Nat → Int32) : hK (K122 L xs) 33 = (13, 60) := hk_121_33 L xs
theorem hk_123_33 (L : Nat) (xs : Nat → Int32) : hK (K123 L xs) 33 = (13, 60) := (hK_nC' (by rw [hn_122]; decide)).trans (hk_122_33 L xs)
theorem hk_124_33 (L : Nat) (xs : Nat → Int32) : hK (K124 L xs) 33 = (13, 60) := hk_123_33 L xs
theorem hk_125_33 (L : Nat) (xs : Nat → Int32) : hK (K125 L xs) 33 = (13, 60) := (hK_nC' (by rw [hn_124]; decide)).trans (hk_124_33 L xs)
theorem hk_126_33 (L : Nat) (xs : Nat → Int32) : hK (K126 L xs) 33 = (13, 60) := hk_125_33 L xs
theorem hk_127_33 (L : Nat) (xs : Nat → Int32) : hK (K127 L xs) 33 = (13, 60) := (hK_nC' (by rw [hn_126]; decide)).trans (hk_126_33 L xs)
theorem hk_128_33 (L : Nat) (xs : Nat → Int32) : hK (K128 L xs) 33 = (13, 60) := hk_127_33 L xs
theorem hk_129_33 (L : Nat) (xs : Nat → Int32) : hK (K129 L xs) 33 = (13, 60) := (hK_nC' (by rw [hn_128]; decide)).trans (hk_128_33 L xs)
theorem hk_130_33 (L : Nat) (xs : Nat → Int32) : hK (K130 L xs) 33 = (13, 60) := hk_129_33 L xs
theorem hk_131_33 (L : Nat) (xs : Nat → Int32) : hK (K131 L xs) 33 = (13, 60) := (hK_nC' (by rw [hn_130]; decide)).trans (hk_130_33 L xs)
theorem hk_132_33 (L : Nat) (xs : Nat → Int32) : hK (K132 L xs) 33 = (13, 60) := hk_131_33 L xs
theorem hk_133_33 (L : Nat) (xs : Nat → Int32) : hK (K133 L xs) 33 = (13, 60) := hk_132_33 L xs
theorem hk_134_33 (L : Nat) (xs : Nat → Int32) : hK (K134 L xs) 33 = (13, 60) := (hK_nC' (by rw [hn_133]; decide)).trans (hk_133_33 L xs)
theorem hk_135_33 (L : Nat) (xs : Nat → Int32) : hK (K135 L xs) 33 = (13, 60) := hk_134_33 L xs
theorem hk_136_33 (L : Nat) (xs : Nat → Int32) : hK (K136 L xs) 33 = (13, 60) := (hK_nC' (by rw [hn_135]; decide)).trans (hk_135_33 L xs)
theorem hk_137_33 (L : Nat) (xs : Nat → Int32) : hK (K137 L xs) 33 = (13, 60) := hk_136_33 L xs
theorem hk_138_33 (L : Nat) (xs : Nat → Int32) : hK (K138 L xs) 33 = (13, 60) := (hK_nC' (by rw [hn_137]; decide)).trans (hk_137_33 L xs)
theorem hk_139_33 (L : Nat) (xs : Nat → Int32) : hK (K139 L xs) 33 = (13, 60) := hk_138_33 L xs
theorem hk_140_33 (L : Nat) (xs : Nat → Int32) : hK (K140 L xs) 33 = (13, 60) := (hK_nC' (by rw [hn_139]; decide)).trans (hk_139_33 L xs)
theorem hk_141_33 (L : Nat) (xs : Nat → Int32) : hK (K141 L xs) 33 = (13, 60) := hk_140_33 L xs
theorem hk_142_33 (L : Nat) (xs : Nat → Int32) : hK (K142 L xs) 33 = (13, 60) := (hK_nC' (by rw [hn_141]; decide)).trans (hk_141_33 L xs)
theorem hk_143_33 (L : Nat) (xs : Nat → Int32) : hK (K143 L xs) 33 = (13, 60) := hk_142_33 L xs
theorem hk_144_33 (L : Nat) (xs : Nat → Int32) : hK (K144 L xs) 33 = (13, 60) := (hK_nC' (by rw [hn_143]; decide)).trans (hk_143_33 L xs)
theorem hk_145_33 (L : Nat) (xs : Nat → Int32) : hK (K145 L xs) 33 = (13, 60) := hk_144_33 L xs
theorem hk_146_33 (L : Nat) (xs : Nat → Int32) : hK (K146 L xs) 33 = (13, 60) := (hK_nC' (by rw [hn_145]; decide)).trans (hk_145_33 L xs)
theorem hk_147_33 (L : Nat) (xs : Nat → Int32) : hK (K147 L xs) 33 = (13, 60) := hk_146_33 L xs
theorem hk_148_33 (L : Nat) (xs : Nat → Int32) : hK (K148 L xs) 33 = (13, 60) := (hK_nC' (by rw [hn_147]; decide)).trans (hk_147_33 L xs)
theorem hr_9_1_0 (L : Nat) (xs : Nat → Int32) : hR (K9 L xs) 1 0 = some 2 := by show u2 (hR (K8 L xs)) 1 0 (some 2) 1 0 = _; exact u2_eq _ _ _ _
theorem hr_10_1_0 (L : Nat) (xs : Nat → Int32) : hR (K10 L xs) 1 0 = some 2 := (hR_nC' (by rw [hn_9]; decide)).trans (hr_9_1_0 L xs)
theorem hr_11_1_0 (L : Nat) (xs : Nat → Int32) : hR (K11 L xs) 1 0 = some 2 := (hR_nC' (by rw [hn_10]; decide)).trans (hr_10_1_0 L xs)
theorem hr_12_1_0 (L : Nat) (xs : Nat → Int32) : hR (K12 L xs) 1 0 = some 2 := by show u2 (hR (K11 L xs)) 5 0 (some 6) 1 0 = _; rw [u2_ne1 (by decide)]; exact hr_11_1_0 L xs
theorem hr_13_1_0 (L : Nat) (xs : Nat → Int32) : hR (K13 L xs) 1 0 = some 2 := (hR_nC' (by rw [hn_12]; decide)).trans (hr_12_1_0 L xs)
theorem hr_14_1_0 (L : Nat) (xs : Nat → Int32) : hR (K14 L xs) 1 0 = some 2 := by show u2 (hR (K13 L xs)) 5 1 (some 7) 1 0 = _; rw [u2_ne1 (by decide)]; exact hr_13_1_0 L xs
theorem hr_15_1_0 (L : Nat) (xs : Nat → Int32) : hR (K15 L xs) 1 0 = some 2 := (hR_nC' (by rw [hn_14]; decide)).trans (hr_14_1_0 L xs)
theorem hr_16_1_0 (L : Nat) (xs : Nat → Int32) : hR (K16 L xs) 1 0 = some 2 := by show u2 (hR (K15 L xs)) 5 2 (some 8) 1 0 = _; rw [u2_ne1 (by decide)]; exact hr_15_1_0 L xs
theorem hr_17_1_0 (L : Nat) (xs : Nat → Int32) : hR (K17 L xs) 1 0 = some 2 := hr_16_1_0 L xs
theorem hr_18_1_0 (L : Nat) (xs : Nat → Int32) : hR (K18 L xs) 1 0 = some 2 := by show u2 (hR (K17 L xs)) 1 1 (some 5) 1 0 = _; rw [u2_ne2 (by decide)]; exact hr_17_1_0 L xs
theorem hr_19_1_0 (L : Nat) (xs : Nat → Int32) : hR (K19 L xs) 1 0 = some 2 := (hR_nC' (by rw [hn_18]; decide)).trans (hr_18_1_0 L xs)
theorem hr_20_1_0 (L : Nat) (xs : Nat → Int32) : hR (K20 L xs) 1 0 = some 2 := (hR_nC' (by rw [hn_19]; decide)).trans (hr_19_1_0 L xs)
theorem hr_21_1_0 (L : Nat) (xs : Nat → Int32) : hR (K21 L xs) 1 0 = some 2 := by show u2 (hR (K20 L xs)) 9 1 (some 10) 1 0 = _; rw [u2_ne1 (by decide)]; exact hr_20_1_0 L xs
theorem hr_22_1_0 (L : Nat) (xs : Nat → Int32) : hR (K22 L xs) 1 0 = some 2 := (hR_nC' (by rw [hn_21]; decide)).trans (hr_21_1_0 L xs)
theorem hr_23_1_0 (L : Nat) (xs : Nat → Int32) : hR (K23 L xs) 1 0 = some 2 := by show u2 (hR (K22 L xs)) 9 2 (some 11) 1 0 = _; rw [u2_ne1 (by decide)]; exact hr_22_1_0 L xs
theorem hr_24_1_0 (L : Nat) (xs : Nat → Int32) : hR (K24 L xs) 1 0 = some 2 := (hR_nC' (by rw [hn_23]; decide)).trans (hr_23_1_0 L xs)
theorem hr_25_1_0 (L : Nat) (xs : Nat → Int32) : hR (K25 L xs) 1 0 = some 2 := by show u2 (hR (K24 L xs)) 9 3 (some 12) 1 0 = _; rw [u2_ne1 (by decide)]; exact hr_24_1_0 L xs
theorem hr_26_1_0 (L : Nat) (xs : Nat → Int32) : hR (K26 L xs) 1 0 = some 2 := hr_25_1_0 L xs
theorem hr_27_1_0 (L : Nat) (xs : Nat → Int32) : hR (K27 L xs) 1 0 = some 2 := by show u2 (hR (K26 L xs)) 9 0 (some 5) 1 0 = _; rw [u2_ne1 (by decide)]; exact hr_26_1_0 L xs
theorem hr_28_1_0 (L : Nat) (xs : Nat → Int32) : hR (K28 L xs) 1 0 = some 2 := by show u2 (hR (K27 L xs)) 1 2 (some 9) 1 0 = _; rw [u2_ne2 (by decide)]; exact hr_27_1_0 L xs
theorem hr_29_1_0 (L : Nat) (xs : Nat → Int32) : hR (K29 L xs) 1 0 = some 2 := (hR_nC' (by rw [hn_28]; decide)).trans (hr_28_1_0 L xs)
theorem hr_18_1_1 (L : Nat) (xs : Nat → Int32) : hR (K18 L xs) 1 1 = some 5 := by show u2 (hR (K17 L xs)) 1 1 (some 5) 1 1 = _; exact u2_eq _ _ _ _
theorem hr_19_1_1 (L : Nat) (xs : Nat → Int32) : hR (K19 L xs) 1 1 = some 5 := (hR_nC' (by rw [hn_18]; decide)).trans (hr_18_1_1 L xs)
theorem hr_20_1_1 (L : Nat) (xs : Nat → Int32) : hR (K20 L xs) 1 1 = some 5 := (hR_nC' (by rw [hn_19]; decide)).trans (hr_19_1_1 L xs)
theorem hr_21_1_1 (L : Nat) (xs : Nat → Int32) : hR (K21 L xs) 1 1 = some 5 := by show u2 (hR (K20 L xs)) 9 1 (some 10) 1 1 = _; rw [u2_ne1 (by decide)]; exact hr_20_1_1 L xs
theorem hr_22_1_1 (L : Nat) (xs : Nat → Int32) : hR (K22 L xs) 1 1 = some 5 := (hR_nC' (by rw [hn_21]; decide)).trans (hr_21_1_1 L xs)
theorem hr_23_1_1 (L : Nat) (xs : Nat → Int32) : hR (K23 L xs) 1 1 = some 5 := by show u2 (hR (K22 L xs)) 9 2 (some 11) 1 1 = _; rw [u2_ne1 (by decide)]; exact hr_22_1_1 L xs
theorem hr_24_1_1 (L : Nat) (xs : Nat → Int32) : hR (K24 L xs) 1 1 = some 5 := (hR_nC' (by rw [hn_23]; decide)).trans (hr_23_1_1 L xs)
theorem hr_25_1_1 (L : Nat) (xs : Nat → Int32) : hR (K25 L xs) 1 1 = some 5 := by show u2 (hR (K24 L xs)) 9 3 (some 12) 1 1 = _; rw [u2_ne1 (by decide)]; exact hr_24_1_1 L xs
theorem hr_26_1_1 (L : Nat) (xs : Nat → Int32) : hR (K26 L xs) 1 1 = some 5 := hr_25_1_1 L xs
theorem hr_27_1_1 (L : Nat) (xs : Nat → Int32) : hR (K27 L xs) 1 1 = some 5 := by show u2 (hR (K26 L xs)) 9 0 (some 5) 1 1 = _; rw [u2_ne1 (by decide)]; exact hr_26_1_1 L xs
theorem hr_28_1_1 (L : Nat) (xs : Nat → Int32) : hR (K28 L xs) 1 1 = some 5 := by show u2 (hR (K27 L xs)) 1 2 (some 9) 1 1 = _; rw [u2_ne2 (by decide)]; exact hr_27_1_1 L xs
theorem hr_29_1_1 (L : Nat) (xs : Nat → Int32) : hR (K29 L xs) 1 1 = some 5 := (hR_nC' (by rw [hn_28]; decide)).trans (hr_28_1_1 L xs)
theorem hr_36_1_4 (L : Nat) (xs : Nat → Int32) : hR (K36 L xs) 1 4 = some 14 := by show u2 (hR (K35 L xs)) 1 4 (some 14) 1 4 = _; exact u2_eq _ _ _ _
theorem hr_37_1_4 (L : Nat) (xs : Nat → Int32) : hR (K37 L xs) 1 4 = some 14 := (hR_nC' (by rw [hn_36]; decide)).trans (hr_36_1_4 L xs)
theorem ek_149 (L : Nat) (xs : Nat → Int32) : ∀ a, a ≤ hN (K149 L xs) → hK (K149 L xs) a = hK (K149 L xs) a := fun _ _ => rfl
theorem ek_148 (L : Nat) (xs : Nat → Int32) : ∀ a, a ≤ hN (K148 L xs) → hK (K149 L xs) a = hK (K148 L xs) a := fun a h => ek_149 L xs a h
theorem ek_147 (L : Nat) (xs : Nat → Int32) : ∀ a, a ≤ hN (K147 L xs) → hK (K149 L xs) a = hK (K147 L xs) a := fun a h => (ek_148 L xs a (by rw [hn_147] at h; rw [hn_148]; omega)).trans (hK_nC' h)
theorem ek_146 (L : Nat) (xs : Nat → Int32) : ∀ a, a ≤ hN (K146 L xs) → hK (K149 L xs) a = hK (K146 L xs) a := fun a h => ek_147 L xs a h
theorem ek_145 (L : Nat) (xs : Nat → Int32) : ∀ a, a ≤ hN (K145 L xs) → hK (K149 L xs) a = hK (K145 L xs) a := fun a h => (ek_146 L xs a (by rw [hn_145] at h; rw [hn_146]; omega)).trans (hK_nC' h)
theorem ek_144 (L : Nat) (xs : Nat → Int32) : ∀ a, a ≤ hN (K144 L xs) → hK (K149 L xs) a = hK (K144 L xs) a := fun a h => ek_145 L xs a h
theorem ek_143 (L : Nat) (xs : Nat → Int32) : ∀ a, a ≤ hN (K143 L xs) → hK (K149 L xs) a = hK (K143 L xs) a := fun a h => (ek_144 L xs a (by rw [hn_143] at h; rw [hn_144]; omega)).trans (hK_nC' h)
theorem ek_142 (L : Nat) (xs : Nat → Int32) : ∀ a, a ≤ hN (K142 L xs) → hK (K149 L xs) a = hK (K142 L xs) a := fun a h => ek_143 L xs a h
theorem ek_141 (L : Nat) (xs : Nat → Int32) : ∀ a, a ≤ hN (K141 L xs) → hK (K149 L xs) a = hK (K141 L xs) a := fun a h => (ek_142 L xs a (by rw [hn_141] at h; rw [hn_142]; omega)).trans (hK_nC' h)
theorem ek_140 (L : Nat) (xs : Nat → Int32) : ∀ a, a ≤ hN (K140 L xs) → hK (K149 L xs) a = hK (K140 L xs) a := fun a h => ek_141 L xs a h
theorem ek_139 (L : Nat) (xs : Nat → Int32) : ∀ a, a ≤ hN (K139 L xs) → hK (K149 L xs) a = hK (K139 L xs) a := fun a h => (ek_140 L xs a (by rw [hn_139] at h; rw [hn_140]; omega)).trans (hK_nC' h)
theorem ek_138 (L : Nat) (xs : Nat → Int32) : ∀ a, a ≤ hN (K138 L xs) → hK (K149 L xs) a = hK (K138 L xs) a := fun a h => ek_139 L xs a h
theorem ek_137 (L : Nat) (xs : Nat → Int32) : ∀ a, a ≤ hN (K137 L xs) → hK (K149 L xs) a = hK (K137 L xs) a := fun a h => (ek_138 L xs a (by rw [hn_137] at h; rw [hn_138]; omega)).trans (hK_nC' h)
theorem ek_136 (L : Nat) (xs : Nat → Int32) : ∀ a, a ≤ hN (K136 L xs) → hK (K149 L xs) a = hK (K136 L xs) a := fun a h => ek_137 L xs a h
theorem ek_135 (L : Nat) (xs : Nat → Int32) : ∀ a, a ≤ hN (K135 L xs) → hK (K149 L xs) a = hK (K135 L xs) a := fun a h => (ek_136 L xs a (by rw [hn_135] at h; rw [hn_136]; omega)).trans (hK_nC' h)
theorem ek_134 (L : Nat) (xs : Nat → Int32) : ∀ a, a ≤ hN (K134 L xs) → hK (K149 L xs) a = hK (K134 L xs) a := fun a h => ek_135 L xs a h
theorem ek_133 (L : Nat) (xs : Nat → Int32) : ∀ a, a ≤ hN (K133 L xs) → hK (K149 L xs) a = hK (K133 L xs) a := fun a h => (ek_134 L xs a (by rw [hn_133] at h; rw [hn_134]; omega)).trans (hK_nC' h)
theorem ek_132 (L : Nat) (xs : Nat → Int32) : ∀ a, a ≤ hN (K132 L xs) → hK (K149 L xs) a = hK (K132 L xs) a := fun a h => ek_133 L xs a h
theorem ek_131 (L : Nat) (xs : Nat → Int32) : ∀ a, a ≤ hN (K131 L xs) → hK (K149 L xs) a = hK (K131 L xs) a := fun a h => ek_132 L xs a h
theorem ek_130 (L : Nat) (xs : Nat → Int32) : ∀ a, a ≤ hN (K130 L xs) → hK (K149 L xs) a = hK (K130 L xs) a := fun a h => (ek_131 L xs a (by rw [hn_130] at h; rw [hn_131]; omega)).trans (hK_nC' h)
theorem ek_129 (L : Nat) (xs : Nat → Int32) : ∀ a, a ≤ hN (K129 L xs) → hK (K149 L xs) a = hK (K129 L xs) a := fun a h => ek_130 L xs a h
theorem ek_128 (L : Nat) (xs : Nat → Int32) : ∀ a, a ≤ hN (K128 L xs) → hK (K149 L xs) a = hK (K128 L xs) a := fun a h => (ek_129 L xs a (by rw [hn_128] at h; rw [hn_129]; omega)).trans (hK_nC' h)
theorem ek_127 (L : Nat) (xs : Nat → Int32) : ∀ a, a ≤ hN (K127 L xs) → hK (K149 L xs) a = hK (K127 L xs) a := fun a h => ek_128 L xs a h
theorem ek_126 (L : Nat) (xs : Nat → Int32) : ∀ a, a ≤ hN (K126 L xs) → hK (K149 L xs) a = hK (K126 L xs) a := fun a h => (ek_127 L xs a (by rw [hn_126] at h; rw [hn_127]; omega)).trans (hK_nC' h)
theorem ek_125 (L : Nat) (xs : Nat → Int32) : ∀ a, a ≤ hN (K125 L xs) → hK (K149 L xs) a = hK (K125 L xs) a := fun a h => ek_126 L xs a h
theorem ek_124 (L : Nat) (xs : Nat → Int32) : ∀ a, a ≤ hN (K124 L xs) → hK (K149 L xs) a = hK (K124 L xs) a := fun a h => (ek_125 L xs a (by rw [hn_124] at h; rw [hn_125]; omega)).trans (hK_nC' h)
theorem ek_123 (L : Nat) (xs : Nat → Int32) : ∀ a, a ≤ hN (K123 L xs) → hK (K149 L xs) a = hK (K123 L xs) a := fun a h => ek_124 L xs a h
theorem ek_122 (L : Nat) (xs : Nat → Int32) : ∀ a, a ≤ hN (K122 L xs) → hK (K149 L xs) a = hK (K122 L xs) a := fun a h => (ek_123 L xs a (by rw [hn_122] at h; rw [hn_123]; omega)).trans (hK_nC' h)
theorem ek_121 (L : Nat) (xs : Nat → Int32) : ∀ a, a ≤ hN (K121 L xs) → hK (K149 L xs) a = hK (K121 L xs) a := fun a h => ek_122 L xs a h
theorem ek_120 (L : Nat) (xs : Nat → Int32) : ∀ a, a ≤ hN (K120 L xs) → hK (K149 L xs) a = hK (K120 L xs) a := fun a h => (ek_121 L xs a (by rw [hn_120] at h; rw [hn_121]; omega)).trans (hK_nC' h)
theorem ek_119 (L : Nat) (xs : Nat → Int32) : ∀ a, a ≤ hN (K119 L xs) → hK (K149 L xs) a = hK (K119 L xs) a := fun a h => ek_120 L xs a h
theorem ek_118 (L : Nat) (xs : Nat → Int32) : ∀ a, a ≤ hN (K118 L xs) → hK (K149 L xs) a = hK (K118 L xs) a := fun a h => (ek_119 L xs a (by rw [hn_118] at h; rw [hn_119]; omega)).trans (hK_nC' h)
theorem ek_117 (L : Nat) (xs : Nat → Int32) : ∀ a, a ≤ hN (K117 L xs) → hK (K149 L xs) a = hK (K117 L xs) a := fun a h => ek_118 L xs a h
theorem ek_116 (L : Nat) (xs : Nat → Int32) : ∀ a, a ≤ hN (K116 L xs) → hK (K149 L xs) a = hK (K116 L xs) a := fun a h => (ek_117 L xs a (by rw [hn_116] at h; rw [hn_117]; omega)).trans (hK_nC' h)
theorem ek_115 (L : Nat) (xs : Nat → Int32) : ∀ a, a ≤ hN (K115 L xs) → hK (K149 L xs) a = hK (K115 L xs) a := fun a h => ek_116 L xs a h
theorem ek_114 (L : Nat) (xs : Nat → Int32) : ∀ a, a ≤ hN (K114 L xs) → hK (K149 L xs) a = hK (K114 L xs) a := fun a h => (ek_115 L xs a (by rw [hn_114] at h; rw [hn_115]; omega)).trans (hK_nC' h)
theorem ek_113 (L : Nat) (xs : Nat → Int32) : ∀ a, a ≤ hN (K113 L xs) → hK (K149 L xs) a = hK (K113 L xs) a := fun a h => ek_114 L xs a h
theorem ek_112 (L : Nat) (xs : Nat → Int32) : ∀ a, a ≤ hN (K112 L xs) → hK (K149 L xs) a = hK (K112 L xs) a := fun a h => (ek_113 L xs a (by rw [hn_112] at h; rw [hn_113]; omega)).trans (hK_nC' h)
theorem ek_111 (L : Nat) (xs : Nat → Int32) : ∀ a, a ≤ hN (K111 L xs) → hK (K149 L xs) a = hK (K111 L xs) a := fun a h => ek_112 L xs a h
theorem ek_110 (L : Nat) (xs : Nat → Int32) : ∀ a, a ≤ hN (K110 L xs) → hK (K149 L xs) a = hK (K110 L xs) a := fun a h => (ek_111 L xs a (by rw [hn_110] at h; rw [hn_111]; omega)).trans (hK_nC' h)
theorem ek_109 (L : Nat) (xs : Nat → Int32) : ∀ a, a ≤ hN (K109 L xs) → hK (K149 L xs) a = hK (K109 L xs) a := fun a h => ek_110 L xs a h
theorem ek_108 (L : Nat) (xs : Nat → Int32) : ∀ a, a ≤ hN (K108 L xs) → hK (K149 L xs) a = hK (K108 L xs) a := fun a h => (ek_109 L xs a (by rw [hn_108] at h; rw [hn_109]; omega)).trans (hK_nC' h)
theorem ek_107 (L : Nat) (xs : Nat → Int32) : ∀ a, a ≤ hN (K107 L xs) → hK (K149 L xs) a = hK (K107 L xs) a := fun a h => ek_108 L xs a h
theorem ek_106 (L : Nat) (xs : Nat → Int32) : ∀ a, a ≤ hN (K106 L xs) → hK (K149 L xs) a = hK (K106 L xs) a := fun a h => (ek_107 L xs a (by rw [hn_106] at h; rw [hn_107]; omega)).trans (hK_nC' h)
theorem ek_105 (L : Nat) (xs : Nat → Int32) : ∀ a, a ≤ hN (K105 L xs) → hK (K149 L xs) a = hK (K105 L xs) a := fun a h => ek_106 L xs a h
theorem ek_104 (L : Nat) (xs : Nat → Int32) : ∀ a, a ≤ hN (K104 L xs) → hK (K149 L xs) a = hK (K104 L xs) a := fun a h => (ek_105 L xs a (by rw [hn_104] at h; rw [hn_105]; omega)).trans (hK_nC' h)
theorem ek_103 (L : Nat) (xs : Nat → Int32) : ∀ a, a ≤ hN (K103 L xs) → hK (K149 L xs) a = hK (K103 L xs) a := fun a h => ek_104 L xs a h
theorem ek_102 (L : Nat) (xs : Nat → Int32) : ∀ a, a ≤ hN (K102 L xs) → hK (K149 L xs) a = hK (K102 L xs) a := fun a h => (ek_103 L xs a (by rw [hn_102] at h; rw [hn_103]; omega)).trans (hK_nC' h)
theorem ek_101 (L : Nat) (xs : Nat → Int32) : ∀ a, a ≤ hN (K101 L xs) → hK (K149 L xs) a = hK (K101 L xs) a := fun a h => ek_102 L xs a h
theorem ek_100 (L : Nat) (xs : Nat → Int32) : ∀ a, a ≤ hN (K100 L xs) → hK (K149 L xs) a = hK (K100 L xs) a := fun a h => (ek_101 L xs a (by rw [hn_100] at h; rw [hn_101]; omega)).trans (hK_nC' h)
theorem ek_99 (L : Nat) (xs : Nat → Int32) : ∀ a, a ≤ hN (K99 L xs) → hK (K149 L xs) a = hK (K99 L xs) a := fun a h => ek_100 L xs a h
theorem ek_98 (L : Nat) (xs : Nat → Int32) : ∀ a, a ≤ hN (K98 L xs) → hK (K149 L xs) a = hK (K98 L xs) a := fun a h => (ek_99 L xs a (by rw [hn_98] at h; rw [hn_99]; omega)).trans (hK_nC' h)
theorem ek_97 (L : Nat) (xs : Nat → Int32) : ∀ a, a ≤ hN (K97 L xs) → hK (K149 L xs) a = hK (K97 L xs) a := fun a h => ek_98 L xs a h
theorem ek_96 (L : Nat) (xs : Nat → Int32) : ∀ a, a ≤ hN (K96 L xs) → hK (K149 L xs) a = hK (K96 L xs) a := fun a h => (ek_97 L xs a (by rw [hn_96] at h; rw [hn_97]; omega)).trans (hK_nC' h)
theorem ek_95 (L : Nat) (xs : Nat → Int32) : ∀ a, a ≤ hN (K95 L xs) → hK (K149 L xs) a = hK (K95 L xs) a := fun a h => ek_96 L xs a h
theorem ek_94 (L : Nat) (xs : Nat → Int32) : ∀ a, a ≤ hN (K94 L xs) → hK (K149 L xs) a = hK (K94 L xs) a := fun a h => (ek_95 L xs a (by rw [hn_94] at h; rw [hn_95]; omega)).trans (hK_nC' h)
theorem ek_93 (L : Nat) (xs : Nat → Int32) : ∀ a, a ≤ hN (K93 L xs) → hK (K149 L xs) a = hK (K93 L xs) a := fun a h => ek_94 L xs a h
theorem ek_92 (L : Nat) (xs : Nat → Int32) : ∀ a, a ≤ hN (K92 L xs) → hK (K149 L xs) a = hK (K92 L xs) a := fun a h => (ek_93 L xs a (by rw [hn_92] at h; rw [hn_93]; omega)).trans (hK_nC' h)
theorem ek_91 (L : Nat) (xs : Nat → Int32) : ∀ a, a ≤ hN (K91 L xs) → hK (K149 L xs) a = hK (K91 L xs) a := fun a h => ek_92 L xs a h
theorem ek_90 (L : Nat) (xs : Nat → Int32) : ∀ a, a ≤ hN (K90 L xs) → hK (K149 L xs) a = hK (K90 L xs) a := fun a h => (ek_91 L xs a (by rw [hn_90] at h; rw [hn_91]; omega)).trans (hK_nC' h)
theorem ek_89 (L : Nat) (xs : Nat → Int32) : ∀ a, a ≤ hN (K89 L xs) → hK (K149 L xs) a = hK (K89 L xs) a := fun a h => ek_90 L xs a h
theorem ek_88 (L : Nat) (xs : Nat → Int32) : ∀ a, a ≤ hN (K88 L xs) → hK (K149 L xs) a = hK (K88 L xs) a := fun a h => (ek_89 L xs a (by rw [hn_88] at h; rw [hn_89]; omega)).trans (hK_nC' h)
theorem ek_87 (L : Nat) (xs : Nat → Int32) : ∀ a, a ≤ hN (K87 L xs) → hK (K149 L xs) a = hK (K87 L xs) a := fun a h => ek_88 L xs a h
theorem ek_86 (L : Nat) (xs : Nat → Int32) : ∀ a, a ≤ hN (K86 L xs) → hK (K149 L xs) a = hK (K86 L xs) a := fun a h => (ek_87 L xs a (by rw [hn_86] at h; rw [hn_87]; omega)).trans (hK_nC' h)
theorem ek_85 (L : Nat) (xs : Nat → Int32) : ∀ a, a ≤ hN (K85 L xs) → hK (K149 L xs) a = hK (K85 L xs) a := fun a h => ek_86 L xs a h
theorem ek_84 (L : Nat) (xs : Nat → Int32) : ∀ a, a ≤ hN (K84 L xs) → hK (K149 L xs) a = hK (K84 L xs) a := fun a h => (ek_85 L xs a (by rw [hn_84] at h; rw [hn_85]; omega)).trans (hK_nC' h)
theorem ek_83 (L : Nat) (xs : Nat → Int32) : ∀ a, a ≤ hN (K83 L xs) → hK (K149 L xs) a = hK (K83 L xs) a := fun a h => ek_84 L xs a h
theorem ek_82 (L : Nat) (xs : Nat → Int32) : ∀ a, a ≤ hN (K82 L xs) → hK (K149 L xs) a = hK (K82 L xs) a := fun a h => (ek_83 L xs a (by rw [hn_82] at h; rw [hn_83]; omega)).trans (hK_nC' h)
theorem ek_81 (L : Nat) (xs : Nat → Int32) : ∀ a, a ≤ hN (K81 L xs) → hK (K149 L xs) a = hK (K81 L xs) a := fun a h => ek_82 L xs a h
theorem ek_80 (L : Nat) (xs : Nat → Int32) : ∀ a, a ≤ hN (K80 L xs) → hK (K149 L xs) a = hK (K80 L xs) a := fun a h => (ek_81 L xs a (by rw [hn_80] at h; rw [hn_81]; omega)).trans (hK_nC' h)
theorem ek_79 (L : Nat) (xs : Nat → Int32) : ∀ a, a ≤ hN (K79 L xs) → hK (K149 L xs) a = hK (K79 L xs) a := fun a h => ek_80 L xs a h
theorem ek_78 (L : Nat) (xs : Nat → Int32) : ∀ a, a ≤ hN (K78 L xs) → hK (K149 L xs) a = hK (K78 L xs) a := fun a h => (ek_79 L xs a (by rw [hn_78] at h; rw [hn_79]; omega)).trans (hK_nC' h)
theorem ek_77 (L : Nat) (xs : Nat → Int32) : ∀ a, a ≤ hN (K77 L xs) → hK (K149 L xs) a = hK (K77 L xs) a := fun a h => ek_78 L xs a h
theorem ek_76 (L : Nat) (xs : Nat → Int32) : ∀ a, a ≤ hN (K76 L xs) → hK (K149 L xs) a = hK (K76 L xs) a := fun a h => (ek_77 L xs a (by rw [hn_76] at h; rw [hn_77]; omega)).trans (hK_nC' h)
theorem ek_75 (L : Nat) (xs : Nat → Int32) : ∀ a, a ≤ hN (K75 L xs) → hK (K149 L xs) a = hK (K75 L xs) a := fun a h => ek_76 L xs a h
theorem ek_74 (L : Nat) (xs : Nat → Int32) : ∀ a, a ≤ hN (K74 L xs) → hK (K149 L xs) a = hK (K74 L xs) a := fun a h => ek_75 L xs a h
theorem ek_73 (L : Nat) (xs : Nat → Int32) : ∀ a, a ≤ hN (K73 L xs) → hK (K149 L xs) a = hK (K73 L xs) a := fun a h => ek_74 L xs a h
theorem ek_72 (L : Nat) (xs : Nat → Int32) : ∀ a, a ≤ hN (K72 L xs) → hK (K149 L xs) a = hK (K72 L xs) a := fun a h => (ek_73 L xs a (by rw [hn_72] at h; rw [hn_73]; omega)).trans (hK_nC' h)
theorem ek_71 (L : Nat) (xs : Nat → Int32) : ∀ a, a ≤ hN (K71 L xs) → hK (K149 L xs) a = hK (K71 L xs) a := fun a h => ek_72 L xs a h
theorem ek_70 (L : Nat) (xs : Nat → Int32) : ∀ a, a ≤ hN (K70 L xs) → hK (K149 L xs) a = hK (K70 L xs) a := fun a h => ek_71 L xs a h
theorem ek_69 (L : Nat) (xs : Nat → Int32) : ∀ a, a ≤ hN (K69 L xs) → hK (K149 L xs) a = hK (K69 L xs) a := fun a h => ek_70 L xs a h
theorem ek_68 (L : Nat) (xs : Nat → Int32) : ∀ a, a ≤ hN (K68 L xs) → hK (K149 L xs) a = hK (K68 L xs) a := fun a h => ek_69 L xs a h
theorem ek_67 (L : Nat) (xs : Nat → Int32) : ∀ a, a ≤ hN (K67 L xs) → hK (K149 L xs) a = hK (K67 L xs) a := fun a h => (ek_68 L xs a (by rw [hn_67] at h; rw [hn_68]; omega)).trans (hK_nC' h)
theorem ek_66 (L : Nat) (xs : Nat → Int32) : ∀ a, a ≤ hN (K66 L xs) → hK (K149 L xs) a = hK (K66 L xs) a := fun a h => (ek_67 L xs a (by rw [hn_66] at h; rw [hn_67]; omega)).trans (hK_nC' h)
theorem ek_65 (L : Nat) (xs : Nat → Int32) : ∀ a, a ≤ hN (K65 L xs) → hK (K149 L xs) a = hK (K65 L xs) a := fun a h => (ek_66 L xs a (by rw [hn_65] at h; rw [hn_66]; omega)).trans (hK_nC' h)
theorem ek_64 (L : Nat) (xs : Nat → Int32) : ∀ a, a ≤ hN (K64 L xs) → hK (K149 L xs) a = hK (K64 L xs) a := fun a h => (ek_65 L xs a (by rw [hn_64] at h; rw [hn_65]; omega)).trans (hK_nC' h)
theorem ek_63 (L : Nat) (xs : Nat → Int32) : ∀ a, a ≤ hN (K63 L xs) → hK (K149 L xs) a = hK (K63 L xs) a := fun a h => ek_64 L xs a h
theorem ek_62 (L : Nat) (xs : Nat → Int32) : ∀ a, a ≤ hN (K62 L xs) → hK (K149 L xs) a = hK (K62 L xs) a := fun a h => ek_63 L xs a h
theorem ek_61 (L : Nat) (xs : Nat → Int32) : ∀ a, a ≤ hN (K61 L xs) → hK (K149 L xs) a = hK (K61 L xs) a := fun a h => (ek_62 L xs a (by rw [hn_61] at h; rw [hn_62]; omega)).trans (hK_nC' h)
theorem ek_60 (L : Nat) (xs : Nat → Int32) : ∀ a, a ≤ hN (K60 L xs) → hK (K149 L xs) a = hK (K60 L xs) a := fun a h => ek_61 L xs a h
theorem ek_59 (L : Nat) (xs : Nat → Int32) : ∀ a, a ≤ hN (K59 L xs) → hK (K149 L xs) a = hK (K59 L xs) a := fun a h => (ek_60 L xs a (by rw [hn_59] at h; rw [hn_60]; omega)).trans (hK_nC' h)
theorem ek_58 (L : Nat) (xs : Nat → Int32) : ∀ a, a ≤ hN (K58 L xs) → hK (K149 L xs) a = hK (K58 L xs) a := fun a h => ek_59 L xs a h
theorem ek_57 (L : Nat) (xs : Nat → Int32) : ∀ a, a ≤ hN (K57 L xs) → hK (K149 L xs) a = hK (K57 L xs) a := fun a h => (ek_58 L xs a (by rw [hn_57] at h; rw [hn_58]; omega)).trans (hK_nC' h)
theorem ek_56 (L : Nat) (xs : Nat → Int32) : ∀ a, a ≤ hN (K56 L xs) → hK (K149 L xs) a = hK (K56 L xs) a := fun a h => ek_57 L xs a h
theorem ek_55 (L : Nat) (xs : Nat → Int32) : ∀ a, a ≤ hN (K55 L xs) → hK (K149 L xs) a = hK (K55 L xs) a := fun a h => (ek_56 L xs a (by rw [hn_55] at h; rw [hn_56]; omega)).trans (hK_nC' h)
theorem ek_54 (L : Nat) (xs : Nat → Int32) : ∀ a, a ≤ hN (K54 L xs) → hK (K149 L xs) a = hK (K54 L xs) a := fun a h => ek_55 L xs a h
theorem ek_53 (L : Nat) (xs : Nat → Int32) : ∀ a, a ≤ hN (K53 L xs) → hK (K149 L xs) a = hK (K53 L xs) a := fun a h => (ek_54 L xs a (by rw [hn_53] at h; rw [hn_54]; omega)).trans (hK_nC' h)
theorem ek_52 (L : Nat) (xs : Nat → Int32) : ∀ a, a ≤ hN (K52 L xs) → hK (K149 L xs) a = hK (K52 L xs) a := fun a h => (ek_53 L xs a (by rw [hn_52] at h; rw [hn_53]; omega)).trans (hK_nC' h)
theorem ek_51 (L : Nat) (xs : Nat → Int32) : ∀ a, a ≤ hN (K51 L xs) → hK (K149 L xs) a = hK (K51 L xs) a := fun a h => ek_52 L xs a h
theorem ek_50 (L : Nat) (xs : Nat → Int32) : ∀ a, a ≤ hN (K50 L xs) → hK (K149 L xs) a = hK (K50 L xs) a := fun a h => ek_51 L xs a h
theorem ek_49 (L : Nat) (xs : Nat → Int32) : ∀ a, a ≤ hN (K49 L xs) → hK (K149 L xs) a = hK (K49 L xs) a := fun a h => (ek_50 L xs a (by rw [hn_49] at h; rw [hn_50]; omega)).trans (hK_nC' h)
theorem ek_48 (L : Nat) (xs : Nat → Int32) : ∀ a, a ≤ hN (K48 L xs) → hK (K149 L xs) a = hK (K48 L xs) a := fun a h => ek_49 L xs a h
theorem ek_47 (L : Nat) (xs : Nat → Int32) : ∀ a, a ≤ hN (K47 L xs) → hK (K149 L xs) a = hK (K47 L xs) a := fun a h => (ek_48 L xs a (by rw [hn_47] at h; rw [hn_48]; omega)).trans (hK_nC' h)
theorem ek_46 (L : Nat) (xs : Nat → Int32) : ∀ a, a ≤ hN (K46 L xs) → hK (K149 L xs) a = hK (K46 L xs) a := fun a h => (ek_47 L xs a (by rw [hn_46] at h; rw [hn_47]; omega)).trans (hK_nC' h)
theorem ek_45 (L : Nat) (xs : Nat → Int32) : ∀ a, a ≤ hN (K45 L xs) → hK (K149 L xs) a = hK (K45 L xs) a := fun a h => ek_46 L xs a h
theorem ek_44 (L : Nat) (xs : Nat → Int32) : ∀ a, a ≤ hN (K44 L xs) → hK (K149 L xs) a = hK (K44 L xs) a := fun a h => ek_45 L xs a h
theorem ek_43 (L : Nat) (xs : Nat → Int32) : ∀ a, a ≤ hN (K43 L xs) → hK (K149 L xs) a = hK (K43 L xs) a := fun a h => ek_44 L xs a h
theorem ek_42 (L : Nat) (xs : Nat → Int32) : ∀ a, a ≤ hN (K42 L xs) → hK (K149 L xs) a = hK (K42 L xs) a := fun a h => ek_43 L xs a h
theorem ek_41 (L : Nat) (xs : Nat → Int32) : ∀ a, a ≤ hN (K41 L xs) → hK (K149 L xs) a = hK (K41 L xs) a := fun a h => (ek_42 L xs a (by rw [hn_41] at h; rw [hn_42]; omega)).trans (hK_nC' h)
theorem ek_40 (L : Nat) (xs : Nat → Int32) : ∀ a, a ≤ hN (K40 L xs) → hK (K149 L xs) a = hK (K40 L xs) a := fun a h => ek_41 L xs a h
theorem ek_39 (L : Nat) (xs : Nat → Int32) : ∀ a, a ≤ hN (K39 L xs) → hK (K149 L xs) a = hK (K39 L xs) a := fun a h => (ek_40 L xs a (by rw [hn_39] at h; rw [hn_40]; omega)).trans (hK_nC' h)
theorem ek_38 (L : Nat) (xs : Nat → Int32) : ∀ a, a ≤ hN (K38 L xs) → hK (K149 L xs) a = hK (K38 L xs) a := fun a h => ek_39 L xs a h
theorem ek_37 (L : Nat) (xs : Nat → Int32) : ∀ a, a ≤ hN (K37 L xs) → hK (K149 L xs) a = hK (K37 L xs) a := fun a h => (ek_38 L xs a (by rw [hn_37] at h; rw [hn_38]; omega)).trans (hK_nC' h)
theorem ek_36 (L : Nat) (xs : Nat → Int32) : ∀ a, a ≤ hN (K36 L xs) → hK (K149 L xs) a = hK (K36 L xs) a := fun a h => (ek_37 L xs a (by rw [hn_36] at h; rw [hn_37]; omega)).trans (hK_nC' h)
theorem ek_35 (L : Nat) (xs : Nat → Int32) : ∀ a, a ≤ hN (K35 L xs) → hK (K149 L xs) a = hK (K35 L xs) a := fun a h => ek_36 L xs a h
theorem ek_34 (L : Nat) (xs : Nat → Int32) : ∀ a, a ≤ hN (K34 L xs) → hK (K149 L xs) a = hK (K34 L xs) a := fun a h => ek_35 L xs a h
theorem ek_33 (L : Nat) (xs : Nat → Int32) : ∀ a, a ≤ hN (K33 L xs) → hK (K149 L xs) a = hK (K33 L xs) a := fun a h => (ek_34 L xs a (by rw [hn_33] at h; rw [hn_34]; omega)).trans (hK_nC' h)
theorem ek_32 (L : Nat) (xs : Nat → Int32) : ∀ a, a ≤ hN (K32 L xs) → hK (K149 L xs) a = hK (K32 L xs) a := fun a h => (ek_33 L xs a (by rw [hn_32] at h; rw [hn_33]; omega)).trans (hK_nC' h)
theorem ek_31 (L : Nat) (xs : Nat → Int32) : ∀ a, a ≤ hN (K31 L xs) → hK (K149 L xs) a = hK (K31 L xs) a := fun a h => ek_32 L xs a h
theorem ek_30 (L : Nat) (xs : Nat → Int32) : ∀ a, a ≤ hN (K30 L xs) → hK (K149 L xs) a = hK (K30 L xs) a := fun a h => ek_31 L xs a h
theorem ek_29 (L : Nat) (xs : Nat → Int32) : ∀ a, a ≤ hN (K29 L xs) → hK (K149 L xs) a = hK (K29 L xs) a := fun a h => ek_30 L xs a h
theorem ek_28 (L : Nat) (xs : Nat → Int32) : ∀ a, a ≤ hN (K28 L xs) → hK (K149 L xs) a = hK (K28 L xs) a := fun a h => (ek_29 L xs a (by rw [hn_28] at h; rw [hn_29]; omega)).trans (hK_nC' h)
theorem ek_27 (L : Nat) (xs : Nat → Int32) : ∀ a, a ≤ hN (K27 L xs) → hK (K149 L xs) a = hK (K27 L xs) a := fun a h => ek_28 L xs a h
theorem ek_26 (L : Nat) (xs : Nat → Int32) : ∀ a, a ≤ hN (K26 L xs) → hK (K149 L xs) a = hK (K26 L xs) a := fun a h => ek_27 L xs a h
theorem ek_25 (L : Nat) (xs : Nat → Int32) : ∀ a, a ≤ hN (K25 L xs) → hK (K149 L xs) a = hK (K25 L xs) a := fun a h => ek_26 L xs a h
theorem ek_24 (L : Nat) (xs : Nat → Int32) : ∀ a, a ≤ hN (K24 L xs) → hK (K149 L xs) a = hK (K24 L xs) a := fun a h => ek_25 L xs a h
theorem ek_23 (L : Nat) (xs : Nat → Int32) : ∀ a, a ≤ hN (K23 L xs) → hK (K149 L xs) a = hK (K23 L xs) a := fun a h => (ek_24 L xs a (by rw [hn_23] at h; rw [hn_24]; omega)).trans (hK_nC' h)
theorem ek_22 (L : Nat) (xs : Nat → Int32) : ∀ a, a ≤ hN (K22 L xs) → hK (K149 L xs) a = hK (K22 L xs) a := fun a h => ek_23 L xs a h
theorem ek_21 (L : Nat) (xs : Nat → Int32) : ∀ a, a ≤ hN (K21 L xs) → hK (K149 L xs) a = hK (K21 L xs) a := fun a h => (ek_22 L xs a (by rw [hn_21] at h; rw [hn_22]; omega)).trans (hK_nC' h)
theorem ek_20 (L : Nat) (xs : Nat → Int32) : ∀ a, a ≤ hN (K20 L xs) → hK (K149 L xs) a = hK (K20 L xs) a := fun a h => ek_21 L xs a h
theorem ek_19 (L : Nat) (xs : Nat → Int32) : ∀ a, a ≤ hN (K19 L xs) → hK (K149 L xs) a = hK (K19 L xs) a := fun a h => (ek_20 L xs a (by rw [hn_19] at h; rw [hn_20]; omega)).trans (hK_nC' h)
theorem ek_18 (L : Nat) (xs : Nat → Int32) : ∀ a, a ≤ hN (K18 L xs) → hK (K149 L xs) a = hK (K18 L xs) a := fun a h => (ek_19 L xs a (by rw [hn_18] at h; rw [hn_19]; omega)).trans (hK_nC' h)
theorem ek_17 (L : Nat) (xs : Nat → Int32) : ∀ a, a ≤ hN (K17 L xs) → hK (K149 L xs) a = hK (K17 L xs) a := fun a h => ek_18 L xs a h
theorem ek_16 (L : Nat) (xs : Nat → Int32) : ∀ a, a ≤ hN (K16 L xs) → hK (K149 L xs) a = hK (K16 L xs) a := fun a h => ek_17 L xs a h
theorem ek_15 (L : Nat) (xs : Nat → Int32) : ∀ a, a ≤ hN (K15 L xs) → hK (K149 L xs) a = hK (K15 L xs) a := fun a h => ek_16 L xs a h
theorem ek_14 (L : Nat) (xs : Nat → Int32) : ∀ a, a ≤ hN (K14 L xs) → hK (K149 L xs) a = hK (K14 L xs) a := fun a h => (ek_15 L xs a (by rw [hn_14] at h; rw [hn_15]; omega)).trans (hK_nC' h)
theorem ek_13 (L : Nat) (xs : Nat → Int32) : ∀ a, a ≤ hN (K13 L xs) → hK (K149 L xs) a = hK (K13 L xs) a := fun a h => ek_14 L xs a h
theorem ek_12 (L : Nat) (xs : Nat → Int32) : ∀ a, a ≤ hN (K12 L xs) → hK (K149 L xs) a = hK (K12 L xs) a := fun a h => (ek_13 L xs a (by rw [hn_12] at h; rw [hn_13]; omega)).trans (hK_nC' h)
theorem ek_11 (L : Nat) (xs : Nat → Int32) : ∀ a, a ≤ hN (K11 L xs) → hK (K149 L xs) a = hK (K11 L xs) a := fun a h => ek_12 L xs a h
theorem ek_10 (L : Nat) (xs : Nat → Int32) : ∀ a, a ≤ hN (K10 L xs) → hK (K149 L xs) a = hK (K10 L xs) a := fun a h => (ek_11 L xs a (by rw [hn_10] at h; rw [hn_11]; omega)).trans (hK_nC' h)
theorem ek_9 (L : Nat) (xs : Nat → Int32) : ∀ a, a ≤ hN (K9 L xs) → hK (K149 L xs) a = hK (K9 L xs) a := fun a h => (ek_10 L xs a (by rw [hn_9] at h; rw [hn_10]; omega)).trans (hK_nC' h)
theorem ek_8 (L : Nat) (xs : Nat → Int32) : ∀ a, a ≤ hN (K8 L xs) → hK (K149 L xs) a = hK (K8 L xs) a := fun a h => ek_9 L xs a h
theorem ek_7 (L : Nat) (xs : Nat → Int32) : ∀ a, a ≤ hN (K7 L xs) → hK (K149 L xs) a = hK (K7 L xs) a := fun a h => ek_8 L xs a h
theorem ek_6 (L : Nat) (xs : Nat → Int32) : ∀ a, a ≤ hN (K6 L xs) → hK (K149 L xs) a = hK (K6 L xs) a := fun a h => ek_7 L xs a h
theorem ek_5 (L : Nat) (xs : Nat → Int32) : ∀ a, a ≤ hN (K5 L xs) → hK (K149 L xs) a = hK (K5 L xs) a := fun a h => ek_6 L xs a h
theorem ek_4 (L : Nat) (xs : Nat → Int32) : ∀ a, a ≤ hN (K4 L xs) → hK (K149 L xs) a = hK (K4 L xs) a := fun a h => (ek_5 L xs a (by rw [hn_4] at h; rw [hn_5]; omega)).trans (hK_nC' h)
theorem ek_3 (L : Nat) (xs : Nat → Int32) : ∀ a, a ≤ hN (K3 L xs) → hK (K149 L xs) a = hK (K3 L xs) a := fun a h => ek_4 L xs a h
theorem ek_2 (L : Nat) (xs : Nat → Int32) : ∀ a, a ≤ hN (K2 L xs) → hK (K149 L xs) a = hK (K2 L xs) a := fun a h => (ek_3 L xs a (by rw [hn_2] at h; rw [hn_3]; omega)).trans (hK_nC' h)
theorem ek_1 (L : Nat) (xs : Nat → Int32) : ∀ a, a ≤ hN (K1 L xs) → hK (K149 L xs) a = hK (K1 L xs) a := fun a h => (ek_2 L xs a (by rw [hn_1] at h; rw [hn_2]; omega)).trans (hK_nC' h)
theorem ek_0 (L : Nat) (xs : Nat → Int32) : ∀ a, a ≤ hN (K0 L xs) → hK (K149 L xs) a = hK (K0 L xs) a := fun a h => (ek_1 L xs a (by rw [hn_0] at h; rw [hn_1]; omega)).trans (hK_nC' h)
def W149 : List (Nat × Nat) := []
theorem er_149 (L : Nat) (xs : Nat → Int32) : ∀ a k, a ≤ hN (K149 L xs) → (a, k) ∉ W149 → hR (K149 L xs) a k = hR (K149 L xs) a k := fun _ _ _ _ => rfl
def W148 : List (Nat × Nat) := (33, 59) :: W149
theorem er_148 (L : Nat) (xs : Nat → Int32) : ∀ a k, a ≤ hN (K148 L xs) → (a, k) ∉ W148 → hR (K149 L xs) a k = hR (K148 L xs) a k := fun a k h hw => (er_149 L xs a k h (fun q => hw (List.mem_cons_of_mem _ q))).trans (if_neg (fun q => hw (by rw [q.1, q.2]; exact List.mem_cons_self)))
abbrev W147 : List (Nat × Nat) := W148
theorem er_147 (L : Nat) (xs : Nat → Int32) : ∀ a k, a ≤ hN (K147 L xs) → (a, k) ∉ W147 → hR (K149 L xs) a k = hR (K147 L xs) a k := fun a k h hw => (er_148 L xs a k (by rw [hn_147] at h; rw [hn_148]; omega) hw).trans (hR_nC' h)
def W146 : List (Nat × Nat) := (33, 58) :: W147
theorem er_146 (L : Nat) (xs : Nat → Int32) : ∀ a k, a ≤ hN (K146 L xs) → (a, k) ∉ W146 → hR (K149 L xs) a k = hR (K146 L xs) a k := fun a k h hw => (er_147 L xs a k h (fun q => hw (List.mem_cons_of_mem _ q))).trans (if_neg (fun q => hw (by rw [q.1, q.2]; exact List.mem_cons_self)))
abbrev W145 : List (Nat × Nat) := W146
theorem er_145 (L : Nat) (xs : Nat → Int32) : ∀ a k, a ≤ hN (K145 L xs) → (a, k) ∉ W145 → hR (K149 L xs) a k = hR (K145 L xs) a k := fun a k h hw => (er_146 L xs a k (by rw [hn_145] at h; rw [hn_146]; omega) hw).trans (hR_nC' h)
def W144 : List (Nat × Nat) := (33, 57) :: W145
theorem er_144 (L : Nat) (xs : Nat → Int32) : ∀ a k, a ≤ hN (K144 L xs) → (a, k) ∉ W144 → hR (K149 L xs) a k = hR (K144 L xs) a k := fun a k h hw => (er_145 L xs a k h (fun q => hw (List.mem_cons_of_mem _ q))).trans (if_neg (fun q => hw (by rw [q.1, q.2]; exact List.mem_cons_self)))
abbrev W143 : List (Nat × Nat) := W144
theorem er_143 (L : Nat) (xs : Nat → Int32) : ∀ a k, a ≤ hN (K143 L xs) → (a, k) ∉ W143 → hR (K149 L xs) a k = hR (K143 L xs) a k := fun a k h hw => (er_144 L xs a k (by rw [hn_143] at h; rw [hn_144]; omega) hw).trans (hR_nC' h)
def W142 : List (Nat × Nat) := (33, 56) :: W143
theorem er_142 (L : Nat) (xs : Nat → Int32) : ∀ a k, a ≤ hN (K142 L xs) → (a, k) ∉ W142 → hR (K149 L xs) a k = hR (K142 L xs) a k := fun a k h hw => (er_143 L xs a k h (fun q => hw (List.mem_cons_of_mem _ q))).trans (if_neg (fun q => hw (by rw [q.1, q.2]; exact List.mem_cons_self)))
abbrev W141 : List (Nat × Nat) := W142
theorem er_141 (L : Nat) (xs : Nat → Int32) : ∀ a k, a ≤ hN (K141 L xs) → (a, k) ∉ W141 → hR (K149 L xs) a k = hR (K141 L xs) a k := fun a k h hw => (er_142 L xs a k (by rw [hn_141] at h; rw [hn_142]; omega) hw).trans (hR_nC' h)
def W140 : List (Nat × Nat) := (33, 55) :: W141
theorem er_140 (L : Nat) (xs : Nat → Int32) : ∀ a k, a ≤ hN (K140 L xs) → (a, k) ∉ W140 → hR (K149 L xs) a k = hR (K140 L xs) a k := fun a k h hw => (er_141 L xs a k h (fun q => hw (List.mem_cons_of_mem _ q))).trans (if_neg (fun q => hw (by rw [q.1, q.2]; exact List.mem_cons_self)))
abbrev W139 : List (Nat × Nat) := W140
theorem er_139 (L : Nat) (xs : Nat → Int32) : ∀ a k, a ≤ hN (K139 L xs) → (a, k) ∉ W139 → hR (K149 L xs) a k = hR (K139 L xs) a k := fun a k h hw => (er_140 L xs a k (by rw [hn_139] at h; rw [hn_140]; omega) hw).trans (hR_nC' h)
def W138 : List (Nat × Nat) := (33, 53) :: W139
theorem er_138 (L : Nat) (xs : Nat → Int32) : ∀ a k, a ≤ hN (K138 L xs) → (a, k) ∉ W138 → hR (K149 L xs) a k = hR (K138 L xs) a k := fun a k h hw => (er_139 L xs a k h (fun q => hw (List.mem_cons_of_mem _ q))).trans (if_neg (fun q => hw (by rw [q.1, q.2]; exact List.mem_cons_self)))
abbrev W137 : List (Nat × Nat) := W138
theorem er_137 (L : Nat) (xs : Nat → Int32) : ∀ a k, a ≤ hN (K137 L xs) → (a, k) ∉ W137 → hR (K149 L xs) a k = hR (K137 L xs) a k := fun a k h hw => (er_138 L xs a k (by rw [hn_137] at h; rw [hn_138]; omega) hw).trans (hR_nC' h)
def W136 : List (Nat × Nat) := (33, 52) :: W137
theorem er_136 (L : Nat) (xs : Nat → Int32) : ∀ a k, a ≤ hN (K136 L xs) → (a, k) ∉ W136 → hR (K149 L xs) a k = hR (K136 L xs) a k := fun a k h hw => (er_137 L xs a k h (fun q => hw (List.mem_cons_of_mem _ q))).trans (if_neg (fun q => hw (by rw [q.1, q.2]; exact List.mem_cons_self)))
abbrev W135 : List (Nat × Nat) := W136
theorem er_135 (L : Nat) (xs : Nat → Int32) : ∀ a k, a ≤ hN (K135 L xs) → (a, k) ∉ W135 → hR (K149 L xs) a k = hR (K135 L xs) a k := fun a k h hw => (er_136 L xs a k (by rw [hn_135] at h; rw [hn_136]; omega) hw).trans (hR_nC' h)
def W134 : List (Nat × Nat) := (33, 49) :: W135
theorem er_134 (L : Nat) (xs : Nat → Int32) : ∀ a k, a ≤ hN (K134 L xs) → (a, k) ∉ W134 → hR (K149 L xs) a k = hR (K134 L xs) a k := fun a k h hw => (er_135 L xs a k h (fun q => hw (List.mem_cons_of_mem _ q))).trans (if_neg (fun q => hw (by rw [q.1, q.2]; exact List.mem_cons_self)))
abbrev W133 : List (Nat × Nat) := W134
theorem er_133 (L : Nat) (xs : Nat → Int32) : ∀ a k, a ≤ hN (K133 L xs) → (a, k) ∉ W133 → hR (K149 L xs) a k = hR (K133 L xs) a k := fun a k h hw => (er_134 L xs a k (by rw [hn_133] at h; rw [hn_134]; omega) hw).trans (hR_nC' h)
abbrev W132 : List (Nat × Nat) := W133
theorem er_132 (L : Nat) (xs : Nat → Int32) : ∀ a k, a ≤ hN (K132 L xs) → (a, k) ∉ W132 → hR (K149 L xs) a k = hR (K132 L xs) a k := fun a k h hw => er_133 L xs a k h hw
def W131 : List (Nat × Nat) := (33, 39) :: W132
theorem er_131 (L : Nat) (xs : Nat → Int32) : ∀ a k, a ≤ hN (K131 L xs) → (a, k) ∉ W131 → hR (K149 L xs) a k = hR (K131 L xs) a k := fun a k h hw => (er_132 L xs a k h (fun q => hw (List.mem_cons_of_mem _ q))).trans (if_neg (fun q => hw (by rw [q.1, q.2]; exact List.mem_cons_self)))
abbrev W130 : List (Nat × Nat) := W131
theorem er_130 (L : Nat) (xs : Nat → Int32) : ∀ a k, a ≤ hN (K130 L xs) → (a, k) ∉ W130 → hR (K149 L xs) a k = hR (K130 L xs) a k := fun a k h hw => (er_131 L xs a k (by rw [hn_130] at h; rw [hn_131]; omega) hw).trans (hR_nC' h)
def W129 : List (Nat × Nat) := (33, 35) :: W130
theorem er_129 (L : Nat) (xs : Nat → Int32) : ∀ a k, a ≤ hN (K129 L xs) → (a, k) ∉ W129 → hR (K149 L xs) a k = hR (K129 L xs) a k := fun a k h hw => (er_130 L xs a k h (fun q => hw (List.mem_cons_of_mem _ q))).trans (if_neg (fun q => hw (by rw [q.1, q.2]; exact List.mem_cons_self)))
abbrev W128 : List (Nat × Nat) := W129
theorem er_128 (L : Nat) (xs : Nat → Int32) : ∀ a k, a ≤ hN (K128 L xs) → (a, k) ∉ W128 → hR (K149 L xs) a k = hR (K128 L xs) a k := fun a k h hw => (er_129 L xs a k (by rw [hn_128] at h; rw [hn_129]; omega) hw).trans (hR_nC' h)
def W127 : List (Nat × Nat) := (33, 34) :: W128
theorem er_127 (L : Nat) (xs : Nat → Int32) : ∀ a k, a ≤ hN (K127 L xs) → (a, k) ∉ W127 → hR (K149 L xs) a k = hR (K127 L xs) a k := fun a k h hw => (er_128 L xs a k h (fun q => hw (List.mem_cons_of_mem _ q))).trans (if_neg (fun q => hw (by rw [q.1, q.2]; exact List.mem_cons_self)))
abbrev W126 : List (Nat × Nat) := W127
theorem er_126 (L : Nat) (xs : Nat → Int32) : ∀ a k, a ≤ hN (K126 L xs) → (a, k) ∉ W126 → hR (K149 L xs) a k = hR (K126 L xs) a k := fun a k h hw => (er_127 L xs a k (by rw [hn_126] at h; rw [hn_127]; omega) hw).trans (hR_nC' h)
def W125 : List (Nat × Nat) := (33, 33) :: W126
theorem er_125 (L : Nat) (xs : Nat → Int32) : ∀ a k, a ≤ hN (K125 L xs) → (a, k) ∉ W125 → hR (K149 L xs) a k = hR (K125 L xs) a k := fun a k h hw => (er_126 L xs a k h (fun q => hw (List.mem_cons_of_mem _ q))).trans (if_neg (fun q => hw (by rw [q.1, q.2]; exact List.mem_cons_self)))
abbrev W124 : List (Nat × Nat) := W125
theorem er_124 (L : Nat) (xs : Nat → Int32) : ∀ a k, a ≤ hN (K124 L xs) → (a, k) ∉ W124 → hR (K149 L xs) a k = hR (K124 L xs) a k := fun a k h hw => (er_125 L xs a k (by rw [hn_124] at h; rw [hn_125]; omega) hw).trans (hR_nC' h)
def W123 : List (Nat × Nat) := (33, 32) :: W124
theorem er_123 (L : Nat) (xs : Nat → Int32) : ∀ a k, a ≤ hN (K123 L xs) → (a, k) ∉ W123 → hR (K149 L xs) a k = hR (K123 L xs) a k := fun a k h hw => (er_124 L xs a k h (fun q => hw (List.mem_cons_of_mem _ q))).trans (if_neg (fun q => hw (by rw [q.1, q.2]; exact List.mem_cons_self)))
abbrev W122 : List (Nat × Nat) := W123
theorem er_122 (L : Nat) (xs : Nat → Int32) : ∀ a k, a ≤ hN (K122 L xs) → (a, k) ∉ W122 → hR (K149 L xs) a k = hR (K122 L xs) a k := fun a k h hw => (er_123 L xs a k (by rw [hn_122] at h; rw [hn_123]; omega) hw).trans (hR_nC' h)
def W121 : List (Nat × Nat) := (33, 31) :: W122
theorem er_121 (L : Nat) (xs : Nat → Int32) : ∀ a k, a ≤ hN (K121 L xs) → (a, k) ∉ W121 → hR (K149 L xs) a k = hR (K121 L xs) a k := fun a k h hw => (er_122 L xs a k h (fun q => hw (List.mem_cons_of_mem _ q))).trans (if_neg (fun q => hw (by rw [q.1, q.2]; exact List.mem_cons_self)))
abbrev W120 : List (Nat × Nat) := W121
theorem er_120 (L : Nat) (xs : Nat → Int32) : ∀ a k, a ≤ hN (K120 L xs) → (a, k) ∉ W120 → hR (K149 L xs) a k = hR (K120 L xs) a k := fun a k h hw => (er_121 L xs a k (by rw [hn_120] at h; rw [hn_121]; omega) hw).trans (hR_nC' h)
def W119 : List (Nat × Nat) := (33, 30) :: W120
theorem er_119 (L : Nat) (xs : Nat → Int32) : ∀ a k, a ≤ hN (K119 L xs) → (a, k) ∉ W119 → hR (K149 L xs) a k = hR (K119 L xs) a k := fun a k h hw => (er_120 L xs a k h (fun q => hw (List.mem_cons_of_mem _ q))).trans (if_neg (fun q => hw (by rw [q.1, q.2]; exact List.mem_cons_self)))
abbrev W118 : List (Nat × Nat) := W119
theorem er_118 (L : Nat) (xs : Nat → Int32) : ∀ a k, a ≤ hN (K118 L xs) → (a, k) ∉ W118 → hR (K149 L xs) a k = hR (K118 L xs) a k := fun a k h hw => (er_119 L xs a k (by rw [hn_118] at h; rw [hn_119]; omega) hw).trans (hR_nC' h)
def W117 : List (Nat × Nat) := (33, 29) :: W118
theorem er_117 (L : Nat) (xs : Nat → Int32) : ∀ a k, a ≤ hN (K117 L xs) → (a, k) ∉ W117 → hR (K149 L xs) a k = hR (K117 L xs) a k := fun a k h hw => (er_118 L xs a k h (fun q => hw (List.mem_cons_of_mem _ q))).trans (if_neg (fun q => hw (by rw [q.1, q.2]; exact List.mem_cons_self)))
abbrev W116 : List (Nat × Nat) := W117
theorem er_116 (L : Nat) (xs : Nat → Int32) : ∀ a k, a ≤ hN (K116 L xs) → (a, k) ∉ W116 → hR (K149 L xs) a k = hR (K116 L xs) a k := fun a k h hw => (er_117 L xs a k (by rw [hn_116] at h; rw [hn_117]; omega) hw).trans (hR_nC' h)
def W115 : List (Nat × Nat) := (33, 28) :: W116
theorem er_115 (L : Nat) (xs : Nat → Int32) : ∀ a k, a ≤ hN (K115 L xs) → (a, k) ∉ W115 → hR (K149 L xs) a k = hR (K115 L xs) a k := fun a k h hw => (er_116 L xs a k h (fun q => hw (List.mem_cons_of_mem _ q))).trans (if_neg (fun q => hw (by rw [q.1, q.2]; exact List.mem_cons_self)))
abbrev W114 : List (Nat × Nat) := W115
theorem er_114 (L : Nat) (xs : Nat → Int32) : ∀ a k, a ≤ hN (K114 L xs) → (a, k) ∉ W114 → hR (K149 L xs) a k = hR (K114 L xs) a k := fun a k h hw => (er_115 L xs a k (by rw [hn_114] at h; rw [hn_115]; omega) hw).trans (hR_nC' h)
def W113 : List (Nat × Nat) := (33, 27) :: W114
theorem er_113 (L : Nat) (xs : Nat → Int32) : ∀ a k, a ≤ hN (K113 L xs) → (a, k) ∉ W113 → hR (K149 L xs) a k = hR (K113 L xs) a k := fun a k h hw => (er_114 L xs a k h (fun q => hw (List.mem_cons_of_mem _ q))).trans (if_neg (fun q => hw (by rw [q.1, q.2]; exact List.mem_cons_self)))
abbrev W112 : List (Nat × Nat) := W113
theorem er_112 (L : Nat) (xs : Nat → Int32) : ∀ a k, a ≤ hN (K112 L xs) → (a, k) ∉ W112 → hR (K149 L xs) a k = hR (K112 L xs) a k := fun a k h hw => (er_113 L xs a k (by rw [hn_112] at h; rw [hn_113]; omega) hw).trans (hR_nC' h)
def W111 : List (Nat × Nat) := (33, 23) :: W112
theorem er_111 (L : Nat) (xs : Nat → Int32) : ∀ a k, a ≤ hN (K111 L xs) → (a, k) ∉ W111 → hR (K149 L xs) a k = hR (K111 L xs) a k := fun a k h hw => (er_112 L xs a k h (fun q => hw (List.mem_cons_of_mem _ q))).trans (if_neg (fun q => hw (by rw [q.1, q.2]; exact List.mem_cons_self)))
abbrev W110 : List (Nat × Nat) := W111
theorem er_110 (L : Nat) (xs : Nat → Int32) : ∀ a k, a ≤ hN (K110 L xs) → (a, k) ∉ W110 → hR (K149 L xs) a k = hR (K110 L xs) a k := fun a k h hw => (er_111 L xs a k (by rw [hn_110] at h; rw [hn_111]; omega) hw).trans (hR_nC' h)
def W109 : List (Nat × Nat) := (33, 22) :: W110
theorem er_109 (L : Nat) (xs : Nat → Int32) : ∀ a k, a ≤ hN (K109 L xs) → (a, k) ∉ W109 → hR (K149 L xs) a k = hR (K109 L xs) a k := fun a k h hw => (er_110 L xs a k h (fun q => hw (List.mem_cons_of_mem _ q))).trans (if_neg (fun q => hw (by rw [q.1, q.2]; exact List.mem_cons_self)))
abbrev W108 : List (Nat × Nat) := W109
theorem er_108 (L : Nat) (xs : Nat → Int32) : ∀ a k, a ≤ hN (K108 L xs) → (a, k) ∉ W108 → hR (K149 L xs) a k = hR (K108 L xs) a k := fun a k h hw => (er_109 L xs a k (by rw [hn_108] at h; rw [hn_109]; omega) hw).trans (hR_nC' h)
def W107 : List (Nat × Nat) := (33, 21) :: W108
theorem er_107 (L : Nat) (xs : Nat → Int32) : ∀ a k, a ≤ hN (K107 L xs) → (a, k) ∉ W107 → hR (K149 L xs) a k = hR (K107 L xs) a k := fun a k h hw => (er_108 L xs a k h (fun q => hw (List.mem_cons_of_mem _ q))).trans (if_neg (fun q => hw (by rw [q.1, q.2]; exact List.mem_cons_self)))
abbrev W106 : List (Nat × Nat) := W107
theorem er_106 (L : Nat) (xs : Nat → Int32) : ∀ a k, a ≤ hN (K106 L xs) → (a, k) ∉ W106 → hR (K149 L xs) a k = hR (K106 L xs) a k := fun a k h hw => (er_107 L xs a k (by rw [hn_106] at h; rw [hn_107]; omega) hw).trans (hR_nC' h)
def W105 : List (Nat × Nat) := (33, 20) :: W106
theorem er_105 (L : Nat) (xs : Nat → Int32) : ∀ a k, a ≤ hN (K105 L xs) → (a, k) ∉ W105 → hR (K149 L xs) a k = hR (K105 L xs) a k := fun a k h hw => (er_106 L xs a k h (fun q => hw (List.mem_cons_of_mem _ q))).trans (if_neg (fun q => hw (by rw [q.1, q.2]; exact List.mem_cons_self)))
abbrev W104 : List (Nat × Nat) := W105
theorem er_104 (L : Nat) (xs : Nat → Int32) : ∀ a k, a ≤ hN (K104 L xs) → (a, k) ∉ W104 → hR (K149 L xs) a k = hR (K104 L xs) a k := fun a k h hw => (er_105 L xs a k (by rw [hn_104] at h; rw [hn_105]; omega) hw).trans (hR_nC' h)
def W103 : List (Nat × Nat) := (33, 19) :: W104
theorem er_103 (L : Nat) (xs : Nat → Int32) : ∀ a k, a ≤ hN (K103 L xs) → (a, k) ∉ W103 → hR (K149 L xs) a k = hR (K103 L xs) a k := fun a k h hw => (er_104 L xs a k h (fun q => hw (List.mem_cons_of_mem _ q))).trans (if_neg (fun q => hw (by rw [q.1, q.2]; exact List.mem_cons_self)))
abbrev W102 : List (Nat × Nat) := W103
theorem er_102 (L : Nat) (xs : Nat → Int32) : ∀ a k, a ≤ hN (K102 L xs) → (a, k) ∉ W102 → hR (K149 L xs) a k = hR (K102 L xs) a k := fun a k h hw => (er_103 L xs a k (by rw [hn_102] at h; rw [hn_103]; omega) hw).trans (hR_nC' h)
def W101 : List (Nat × Nat) := (33, 18) :: W102
theorem er_101 (L : Nat) (xs : Nat → Int32) : ∀ a k, a ≤ hN (K101 L xs) → (a, k) ∉ W101 → hR (K149 L xs) a k = hR (K101 L xs) a k := fun a k h hw => (er_102 L xs a k h (fun q => hw (List.mem_cons_of_mem _ q))).trans (if_neg (fun q => hw (by rw [q.1, q.2]; exact List.mem_cons_self)))
abbrev W100 : List (Nat × Nat) := W101
theorem er_100 (L : Nat) (xs : Nat → Int32) : ∀ a k, a ≤ hN (K100 L xs) → (a, k) ∉ W100 → hR (K149 L xs) a k = hR (K100 L xs) a k := fun a k h hw => (er_101 L xs a k (by rw [hn_100] at h; rw [hn_101]; omega) hw).trans (hR_nC' h)
def W99 : List (Nat × Nat) := (33, 17) :: W100
theorem er_99 (L : Nat) (xs : Nat → Int32) : ∀ a k, a ≤ hN (K99 L xs) → (a, k) ∉ W99 → hR (K149 L xs) a k = hR (K99 L xs) a k := fun a k h hw => (er_100 L xs a k h (fun q => hw (List.mem_cons_of_mem _ q))).trans (if_neg (fun q => hw (by rw [q.1, q.2]; exact List.mem_cons_self)))
abbrev W98 : List (Nat × Nat) := W99
theorem er_98 (L : Nat) (xs : Nat → Int32) : ∀ a k, a ≤ hN (K98 L xs) → (a, k) ∉ W98 → hR (K149 L xs) a k = hR (K98 L xs) a k := fun a k h hw => (er_99 L xs a k (by rw [hn_98] at h; rw [hn_99]; omega) hw).trans (hR_nC' h)
def W97 : List (Nat × Nat) := (33, 16) :: W98
theorem er_97 (L : Nat) (xs : Nat → Int32) : ∀ a k, a ≤ hN (K97 L xs) → (a, k) ∉ W97 → hR (K149 L xs) a k = hR (K97 L xs) a k := fun a k h hw => (er_98 L xs a k h (fun q => hw (List.mem_cons_of_mem _ q))).trans (if_neg (fun q => hw (by rw [q.1, q.2]; exact List.mem_cons_self)))
abbrev W96 : List (Nat × Nat) := W97
theorem er_96 (L : Nat) (xs : Nat → Int32) : ∀ a k, a ≤ hN (K96 L xs) → (a, k) ∉ W96 → hR (K149 L xs) a k = hR (K96 L xs) a k := fun a k h hw => (er_97 L xs a k (by rw [hn_96] at h; rw [hn_97]; omega) hw).trans (hR_nC' h)
def W95 : List (Nat × Nat) := (33, 15) :: W96
theorem er_95 (L : Nat) (xs : Nat → Int32) : ∀ a k, a ≤ hN (K95 L xs) → (a, k) ∉ W95 → hR (K149 L xs) a k = hR (K95 L xs) a k := fun a k h hw => (er_96 L xs a k h (fun q => hw (List.mem_cons_of_mem _ q))).trans (if_neg (fun q => hw (by rw [q.1, q.2]; exact List.mem_cons_self)))
abbrev W94 : List (Nat × Nat) := W95
theorem er_94 (L : Nat) (xs : Nat → Int32) : ∀ a k, a ≤ hN (K94 L xs) → (a, k) ∉ W94 → hR (K149 L xs) a k = hR (K94 L xs) a k := fun a k h hw => (er_95 L xs a k (by rw [hn_94] at h; rw [hn_95]; omega) hw).trans (hR_nC' h)
def W93 : List (Nat × Nat) := (33, 14) :: W94
theorem er_93 (L : Nat) (xs : Nat → Int32) : ∀ a k, a ≤ hN (K93 L xs) → (a, k) ∉ W93 → hR (K149 L xs) a k = hR (K93 L xs) a k := fun a k h hw => (er_94 L xs a k h (fun q => hw (List.mem_cons_of_mem _ q))).trans (if_neg (fun q => hw (by rw [q.1, q.2]; exact List.mem_cons_self)))
abbrev W92 : List (Nat × Nat) := W93
theorem er_92 (L : Nat) (xs : Nat → Int32) : ∀ a k, a ≤ hN (K92 L xs) → (a, k) ∉ W92 → hR (K149 L xs) a k = hR (K92 L xs) a k := fun a k h hw => (er_93 L xs a k (by rw [hn_92] at h; rw [hn_93]; omega) hw).trans (hR_nC' h)
def W91 : List (Nat × Nat) := (33, 13) :: W92
theorem er_91 (L : Nat) (xs : Nat → Int32) : ∀ a k, a ≤ hN (K91 L xs) → (a, k) ∉ W91 → hR (K149 L xs) a k = hR (K91 L xs) a k := fun a k h hw => (er_92 L xs a k h (fun q => hw (List.mem_cons_of_mem _ q))).trans (if_neg (fun q => hw (by rw [q.1, q.2]; exact List.mem_cons_self)))
abbrev W90 : List (Nat × Nat) := W91
theorem er_90 (L : Nat) (xs : Nat → Int32) : ∀ a k, a ≤ hN (K90 L xs) → (a, k) ∉ W90 → hR (K149 L xs) a k = hR (K90 L xs) a k := fun a k h hw => (er_91 L xs a k (by rw [hn_90] at h; rw [hn_91]; omega) hw).trans (hR_nC' h)
def W89 : List (Nat × Nat) := (33, 12) :: W90
theorem er_89 (L : Nat) (xs : Nat → Int32) : ∀ a k, a ≤ hN (K89 L xs) → (a, k) ∉ W89 → hR (K149 L xs) a k = hR (K89 L xs) a k := fun a k h hw => (er_90 L xs a k h (fun q => hw (List.mem_cons_of_mem _ q))).trans (if_neg (fun q => hw (by rw [q.1, q.2]; exact List.mem_cons_self)))
abbrev W88 : List (Nat × Nat) := W89
theorem er_88 (L : Nat) (xs : Nat → Int32) : ∀ a k, a ≤ hN (K88 L xs) → (a, k) ∉ W88 → hR (K149 L xs) a k = hR (K88 L xs) a k := fun a k h hw => (er_89 L xs a k (by rw [hn_88] at h; rw [hn_89]; omega) hw).trans (hR_nC' h)
def W87 : List (Nat × Nat) := (33, 10) :: W88
theorem er_87 (L : Nat) (xs : Nat → Int32) : ∀ a k, a ≤ hN (K87 L xs) → (a, k) ∉ W87 → hR (K149 L xs) a k = hR (K87 L xs) a k := fun a k h hw => (er_88 L xs a k h (fun q => hw (List.mem_cons_of_mem _ q))).trans (if_neg (fun q => hw (by rw [q.1, q.2]; exact List.mem_cons_self)))
abbrev W86 : List (Nat × Nat) := W87
theorem er_86 (L : Nat) (xs : Nat → Int32) : ∀ a k, a ≤ hN (K86 L xs) → (a, k) ∉ W86 → hR (K149 L xs) a k = hR (K86 L xs) a k := fun a k h hw => (er_87 L xs a k (by rw [hn_86] at h; rw [hn_87]; omega) hw).trans (hR_nC' h)
def W85 : List (Nat × Nat) := (33, 9) :: W86
theorem er_85 (L : Nat) (xs : Nat → Int32) : ∀ a k, a ≤ hN (K85 L xs) → (a, k) ∉ W85 → hR (K149 L xs) a k = hR (K85 L xs) a k := fun a k h hw => (er_86 L xs a k h (fun q => hw (List.mem_cons_of_mem _ q))).trans (if_neg (fun q => hw (by rw [q.1, q.2]; exact List.mem_cons_self)))
abbrev W84 : List (Nat × Nat) := W85
theorem er_84 (L : Nat) (xs : Nat → Int32) : ∀ a k, a ≤ hN (K84 L xs) → (a, k) ∉ W84 → hR (K149 L xs) a k = hR (K84 L xs) a k := fun a k h hw => (er_85 L xs a k (by rw [hn_84] at h; rw [hn_85]; omega) hw).trans (hR_nC' h)
def W83 : List (Nat × Nat) := (33, 8) :: W84
theorem er_83 (L : Nat) (xs : Nat → Int32) : ∀ a k, a ≤ hN (K83 L xs) → (a, k) ∉ W83 → hR (K149 L xs) a k = hR (K83 L xs) a k := fun a k h hw => (er_84 L xs a k h (fun q => hw (List.mem_cons_of_mem _ q))).trans (if_neg (fun q => hw (by rw [q.1, q.2]; exact List.mem_cons_self)))
abbrev W82 : List (Nat × Nat) := W83
theorem er_82 (L : Nat) (xs : Nat → Int32) : ∀ a k, a ≤ hN (K82 L xs) → (a, k) ∉ W82 → hR (K149 L xs) a k = hR (K82 L xs) a k := fun a k h hw => (er_83 L xs a k (by rw [hn_82] at h; rw [hn_83]; omega) hw).trans (hR_nC' h)
def W81 : List (Nat × Nat) := (33, 7) :: W82
theorem er_81 (L : Nat) (xs : Nat → Int32) : ∀ a k, a ≤ hN (K81 L xs) → (a, k) ∉ W81 → hR (K149 L xs) a k = hR (K81 L xs) a k := fun a k h hw => (er_82 L xs a k h (fun q => hw (List.mem_cons_of_mem _ q))).trans (if_neg (fun q => hw (by rw [q.1, q.2]; exact List.mem_cons_self)))
abbrev W80 : List (Nat × Nat) := W81
theorem er_80 (L : Nat) (xs : Nat → Int32) : ∀ a k, a ≤ hN (K80 L xs) → (a, k) ∉ W80 → hR (K149 L xs) a k = hR (K80 L xs) a k := fun a k h hw => (er_81 L xs a k (by rw [hn_80] at h; rw [hn_81]; omega) hw).trans (hR_nC' h)
def W79 : List (Nat × Nat) := (33, 6) :: W80
theorem er_79 (L : Nat) (xs : Nat → Int32) : ∀ a k, a ≤ hN (K79 L xs) → (a, k) ∉ W79 → hR (K149 L xs) a k = hR (K79 L xs) a k := fun a k h hw => (er_80 L xs a k h (fun q => hw (List.mem_cons_of_mem _ q))).trans (if_neg (fun q => hw (by rw [q.1, q.2]; exact List.mem_cons_self)))
abbrev W78 : List (Nat × Nat) := W79
theorem er_78 (L : Nat) (xs : Nat → Int32) : ∀ a k, a ≤ hN (K78 L xs) → (a, k) ∉ W78 → hR (K149 L xs) a k = hR (K78 L xs) a k := fun a k h hw => (er_79 L xs a k (by rw [hn_78] at h; rw [hn_79]; omega) hw).trans (hR_nC' h)
def W77 : List (Nat × Nat) := (33, 5) :: W78
theorem er_77 (L : Nat) (xs : Nat → Int32) : ∀ a k, a ≤ hN (K77 L xs) → (a, k) ∉ W77 → hR (K149 L xs) a k = hR (K77 L xs) a k := fun a k h hw => (er_78 L xs a k h (fun q => hw (List.mem_cons_of_mem _ q))).trans (if_neg (fun q => hw (by rw [q.1, q.2]; exact List.mem_cons_self)))
abbrev W76 : List (Nat × Nat) := W77
theorem er_76 (L : Nat) (xs : Nat → Int32) : ∀ a k, a ≤ hN (K76 L xs) → (a, k) ∉ W76 → hR (K149 L xs) a k = hR (K76 L xs) a k := fun a k h hw => (er_77 L xs a k (by rw [hn_76] at h; rw [hn_77]; omega) hw).trans (hR_nC' h)
abbrev W75 : List (Nat × Nat) := W76
theorem er_75 (L : Nat) (xs : Nat → Int32) : ∀ a k, a ≤ hN (K75 L xs) → (a, k) ∉ W75 → hR (K149 L xs) a k = hR (K75 L xs) a k := fun a k h hw => er_76 L xs a k h hw
abbrev W74 : List (Nat × Nat) := W75
theorem er_74 (L : Nat) (xs : Nat → Int32) : ∀ a k, a ≤ hN (K74 L xs) → (a, k) ∉ W74 → hR (K149 L xs) a k = hR (K74 L xs) a k := fun a k h hw => er_75 L xs a k h hw
abbrev W73 : List (Nat × Nat) := W74
theorem er_73 (L : Nat) (xs : Nat → Int32) : ∀ a k, a ≤ hN (K73 L xs) → (a, k) ∉ W73 → hR (K149 L xs) a k = hR (K73 L xs) a k := fun a k h hw => er_74 L xs a k h hw
abbrev W72 : List (Nat × Nat) := W73
theorem er_72 (L : Nat) (xs : Nat → Int32) : ∀ a k, a ≤ hN (K72 L xs) → (a, k) ∉ W72 → hR (K149 L xs) a k = hR (K72 L xs) a k := fun a k h hw => (er_73 L xs a k (by rw [hn_72] at h; rw [hn_73]; omega) hw).trans (hR_nC' h)
def W71 : List (Nat × Nat) := (1, 8) :: W72
theorem er_71 (L : Nat) (xs : Nat → Int32) : ∀ a k, a ≤ hN (K71 L xs) → (a, k) ∉ W71 → hR (K149 L xs) a k = hR (K71 L xs) a k := fun a k h hw => (er_72 L xs a k h (fun q => hw (List.mem_cons_of_mem _ q))).trans (if_neg (fun q => hw (by rw [q.1, q.2]; exact List.mem_cons_self)))
def W70 : List (Nat × Nat) := (29, 2) :: W71
theorem er_70 (L : Nat) (xs : Nat → Int32) : ∀ a k, a ≤ hN (K70 L xs) → (a, k) ∉ W70 → hR (K149 L xs) a k = hR (K70 L xs) a k := fun a k h hw => (er_71 L xs a k h (fun q => hw (List.mem_cons_of_mem _ q))).trans (if_neg (fun q => hw (by rw [q.1, q.2]; exact List.mem_cons_self)))
def W69 : List (Nat × Nat) := (29, 1) :: W70
theorem er_69 (L : Nat) (xs : Nat → Int32) : ∀ a k, a ≤ hN (K69 L xs) → (a, k) ∉ W69 → hR (K149 L xs) a k = hR (K69 L xs) a k := fun a k h hw => (er_70 L xs a k h (fun q => hw (List.mem_cons_of_mem _ q))).trans (if_neg (fun q => hw (by rw [q.1, q.2]; exact List.mem_cons_self)))
def W68 : List (Nat × Nat) := (29, 0) :: W69
theorem er_68 (L : Nat) (xs : Nat → Int32) : ∀ a k, a ≤ hN (K68 L xs) → (a, k) ∉ W68 → hR (K149 L xs) a k = hR (K68 L xs) a k := fun a k h hw => (er_69 L xs a k h (fun q => hw (List.mem_cons_of_mem _ q))).trans (if_neg (fun q => hw (by rw [q.1, q.2]; exact List.mem_cons_self)))
abbrev W67 : List (Nat × Nat) := W68
theorem er_67 (L : Nat) (xs : Nat → Int32) : ∀ a k, a ≤ hN (K67 L xs) → (a, k) ∉ W67 → hR (K149 L xs) a k = hR (K67 L xs) a k := fun a k h hw => (er_68 L xs a k (by rw [hn_67] at h; rw [hn_68]; omega) hw).trans (hR_nC' h)
abbrev W66 : List (Nat × Nat) := W67
theorem er_66 (L : Nat) (xs : Nat → Int32) : ∀ a k, a ≤ hN (K66 L xs) → (a, k) ∉ W66 → hR (K149 L xs) a k = hR (K66 L xs) a k := fun a k h hw => (er_67 L xs a k (by rw [hn_66] at h; rw [hn_67]; omega) hw).trans (hR_nC' h)
abbrev W65 : List (Nat × Nat) := W66
theorem er_65 (L : Nat) (xs : Nat → Int32) : ∀ a k, a ≤ hN (K65 L xs) → (a, k) ∉ W65 → hR (K149 L xs) a k = hR (K65 L xs) a k := fun a k h hw => (er_66 L xs a k (by rw [hn_65] at h; rw [hn_66]; omega) hw).trans (hR_nC' h)
abbrev W64 : List (Nat × Nat) := W65
theorem er_64 (L : Nat) (xs : Nat → Int32) : ∀ a k, a ≤ hN (K64 L xs) → (a, k) ∉ W64 → hR (K149 L xs) a k = hR (K64 L xs) a k := fun a k h hw => (er_65 L xs a k (by rw [hn_64] at h; rw [hn_65]; omega) hw).trans (hR_nC' h)
def W63 : List (Nat × Nat) := (1, 7) :: W64
theorem er_63 (L : Nat) (xs : Nat → Int32) : ∀ a k, a ≤ hN (K63 L xs) → (a, k) ∉ W63 → hR (K149 L xs) a k = hR (K63 L xs) a k := fun a k h hw => (er_64 L xs a k h (fun q => hw (List.mem_cons_of_mem _ q))).trans (if_neg (fun q => hw (by rw [q.1, q.2]; exact List.mem_cons_self)))
def W62 : List (Nat × Nat) := (23, 4) :: W63
theorem er_62 (L : Nat) (xs : Nat → Int32) : ∀ a k, a ≤ hN (K62 L xs) → (a, k) ∉ W62 → hR (K149 L xs) a k = hR (K62 L xs) a k := fun a k h hw => (er_63 L xs a k h (fun q => hw (List.mem_cons_of_mem _ q))).trans (if_neg (fun q => hw (by rw [q.1, q.2]; exact List.mem_cons_self)))
abbrev W61 : List (Nat × Nat) := W62
theorem er_61 (L : Nat) (xs : Nat → Int32) : ∀ a k, a ≤ hN (K61 L xs) → (a, k) ∉ W61 → hR (K149 L xs) a k = hR (K61 L xs) a k := fun a k h hw => (er_62 L xs a k (by rw [hn_61] at h; rw [hn_62]; omega) hw).trans (hR_nC' h)
def W60 : List (Nat × Nat) := (23, 3) :: W61
theorem er_60 (L : Nat) (xs : Nat → Int32) : ∀ a k, a ≤ hN (K60 L xs) → (a, k) ∉ W60 → hR (K149 L xs) a k = hR (K60 L xs) a k := fun a k h hw => (er_61 L xs a k h (fun q => hw (List.mem_cons_of_mem _ q))).trans (if_neg (fun q => hw (by rw [q.1, q.2]; exact List.mem_cons_self)))
abbrev W59 : List (Nat × Nat) := W60
theorem er_59 (L : Nat) (xs : Nat → Int32) : ∀ a k, a ≤ hN (K59 L xs) → (a, k) ∉ W59 → hR (K149 L xs) a k = hR (K59 L xs) a k := fun a k h hw => (er_60 L xs a k (by rw [hn_59] at h; rw [hn_60]; omega) hw).trans (hR_nC' h)
def W58 : List (Nat × Nat) := (23, 2) :: W59
theorem er_58 (L : Nat) (xs : Nat → Int32) : ∀ a k, a ≤ hN (K58 L xs) → (a, k) ∉ W58 → hR (K149 L xs) a k = hR (K58 L xs) a k := fun a k h hw => (er_59 L xs a k h (fun q => hw (List.mem_cons_of_mem _ q))).trans (if_neg (fun q => hw (by rw [q.1, q.2]; exact List.mem_cons_self)))
abbrev W57 : List (Nat × Nat) := W58
theorem er_57 (L : Nat) (xs : Nat → Int32) : ∀ a k, a ≤ hN (K57 L xs) → (a, k) ∉ W57 → hR (K149 L xs) a k = hR (K57 L xs) a k := fun a k h hw => (er_58 L xs a k (by rw [hn_57] at h; rw [hn_58]; omega) hw).trans (hR_nC' h)
def W56 : List (Nat × Nat) := (23, 1) :: W57
theorem er_56 (L : Nat) (xs : Nat → Int32) : ∀ a k, a ≤ hN (K56 L xs) → (a, k) ∉ W56 → hR (K149 L xs) a k = hR (K56 L xs) a k := fun a k h hw => (er_57 L xs a k h (fun q => hw (List.mem_cons_of_mem _ q))).trans (if_neg (fun q => hw (by rw [q.1, q.2]; exact List.mem_cons_self)))
abbrev W55 : List (Nat × Nat) := W56
theorem er_55 (L : Nat) (xs : Nat → Int32) : ∀ a k, a ≤ hN (K55 L xs) → (a, k) ∉ W55 → hR (K149 L xs) a k = hR (K55 L xs) a k := fun a k h hw => (er_56 L xs a k (by rw [hn_55] at h; rw [hn_56]; omega) hw).trans (hR_nC' h)
def W54 : List (Nat × Nat) := (23, 0) :: W55
theorem er_54 (L : Nat) (xs : Nat → Int32) : ∀ a k, a ≤ hN (K54 L xs) → (a, k) ∉ W54 → hR (K149 L xs) a k = hR (K54 L xs) a k := fun a k h hw => (er_55 L xs a k h (fun q => hw (List.mem_cons_of_mem _ q))).trans (if_neg (fun q => hw (by rw [q.1, q.2]; exact List.mem_cons_self)))
abbrev W53 : List (Nat × Nat) := W54
theorem er_53 (L : Nat) (xs : Nat → Int32) : ∀ a k, a ≤ hN (K53 L xs) → (a, k) ∉ W53 → hR (K149 L xs) a k = hR (K53 L xs) a k := fun a k h hw => (er_54 L xs a k (by rw [hn_53] at h; rw [hn_54]; omega) hw).trans (hR_nC' h)
abbrev W52 : List (Nat × Nat) := W53
theorem er_52 (L : Nat) (xs : Nat → Int32) : ∀ a k, a ≤ hN (K52 L xs) → (a, k) ∉ W52 → hR (K149 L xs) a k = hR (K52 L xs) a k := fun a k h hw => (er_53 L xs a k (by rw [hn_52] at h; rw [hn_53]; omega) hw).trans (hR_nC' h)
def W51 : List (Nat × Nat) := (1, 6) :: W52
theorem er_51 (L : Nat) (xs : Nat → Int32) : ∀ a k, a ≤ hN (K51 L xs) → (a, k) ∉ W51 → hR (K149 L xs) a k = hR (K51 L xs) a k := fun a k h hw => (er_52 L xs a k h (fun q => hw (List.mem_cons_of_mem _ q))).trans (if_neg (fun q => hw (by rw [q.1, q.2]; exact List.mem_cons_self)))
def W50 : List (Nat × Nat) := (20, 1) :: W51
theorem er_50 (L : Nat) (xs : Nat → Int32) : ∀ a k, a ≤ hN (K50 L xs) → (a, k) ∉ W50 → hR (K149 L xs) a k = hR (K50 L xs) a k := fun a k h hw => (er_51 L xs a k h (fun q => hw (List.mem_cons_of_mem _ q))).trans (if_neg (fun q => hw (by rw [q.1, q.2]; exact List.mem_cons_self)))
abbrev W49 : List (Nat × Nat) := W50
theorem er_49 (L : Nat) (xs : Nat → Int32) : ∀ a k, a ≤ hN (K49 L xs) → (a, k) ∉ W49 → hR (K149 L xs) a k = hR (K49 L xs) a k := fun a k h hw => (er_50 L xs a k (by rw [hn_49] at h; rw [hn_50]; omega) hw).trans (hR_nC' h)
def W48 : List (Nat × Nat) := (20, 0) :: W49
theorem er_48 (L : Nat) (xs : Nat → Int32) : ∀ a k, a ≤ hN (K48 L xs) → (a, k) ∉ W48 → hR (K149 L xs) a k = hR (K48 L xs) a k := fun a k h hw => (er_49 L xs a k h (fun q => hw (List.mem_cons_of_mem _ q))).trans (if_neg (fun q => hw (by rw [q.1, q.2]; exact List.mem_cons_self)))
abbrev W47 : List (Nat × Nat) := W48
theorem er_47 (L : Nat) (xs : Nat → Int32) : ∀ a k, a ≤ hN (K47 L xs) → (a, k) ∉ W47 → hR (K149 L xs) a k = hR (K47 L xs) a k := fun a k h hw => (er_48 L xs a k (by rw [hn_47] at h; rw [hn_48]; omega) hw).trans (hR_nC' h)
abbrev W46 : List (Nat × Nat) := W47
theorem er_46 (L : Nat) (xs : Nat → Int32) : ∀ a k, a ≤ hN (K46 L xs) → (a, k) ∉ W46 → hR (K149 L xs) a k = hR (K46 L xs) a k := fun a k h hw => (er_47 L xs a k (by rw [hn_46] at h; rw [hn_47]; omega) hw).trans (hR_nC' h)
def W45 : List (Nat × Nat) := (1, 5) :: W46
theorem er_45 (L : Nat) (xs : Nat → Int32) : ∀ a k, a ≤ hN (K45 L xs) → (a, k) ∉ W45 → hR (K149 L xs) a k = hR (K45 L xs) a k := fun a k h hw => (er_46 L xs a k h (fun q => hw (List.mem_cons_of_mem _ q))).trans (if_neg (fun q => hw (by rw [q.1, q.2]; exact List.mem_cons_self)))
def W44 : List (Nat × Nat) := (16, 0) :: W45
theorem er_44 (L : Nat) (xs : Nat → Int32) : ∀ a k, a ≤ hN (K44 L xs) → (a, k) ∉ W44 → hR (K149 L xs) a k = hR (K44 L xs) a k := fun a k h hw => (er_45 L xs a k h (fun q => hw (List.mem_cons_of_mem _ q))).trans (if_neg (fun q => hw (by rw [q.1, q.2]; exact List.mem_cons_self)))
abbrev W43 : List (Nat × Nat) := W44
theorem er_43 (L : Nat) (xs : Nat → Int32) : ∀ a k, a ≤ hN (K43 L xs) → (a, k) ∉ W43 → hR (K149 L xs) a k = hR (K43 L xs) a k := fun a k h hw => er_44 L xs a k h hw
def W42 : List (Nat × Nat) := (16, 3) :: W43
theorem er_42 (L : Nat) (xs : Nat → Int32) : ∀ a k, a ≤ hN (K42 L xs) → (a, k) ∉ W42 → hR (K149 L xs) a k = hR (K42 L xs) a k := fun a k h hw => (er_43 L xs a k h (fun q => hw (List.mem_cons_of_mem _ q))).trans (if_neg (fun q => hw (by rw [q.1, q.2]; exact List.mem_cons_self)))
abbrev W41 : List (Nat × Nat) := W42
theorem er_41 (L : Nat) (xs : Nat → Int32) : ∀ a k, a ≤ hN (K41 L xs) → (a, k) ∉ W41 → hR (K149 L xs) a k = hR (K41 L xs) a k := fun a k h hw => (er_42 L xs a k (by rw [hn_41] at h; rw [hn_42]; omega) hw).trans (hR_nC' h)
def W40 : List (Nat × Nat) := (16, 2) :: W41
theorem er_40 (L : Nat) (xs : Nat → Int32) : ∀ a k, a ≤ hN (K40 L xs) → (a, k) ∉ W40 → hR (K149 L xs) a k = hR (K40 L xs) a k := fun a k h hw => (er_41 L xs a k h (fun q => hw (List.mem_cons_of_mem _ q))).trans (if_neg (fun q => hw (by rw [q.1, q.2]; exact List.mem_cons_self)))
abbrev W39 : List (Nat × Nat) := W40
theorem er_39 (L : Nat) (xs : Nat → Int32) : ∀ a k, a ≤ hN (K39 L xs) → (a, k) ∉ W39 → hR (K149 L xs) a k = hR (K39 L xs) a k := fun a k h hw => (er_40 L xs a k (by rw [hn_39] at h; rw [hn_40]; omega) hw).trans (hR_nC' h)
def W38 : List (Nat × Nat) := (16, 1) :: W39
theorem er_38 (L : Nat) (xs : Nat → Int32) : ∀ a k, a ≤ hN (K38 L xs) → (a, k) ∉ W38 → hR (K149 L xs) a k = hR (K38 L xs) a k := fun a k h hw => (er_39 L xs a k h (fun q => hw (List.mem_cons_of_mem _ q))).trans (if_neg (fun q => hw (by rw [q.1, q.2]; exact List.mem_cons_self)))
abbrev W37 : List (Nat × Nat) := W38
theorem er_37 (L : Nat) (xs : Nat → Int32) : ∀ a k, a ≤ hN (K37 L xs) → (a, k) ∉ W37 → hR (K149 L xs) a k = hR (K37 L xs) a k := fun a k h hw => (er_38 L xs a k (by rw [hn_37] at h; rw [hn_38]; omega) hw).trans (hR_nC' h)
abbrev W36 : List (Nat × Nat) := W37
theorem er_36 (L : Nat) (xs : Nat → Int32) : ∀ a k, a ≤ hN (K36 L xs) → (a, k) ∉ W36 → hR (K149 L xs) a k = hR (K36 L xs) a k := fun a k h hw => (er_37 L xs a k (by rw [hn_36] at h; rw [hn_37]; omega) hw).trans (hR_nC' h)
def W35 : List (Nat × Nat) := (1, 4) :: W36
theorem er_35 (L : Nat) (xs : Nat → Int32) : ∀ a k, a ≤ hN (K35 L xs) → (a, k) ∉ W35 → hR (K149 L xs) a k = hR (K35 L xs) a k := fun a k h hw => (er_36 L xs a k h (fun q => hw (List.mem_cons_of_mem _ q))).trans (if_neg (fun q => hw (by rw [q.1, q.2]; exact List.mem_cons_self)))
def W34 : List (Nat × Nat) := (14, 0) :: W35
theorem er_34 (L : Nat) (xs : Nat → Int32) : ∀ a k, a ≤ hN (K34 L xs) → (a, k) ∉ W34 → hR (K149 L xs) a k = hR (K34 L xs) a k := fun a k h hw => (er_35 L xs a k h (fun q => hw (List.mem_cons_of_mem _ q))).trans (if_neg (fun q => hw (by rw [q.1, q.2]; exact List.mem_cons_self)))
abbrev W33 : List (Nat × Nat) := W34
theorem er_33 (L : Nat) (xs : Nat → Int32) : ∀ a k, a ≤ hN (K33 L xs) → (a, k) ∉ W33 → hR (K149 L xs) a k = hR (K33 L xs) a k := fun a k h hw => (er_34 L xs a k (by rw [hn_33] at h; rw [hn_34]; omega) hw).trans (hR_nC' h)
abbrev W32 : List (Nat × Nat) := W33
theorem er_32 (L : Nat) (xs : Nat → Int32) : ∀ a k, a ≤ hN (K32 L xs) → (a, k) ∉ W32 → hR (K149 L xs) a k = hR (K32 L xs) a k := fun a k h hw => (er_33 L xs a k (by rw [hn_32] at h; rw [hn_33]; omega) hw).trans (hR_nC' h)
def W31 : List (Nat × Nat) := (1, 3) :: W32
theorem er_31 (L : Nat) (xs : Nat → Int32) : ∀ a k, a ≤ hN (K31 L xs) → (a, k) ∉ W31 → hR (K149 L xs) a k = hR (K31 L xs) a k := fun a k h hw => (er_32 L xs a k h (fun q => hw (List.mem_cons_of_mem _ q))).trans (if_neg (fun q => hw (by rw [q.1, q.2]; exact List.mem_cons_self)))
def W30 : List (Nat × Nat) := (13, 1) :: W31
theorem er_30 (L : Nat) (xs : Nat → Int32) : ∀ a k, a ≤ hN (K30 L xs) → (a, k) ∉ W30 → hR (K149 L xs) a k = hR (K30 L xs) a k := fun a k h hw => (er_31 L xs a k h (fun q => hw (List.mem_cons_of_mem _ q))).trans (if_neg (fun q => hw (by rw [q.1, q.2]; exact List.mem_cons_self)))
def W29 : List (Nat × Nat) := (13, 0) :: W30
theorem er_29 (L : Nat) (xs : Nat → Int32) : ∀ a k, a ≤ hN (K29 L xs) → (a, k) ∉ W29 → hR (K149 L xs) a k = hR (K29 L xs) a k := fun a k h hw => (er_30 L xs a k h (fun q => hw (List.mem_cons_of_mem _ q))).trans (if_neg (fun q => hw (by rw [q.1, q.2]; exact List.mem_cons_self)))
abbrev W28 : List (Nat × Nat) := W29
theorem er_28 (L : Nat) (xs : Nat → Int32) : ∀ a k, a ≤ hN (K28 L xs) → (a, k) ∉ W28 → hR (K149 L xs) a k = hR (K28 L xs) a k := fun a k h hw => (er_29 L xs a k (by rw [hn_28] at h; rw [hn_29]; omega) hw).trans (hR_nC' h)
def W27 : List (Nat × Nat) := (1, 2) :: W28
theorem er_27 (L : Nat) (xs : Nat → Int32) : ∀ a k, a ≤ hN (K27 L xs) → (a, k) ∉ W27 → hR (K149 L xs) a k = hR (K27 L xs) a k := fun a k h hw => (er_28 L xs a k h (fun q => hw (List.mem_cons_of_mem _ q))).trans (if_neg (fun q => hw (by rw [q.1, q.2]; exact List.mem_cons_self)))
def W26 : List (Nat × Nat) := (9, 0) :: W27
theorem er_26 (L : Nat) (xs : Nat → Int32) : ∀ a k, a ≤ hN (K26 L xs) → (a, k) ∉ W26 → hR (K149 L xs) a k = hR (K26 L xs) a k := fun a k h hw => (er_27 L xs a k h (fun q => hw (List.mem_cons_of_mem _ q))).trans (if_neg (fun q => hw (by rw [q.1, q.2]; exact List.mem_cons_self)))
abbrev W25 : List (Nat × Nat) := W26
theorem er_25 (L : Nat) (xs : Nat → Int32) : ∀ a k, a ≤ hN (K25 L xs) → (a, k) ∉ W25 → hR (K149 L xs) a k = hR (K25 L xs) a k := fun a k h hw => er_26 L xs a k h hw
def W24 : List (Nat × Nat) := (9, 3) :: W25
theorem er_24 (L : Nat) (xs : Nat → Int32) : ∀ a k, a ≤ hN (K24 L xs) → (a, k) ∉ W24 → hR (K149 L xs) a k = hR (K24 L xs) a k := fun a k h hw => (er_25 L xs a k h (fun q => hw (List.mem_cons_of_mem _ q))).trans (if_neg (fun q => hw (by rw [q.1, q.2]; exact List.mem_cons_self)))
abbrev W23 : List (Nat × Nat) := W24
theorem er_23 (L : Nat) (xs : Nat → Int32) : ∀ a k, a ≤ hN (K23 L xs) → (a, k) ∉ W23 → hR (K149 L xs) a k = hR (K23 L xs) a k := fun a k h hw => (er_24 L xs a k (by rw [hn_23] at h; rw [hn_24]; omega) hw).trans (hR_nC' h)
def W22 : List (Nat × Nat) := (9, 2) :: W23
theorem er_22 (L : Nat) (xs : Nat → Int32) : ∀ a k, a ≤ hN (K22 L xs) → (a, k) ∉ W22 → hR (K149 L xs) a k = hR (K22 L xs) a k := fun a k h hw => (er_23 L xs a k h (fun q => hw (List.mem_cons_of_mem _ q))).trans (if_neg (fun q => hw (by rw [q.1, q.2]; exact List.mem_cons_self)))
abbrev W21 : List (Nat × Nat) := W22
theorem er_21 (L : Nat) (xs : Nat → Int32) : ∀ a k, a ≤ hN (K21 L xs) → (a, k) ∉ W21 → hR (K149 L xs) a k = hR (K21 L xs) a k := fun a k h hw => (er_22 L xs a k (by rw [hn_21] at h; rw [hn_22]; omega) hw).trans (hR_nC' h)
def W20 : List (Nat × Nat) := (9, 1) :: W21
theorem er_20 (L : Nat) (xs : Nat → Int32) : ∀ a k, a ≤ hN (K20 L xs) → (a, k) ∉ W20 → hR (K149 L xs) a k = hR (K20 L xs) a k := fun a k h hw => (er_21 L xs a k h (fun q => hw (List.mem_cons_of_mem _ q))).trans (if_neg (fun q => hw (by rw [q.1, q.2]; exact List.mem_cons_self)))
abbrev W19 : List (Nat × Nat) := W20
theorem er_19 (L : Nat) (xs : Nat → Int32) : ∀ a k, a ≤ hN (K19 L xs) → (a, k) ∉ W19 → hR (K149 L xs) a k = hR (K19 L xs) a k := fun a k h hw => (er_20 L xs a k (by rw [hn_19] at h; rw [hn_20]; omega) hw).trans (hR_nC' h)
abbrev W18 : List (Nat × Nat) := W19
theorem er_18 (L : Nat) (xs : Nat → Int32) : ∀ a k, a ≤ hN (K18 L xs) → (a, k) ∉ W18 → hR (K149 L xs) a k = hR (K18 L xs) a k := fun a k h hw => (er_19 L xs a k (by rw [hn_18] at h; rw [hn_19]; omega) hw).trans (hR_nC' h)
def W17 : List (Nat × Nat) := (1, 1) :: W18
theorem er_17 (L : Nat) (xs : Nat → Int32) : ∀ a k, a ≤ hN (K17 L xs) → (a, k) ∉ W17 → hR (K149 L xs) a k = hR (K17 L xs) a k := fun a k h hw => (er_18 L xs a k h (fun q => hw (List.mem_cons_of_mem _ q))).trans (if_neg (fun q => hw (by rw [q.1, q.2]; exact List.mem_cons_self)))
abbrev W16 : List (Nat × Nat) := W17
theorem er_16 (L : Nat) (xs : Nat → Int32) : ∀ a k, a ≤ hN (K16 L xs) → (a, k) ∉ W16 → hR (K149 L xs) a k = hR (K16 L xs) a k := fun a k h hw => er_17 L xs a k h hw
def W15 : List (Nat × Nat) := (5, 2) :: W16
theorem er_15 (L : Nat) (xs : Nat → Int32) : ∀ a k, a ≤ hN (K15 L xs) → (a, k) ∉ W15 → hR (K149 L xs) a k = hR (K15 L xs) a k := fun a k h hw => (er_16 L xs a k h (fun q => hw (List.mem_cons_of_mem _ q))).trans (if_neg (fun q => hw (by rw [q.1, q.2]; exact List.mem_cons_self)))
abbrev W14 : List (Nat × Nat) := W15
theorem er_14 (L : Nat) (xs : Nat → Int32) : ∀ a k, a ≤ hN (K14 L xs) → (a, k) ∉ W14 → hR (K149 L xs) a k = hR (K14 L xs) a k := fun a k h hw => (er_15 L xs a k (by rw [hn_14] at h; rw [hn_15]; omega) hw).trans (hR_nC' h)
def W13 : List (Nat × Nat) := (5, 1) :: W14
theorem er_13 (L : Nat) (xs : Nat → Int32) : ∀ a k, a ≤ hN (K13 L xs) → (a, k) ∉ W13 → hR (K149 L xs) a k = hR (K13 L xs) a k := fun a k h hw => (er_14 L xs a k h (fun q => hw (List.mem_cons_of_mem _ q))).trans (if_neg (fun q => hw (by rw [q.1, q.2]; exact List.mem_cons_self)))
abbrev W12 : List (Nat × Nat) := W13
theorem er_12 (L : Nat) (xs : Nat → Int32) : ∀ a k, a ≤ hN (K12 L xs) → (a, k) ∉ W12 → hR (K149 L xs) a k = hR (K12 L xs) a k := fun a k h hw => (er_13 L xs a k (by rw [hn_12] at h; rw [hn_13]; omega) hw).trans (hR_nC' h)
def W11 : List (Nat × Nat) := (5, 0) :: W12
theorem er_11 (L : Nat) (xs : Nat → Int32) : ∀ a k, a ≤ hN (K11 L xs) → (a, k) ∉ W11 → hR (K149 L xs) a k = hR (K11 L xs) a k := fun a k h hw => (er_12 L xs a k h (fun q => hw (List.mem_cons_of_mem _ q))).trans (if_neg (fun q => hw (by rw [q.1, q.2]; exact List.mem_cons_self)))
abbrev W10 : List (Nat × Nat) := W11
theorem er_10 (L : Nat) (xs : Nat → Int32) : ∀ a k, a ≤ hN (K10 L xs) → (a, k) ∉ W10 → hR (K149 L xs) a k = hR (K10 L xs) a k := fun a k h hw => (er_11 L xs a k (by rw [hn_10] at h; rw [hn_11]; omega) hw).trans (hR_nC' h)
abbrev W9 : List (Nat × Nat) := W10
theorem er_9 (L : Nat) (xs : Nat → Int32) : ∀ a k, a ≤ hN (K9 L xs) → (a, k) ∉ W9 → hR (K149 L xs) a k = hR (K9 L xs) a k := fun a k h hw => (er_10 L xs a k (by rw [hn_9] at h; rw [hn_10]; omega) hw).trans (hR_nC' h)
def W8 : List (Nat × Nat) := (1, 0) :: W9
theorem er_8 (L : Nat) (xs : Nat → Int32) : ∀ a k, a ≤ hN (K8 L xs) → (a, k) ∉ W8 → hR (K149 L xs) a k = hR (K8 L xs) a k := fun a k h hw => (er_9 L xs a k h (fun q => hw (List.mem_cons_of_mem _ q))).trans (if_neg (fun q => hw (by rw [q.1, q.2]; exact List.mem_cons_self)))
abbrev W7 : List (Nat × Nat) := W8
theorem er_7 (L : Nat) (xs : Nat → Int32) : ∀ a k, a ≤ hN (K7 L xs) → (a, k) ∉ W7 → hR (K149 L xs) a k = hR (K7 L xs) a k := fun a k h hw => er_8 L xs a k h hw
abbrev W6 : List (Nat × Nat) := W7
theorem er_6 (L : Nat) (xs : Nat → Int32) : ∀ a k, a ≤ hN (K6 L xs) → (a, k) ∉ W6 → hR (K149 L xs) a k = hR (K6 L xs) a k := fun a k h hw => er_7 L xs a k h hw
def W5 : List (Nat × Nat) := (2, 1) :: W6
theorem er_5 (L : Nat) (xs : Nat → Int32) : ∀ a k, a ≤ hN (K5 L xs) → (a, k) ∉ W5 → hR (K149 L xs) a k = hR (K5 L xs) a k := fun a k h hw => (er_6 L xs a k h (fun q => hw (List.mem_cons_of_mem _ q))).trans (if_neg (fun q => hw (by rw [q.1, q.2]; exact List.mem_cons_self)))
abbrev W4 : List (Nat × Nat) := W5
theorem er_4 (L : Nat) (xs : Nat → Int32) : ∀ a k, a ≤ hN (K4 L xs) → (a, k) ∉ W4 → hR (K149 L xs) a k = hR (K4 L xs) a k := fun a k h hw => (er_5 L xs a k (by rw [hn_4] at h; rw [hn_5]; omega) hw).trans (hR_nC' h)
def W3 : List (Nat × Nat) := (2, 0) :: W4
theorem er_3 (L : Nat) (xs : Nat → Int32) : ∀ a k, a ≤ hN (K3 L xs) → (a, k) ∉ W3 → hR (K149 L xs) a k = hR (K3 L xs) a k := fun a k h hw => (er_4 L xs a k h (fun q => hw (List.mem_cons_of_mem _ q))).trans (if_neg (fun q => hw (by rw [q.1, q.2]; exact List.mem_cons_self)))
abbrev W2 : List (Nat × Nat) := W3
theorem er_2 (L : Nat) (xs : Nat → Int32) : ∀ a k, a ≤ hN (K2 L xs) → (a, k) ∉ W2 → hR (K149 L xs) a k = hR (K2 L xs) a k := fun a k h hw => (er_3 L xs a k (by rw [hn_2] at h; rw [hn_3]; omega) hw).trans (hR_nC' h)
abbrev W1 : List (Nat × Nat) := W2
theorem er_1 (L : Nat) (xs : Nat → Int32) : ∀ a k, a ≤ hN (K1 L xs) → (a, k) ∉ W1 → hR (K149 L xs) a k = hR (K1 L xs) a k := fun a k h hw => (er_2 L xs a k (by rw [hn_1] at h; rw [hn_2]; omega) hw).trans (hR_nC' h)
abbrev W0 : List (Nat × Nat) := W1
theorem er_0 (L : Nat) (xs : Nat → Int32) : ∀ a k, a ≤ hN (K0 L xs) → (a, k) ∉ W0 → hR (K149 L xs) a k = hR (K0 L xs) a k := fun a k h hw => (er_1 L xs a k (by rw [hn_0] at h; rw [hn_1]; omega) hw).trans (hR_nC' h)
def Z0 : List (Nat × Nat) := []
theorem ez_0 (L : Nat) (xs : Nat → Int32) : ∀ a k, a ≠ 0 → a ≤ hN (K0 L xs) → (a, k) ∉ Z0 → hI (K0 L xs) a k = 0 := fun a k h h2 => by rw [hn_0] at h2; omega
abbrev Z1 : List (Nat × Nat) := Z0
theorem ez_1 (L : Nat) (xs : Nat → Int32) : ∀ a k, a ≠ 0 → a ≤ hN (K1 L xs) → (a, k) ∉ Z1 → hI (K1 L xs) a k = 0 := fun a k h h2 hw => by
  by_cases q : a = 1
  · subst q; show hI (nC (K0 L xs) 12 9) 1 k = 0; rw [hI_nC, hn_0, show (1 : Nat) = 0 + 1 from rfl, u1_eq]
  · exact (hI_nC' (by rw [hn_1] at h2; rw [hn_0]; omega)).trans (ez_0 L xs a k h (by rw [hn_1] at h2; rw [hn_0]; omega) hw)
abbrev Z2 : List (Nat × Nat) := Z1
theorem ez_2 (L : Nat) (xs : Nat → Int32) : ∀ a k, a ≠ 0 → a ≤ hN (K2 L xs) → (a, k) ∉ Z2 → hI (K2 L xs) a k = 0 := fun a k h h2 hw => by
  by_cases q : a = 2
  · subst q; show hI (nC (K1 L xs) 9 5) 2 k = 0; rw [hI_nC, hn_1, show (2 : Nat) = 1 + 1 from rfl, u1_eq]
  · exact (hI_nC' (by rw [hn_2] at h2; rw [hn_1]; omega)).trans (ez_1 L xs a k h (by rw [hn_2] at h2; rw [hn_1]; omega) hw)
abbrev Z3 : List (Nat × Nat) := Z2
theorem ez_3 (L : Nat) (xs : Nat → Int32) : ∀ a k, a ≠ 0 → a ≤ hN (K3 L xs) → (a, k) ∉ Z3 → hI (K3 L xs) a k = 0 := fun a k h h2 hw => by
  by_cases q : a = 3
  · subst q; show hI (nC (K2 L xs) 24 16) 3 k = 0; rw [hI_nC, hn_2, show (3 : Nat) = 2 + 1 from rfl, u1_eq]
  · exact (hI_nC' (by rw [hn_3] at h2; rw [hn_2]; omega)).trans (ez_2 L xs a k h (by rw [hn_3] at h2; rw [hn_2]; omega) hw)
abbrev Z4 : List (Nat × Nat) := Z3
theorem ez_4 (L : Nat) (xs : Nat → Int32) : ∀ a k, a ≠ 0 → a ≤ hN (K4 L xs) → (a, k) ∉ Z4 → hI (K4 L xs) a k = 0 := fun a k h h2 hw => ez_3 L xs a k h h2 hw
abbrev Z5 : List (Nat × Nat) := Z4
theorem ez_5 (L : Nat) (xs : Nat → Int32) : ∀ a k, a ≠ 0 → a ≤ hN (K5 L xs) → (a, k) ∉ Z5 → hI (K5 L xs) a k = 0 := fun a k h h2 hw => by
  by_cases q : a = 4
  · subst q; show hI (nC (K4 L xs) 20 16) 4 k = 0; rw [hI_nC, hn_4, show (4 : Nat) = 3 + 1 from rfl, u1_eq]
  · exact (hI_nC' (by rw [hn_5] at h2; rw [hn_4]; omega)).trans (ez_4 L xs a k h (by rw [hn_5] at h2; rw [hn_4]; omega) hw)
abbrev Z6 : List (Nat × Nat) := Z5
theorem ez_6 (L : Nat) (xs : Nat → Int32) : ∀ a k, a ≠ 0 → a ≤ hN (K6 L xs) → (a, k) ∉ Z6 → hI (K6 L xs) a k = 0 := fun a k h h2 hw => ez_5 L xs a k h h2 hw
def Z7 : List (Nat × Nat) := (2, 3) :: Z6
theorem ez_7 (L : Nat) (xs : Nat → Int32) : ∀ a k, a ≠ 0 → a ≤ hN (K7 L xs) → (a, k) ∉ Z7 → hI (K7 L xs) a k = 0 := fun a k h h2 hw => (if_neg (fun q => hw (by rw [q.1, q.2]; exact List.mem_cons_self))).trans (ez_6 L xs a k h h2 (fun q => hw (List.mem_cons_of_mem _ q)))
def Z8 : List (Nat × Nat) := (2, 4) :: Z7
theorem ez_8 (L : Nat) (xs : Nat → Int32) : ∀ a k, a ≠ 0 → a ≤ hN (K8 L xs) → (a, k) ∉ Z8 → hI (K8 L xs) a k = 0 := fun a k h h2 hw => (if_neg (fun q => hw (by rw [q.1, q.2]; exact List.mem_cons_self))).trans (ez_7 L xs a k h h2 (fun q => hw (List.mem_cons_of_mem _ q)))
abbrev Z9 : List (Nat × Nat) := Z8
theorem ez_9 (L : Nat) (xs : Nat → Int32) : ∀ a k, a ≠ 0 → a ≤ hN (K9 L xs) → (a, k) ∉ Z9 → hI (K9 L xs) a k = 0 := fun a k h h2 hw => ez_8 L xs a k h h2 hw
abbrev Z10 : List (Nat × Nat) := Z9
theorem ez_10 (L : Nat) (xs : Nat → Int32) : ∀ a k, a ≠ 0 → a ≤ hN (K10 L xs) → (a, k) ∉ Z10 → hI (K10 L xs) a k = 0 := fun a k h h2 hw => by
  by_cases q : a = 5
  · subst q; show hI (nC (K9 L xs) 2 6) 5 k = 0; rw [hI_nC, hn_9, show (5 : Nat) = 4 + 1 from rfl, u1_eq]
  · exact (hI_nC' (by rw [hn_10] at h2; rw [hn_9]; omega)).trans (ez_9 L xs a k h (by rw [hn_10] at h2; rw [hn_9]; omega) hw)
abbrev Z11 : List (Nat × Nat) := Z10
theorem ez_11 (L : Nat) (xs : Nat → Int32) : ∀ a k, a ≠ 0 → a ≤ hN (K11 L xs) → (a, k) ∉ Z11 → hI (K11 L xs) a k = 0 := fun a k h h2 hw => by
  by_cases q : a = 6
  · subst q; show hI (nC (K10 L xs) 20 64) 6 k = 0; rw [hI_nC, hn_10, show (6 : Nat) = 5 + 1 from rfl, u1_eq]
  · exact (hI_nC' (by rw [hn_11] at h2; rw [hn_10]; omega)).trans (ez_10 L xs a k h (by rw [hn_11] at h2; rw [hn_10]; omega) hw)
abbrev Z12 : List (Nat × Nat) := Z11
theorem ez_12 (L : Nat) (xs : Nat → Int32) : ∀ a k, a ≠ 0 → a ≤ hN (K12 L xs) → (a, k) ∉ Z12 → hI (K12 L xs) a k = 0 := fun a k h h2 hw => ez_11 L xs a k h h2 hw
abbrev Z13 : List (Nat × Nat) := Z12
theorem ez_13 (L : Nat) (xs : Nat → Int32) : ∀ a k, a ≠ 0 → a ≤ hN (K13 L xs) → (a, k) ∉ Z13 → hI (K13 L xs) a k = 0 := fun a k h h2 hw => by
  by_cases q : a = 7
  · subst q; show hI (nC (K12 L xs) 25 10) 7 k = 0; rw [hI_nC, hn_12, show (7 : Nat) = 6 + 1 from rfl, u1_eq]
  · exact (hI_nC' (by rw [hn_13] at h2; rw [hn_12]; omega)).trans (ez_12 L xs a k h (by rw [hn_13] at h2; rw [hn_12]; omega) hw)
abbrev Z14 : List (Nat × Nat) := Z13
theorem ez_14 (L : Nat) (xs : Nat → Int32) : ∀ a k, a ≠ 0 → a ≤ hN (K14 L xs) → (a, k) ∉ Z14 → hI (K14 L xs) a k = 0 := fun a k h h2 hw => ez_13 L xs a k h h2 hw
abbrev Z15 : List (Nat × Nat) := Z14
theorem ez_15 (L : Nat) (xs : Nat → Int32) : ∀ a k, a ≠ 0 → a ≤ hN (K15 L xs) → (a, k) ∉ Z15 → hI (K15 L xs) a k = 0 := fun a k h h2 hw => by
  by_cases q : a = 8
  · subst q; show hI (nC (K14 L xs) 20 10) 8 k = 0; rw [hI_nC, hn_14, show (8 : Nat) = 7 + 1 from rfl, u1_eq]
  · exact (hI_nC' (by rw [hn_15] at h2; rw [hn_14]; omega)).trans (ez_14 L xs a k h (by rw [hn_15] at h2; rw [hn_14]; omega) hw)
abbrev Z16 : List (Nat × Nat) := Z15
theorem ez_16 (L : Nat) (xs : Nat → Int32) : ∀ a k, a ≠ 0 → a ≤ hN (K16 L xs) → (a, k) ∉ Z16 → hI (K16 L xs) a k = 0 := fun a k h h2 hw => ez_15 L xs a k h h2 hw
def Z17 : List (Nat × Nat) := (5, 4) :: Z16
theorem ez_17 (L : Nat) (xs : Nat → Int32) : ∀ a k, a ≠ 0 → a ≤ hN (K17 L xs) → (a, k) ∉ Z17 → hI (K17 L xs) a k = 0 := fun a k h h2 hw => (if_neg (fun q => hw (by rw [q.1, q.2]; exact List.mem_cons_self))).trans (ez_16 L xs a k h h2 (fun q => hw (List.mem_cons_of_mem _ q)))
abbrev Z18 : List (Nat × Nat) := Z17
theorem ez_18 (L : Nat) (xs : Nat → Int32) : ∀ a k, a ≠ 0 → a ≤ hN (K18 L xs) → (a, k) ∉ Z18 → hI (K18 L xs) a k = 0 := fun a k h h2 hw => ez_17 L xs a k h h2 hw
abbrev Z19 : List (Nat × Nat) := Z18
theorem ez_19 (L : Nat) (xs : Nat → Int32) : ∀ a k, a ≠ 0 → a ≤ hN (K19 L xs) → (a, k) ∉ Z19 → hI (K19 L xs) a k = 0 := fun a k h h2 hw => by
  by_cases q : a = 9
  · subst q; show hI (nC (K18 L xs) 5 7) 9 k = 0; rw [hI_nC, hn_18, show (9 : Nat) = 8 + 1 from rfl, u1_eq]
  · exact (hI_nC' (by rw [hn_19] at h2; rw [hn_18]; omega)).trans (ez_18 L xs a k h (by rw [hn_19] at h2; rw [hn_18]; omega) hw)
abbrev Z20 : List (Nat × Nat) := Z19
theorem ez_20 (L : Nat) (xs : Nat → Int32) : ∀ a k, a ≠ 0 → a ≤ hN (K20 L xs) → (a, k) ∉ Z20 → hI (K20 L xs) a k = 0 := fun a k h h2 hw => by
  by_cases q : a = 10
  · subst q; show hI (nC (K19 L xs) 23 1024) 10 k = 0; rw [hI_nC, hn_19, show (10 : Nat) = 9 + 1 from rfl, u1_eq]
  · exact (hI_nC' (by rw [hn_20] at h2; rw [hn_19]; omega)).trans (ez_19 L xs a k h (by rw [hn_20] at h2; rw [hn_19]; omega) hw)
abbrev Z21 : List (Nat × Nat) := Z20
theorem ez_21 (L : Nat) (xs : Nat → Int32) : ∀ a k, a ≠ 0 → a ≤ hN (K21 L xs) → (a, k) ∉ Z21 → hI (K21 L xs) a k = 0 := fun a k h h2 hw => ez_20 L xs a k h h2 hw
abbrev Z22 : List (Nat × Nat) := Z21
theorem ez_22 (L : Nat) (xs : Nat → Int32) : ∀ a k, a ≠ 0 → a ≤ hN (K22 L xs) → (a, k) ∉ Z22 → hI (K22 L xs) a k = 0 := fun a k h h2 hw => by
  by_cases q : a = 11
  · subst q; show hI (nC (K21 L xs) 23 1024) 11 k = 0; rw [hI_nC, hn_21, show (11 : Nat) = 10 + 1 from rfl, u1_eq]
  · exact (hI_nC' (by rw [hn_22] at h2; rw [hn_21]; omega)).trans (ez_21 L xs a k h (by rw [hn_22] at h2; rw [hn_21]; omega) hw)
abbrev Z23 : List (Nat × Nat) := Z22
theorem ez_23 (L : Nat) (xs : Nat → Int32) : ∀ a k, a ≠ 0 → a ≤ hN (K23 L xs) → (a, k) ∉ Z23 → hI (K23 L xs) a k = 0 := fun a k h h2 hw => ez_22 L xs a k h h2 hw
abbrev Z24 : List (Nat × Nat) := Z23
theorem ez_24 (L : Nat) (xs : Nat → Int32) : ∀ a k, a ≠ 0 → a ≤ hN (K24 L xs) → (a, k) ∉ Z24 → hI (K24 L xs) a k = 0 := fun a k h h2 hw => by
  by_cases q : a = 12
  · subst q; show hI (nC (K23 L xs) 20 10) 12 k = 0; rw [hI_nC, hn_23, show (12 : Nat) = 11 + 1 from rfl, u1_eq]
  · exact (hI_nC' (by rw [hn_24] at h2; rw [hn_23]; omega)).trans (ez_23 L xs a k h (by rw [hn_24] at h2; rw [hn_23]; omega) hw)
abbrev Z25 : List (Nat × Nat) := Z24
theorem ez_25 (L : Nat) (xs : Nat → Int32) : ∀ a k, a ≠ 0 → a ≤ hN (K25 L xs) → (a, k) ∉ Z25 → hI (K25 L xs) a k = 0 := fun a k h h2 hw => ez_24 L xs a k h h2 hw
def Z26 : List (Nat × Nat) := (9, 4) :: Z25
theorem ez_26 (L : Nat) (xs : Nat → Int32) : ∀ a k, a ≠ 0 → a ≤ hN (K26 L xs) → (a, k) ∉ Z26 → hI (K26 L xs) a k = 0 := fun a k h h2 hw => (if_neg (fun q => hw (by rw [q.1, q.2]; exact List.mem_cons_self))).trans (ez_25 L xs a k h h2 (fun q => hw (List.mem_cons_of_mem _ q)))
abbrev Z27 : List (Nat × Nat) := Z26
theorem ez_27 (L : Nat) (xs : Nat → Int32) : ∀ a k, a ≠ 0 → a ≤ hN (K27 L xs) → (a, k) ∉ Z27 → hI (K27 L xs) a k = 0 := fun a k h h2 hw => ez_26 L xs a k h h2 hw
abbrev Z28 : List (Nat × Nat) := Z27
theorem ez_28 (L : Nat) (xs : Nat → Int32) : ∀ a k, a ≠ 0 → a ≤ hN (K28 L xs) → (a, k) ∉ Z28 → hI (K28 L xs) a k = 0 := fun a k h h2 hw => ez_27 L xs a k h h2 hw
abbrev Z29 : List (Nat × Nat) := Z28
theorem ez_29 (L : Nat) (xs : Nat → Int32) : ∀ a k, a ≠ 0 → a ≤ hN (K29 L xs) → (a, k) ∉ Z29 → hI (K29 L xs) a k = 0 := fun a k h h2 hw => by
  by_cases q : a = 13
  · subst q; show hI (nC (K28 L xs) 11 3) 13 k = 0; rw [hI_nC, hn_28, show (13 : Nat) = 12 + 1 from rfl, u1_eq]
  · exact (hI_nC' (by rw [hn_29] at h2; rw [hn_28]; omega)).trans (ez_28 L xs a k h (by rw [hn_29] at h2; rw [hn_28]; omega) hw)
abbrev Z30 : List (Nat × Nat) := Z29
theorem ez_30 (L : Nat) (xs : Nat → Int32) : ∀ a k, a ≠ 0 → a ≤ hN (K30 L xs) → (a, k) ∉ Z30 → hI (K30 L xs) a k = 0 := fun a k h h2 hw => ez_29 L xs a k h h2 hw
abbrev Z31 : List (Nat × Nat) := Z30
theorem ez_31 (L : Nat) (xs : Nat → Int32) : ∀ a k, a ≠ 0 → a ≤ hN (K31 L xs) → (a, k) ∉ Z31 → hI (K31 L xs) a k = 0 := fun a k h h2 hw => ez_30 L xs a k h h2 hw
abbrev Z32 : List (Nat × Nat) := Z31
theorem ez_32 (L : Nat) (xs : Nat → Int32) : ∀ a k, a ≠ 0 → a ≤ hN (K32 L xs) → (a, k) ∉ Z32 → hI (K32 L xs) a k = 0 := fun a k h h2 hw => ez_31 L xs a k h h2 hw
abbrev Z33 : List (Nat × Nat) := Z32
theorem ez_33 (L : Nat) (xs : Nat → Int32) : ∀ a k, a ≠ 0 → a ≤ hN (K33 L xs) → (a, k) ∉ Z33 → hI (K33 L xs) a k = 0 := fun a k h h2 hw => by
  by_cases q : a = 14
  · subst q; show hI (nC (K32 L xs) 10 2) 14 k = 0; rw [hI_nC, hn_32, show (14 : Nat) = 13 + 1 from rfl, u1_eq]
  · exact (hI_nC' (by rw [hn_33] at h2; rw [hn_32]; omega)).trans (ez_32 L xs a k h (by rw [hn_33] at h2; rw [hn_32]; omega) hw)
abbrev Z34 : List (Nat × Nat) := Z33
theorem ez_34 (L : Nat) (xs : Nat → Int32) : ∀ a k, a ≠ 0 → a ≤ hN (K34 L xs) → (a, k) ∉ Z34 → hI (K34 L xs) a k = 0 := fun a k h h2 hw => by
  by_cases q : a = 15
  · subst q; show hI (nC (K33 L xs) 21 600) 15 k = 0; rw [hI_nC, hn_33, show (15 : Nat) = 14 + 1 from rfl, u1_eq]
  · exact (hI_nC' (by rw [hn_34] at h2; rw [hn_33]; omega)).trans (ez_33 L xs a k h (by rw [hn_34] at h2; rw [hn_33]; omega) hw)
abbrev Z35 : List (Nat × Nat) := Z34
theorem ez_35 (L : Nat) (xs : Nat → Int32) : ∀ a k, a ≠ 0 → a ≤ hN (K35 L xs) → (a, k) ∉ Z35 → hI (K35 L xs) a k = 0 := fun a k h h2 hw => ez_34 L xs a k h h2 hw
abbrev Z36 : List (Nat × Nat) := Z35
theorem ez_36 (L : Nat) (xs : Nat → Int32) : ∀ a k, a ≠ 0 → a ≤ hN (K36 L xs) → (a, k) ∉ Z36 → hI (K36 L xs) a k = 0 := fun a k h h2 hw => ez_35 L xs a k h h2 hw
abbrev Z37 : List (Nat × Nat) := Z36
theorem ez_37 (L : Nat) (xs : Nat → Int32) : ∀ a k, a ≠ 0 → a ≤ hN (K37 L xs) → (a, k) ∉ Z37 → hI (K37 L xs) a k = 0 := fun a k h h2 hw => by
  by_cases q : a = 16
  · subst q; show hI (nC (K36 L xs) 7 13) 16 k = 0; rw [hI_nC, hn_36, show (16 : Nat) = 15 + 1 from rfl, u1_eq]
  · exact (hI_nC' (by rw [hn_37] at h2; rw [hn_36]; omega)).trans (ez_36 L xs a k h (by rw [hn_37] at h2; rw [hn_36]; omega) hw)
abbrev Z38 : List (Nat × Nat) := Z37
theorem ez_38 (L : Nat) (xs : Nat → Int32) : ∀ a k, a ≠ 0 → a ≤ hN (K38 L xs) → (a, k) ∉ Z38 → hI (K38 L xs) a k = 0 := fun a k h h2 hw => by
  by_cases q : a = 17
  · subst q; show hI (nC (K37 L xs) 20 600) 17 k = 0; rw [hI_nC, hn_37, show (17 : Nat) = 16 + 1 from rfl, u1_eq]
  · exact (hI_nC' (by rw [hn_38] at h2; rw [hn_37]; omega)).trans (ez_37 L xs a k h (by rw [hn_38] at h2; rw [hn_37]; omega) hw)
abbrev Z39 : List (Nat × Nat) := Z38
theorem ez_39 (L : Nat) (xs : Nat → Int32) : ∀ a k, a ≠ 0 → a ≤ hN (K39 L xs) → (a, k) ∉ Z39 → hI (K39 L xs) a k = 0 := fun a k h h2 hw => ez_38 L xs a k h h2 hw
abbrev Z40 : List (Nat × Nat) := Z39
theorem ez_40 (L : Nat) (xs : Nat → Int32) : ∀ a k, a ≠ 0 → a ≤ hN (K40 L xs) → (a, k) ∉ Z40 → hI (K40 L xs) a k = 0 := fun a k h h2 hw => by
  by_cases q : a = 18
  · subst q; show hI (nC (K39 L xs) 20 10) 18 k = 0; rw [hI_nC, hn_39, show (18 : Nat) = 17 + 1 from rfl, u1_eq]
  · exact (hI_nC' (by rw [hn_40] at h2; rw [hn_39]; omega)).trans (ez_39 L xs a k h (by rw [hn_40] at h2; rw [hn_39]; omega) hw)
abbrev Z41 : List (Nat × Nat) := Z40
theorem ez_41 (L : Nat) (xs : Nat → Int32) : ∀ a k, a ≠ 0 → a ≤ hN (K41 L xs) → (a, k) ∉ Z41 → hI (K41 L xs) a k = 0 := fun a k h h2 hw => ez_40 L xs a k h h2 hw
abbrev Z42 : List (Nat × Nat) := Z41
theorem ez_42 (L : Nat) (xs : Nat → Int32) : ∀ a k, a ≠ 0 → a ≤ hN (K42 L xs) → (a, k) ∉ Z42 → hI (K42 L xs) a k = 0 := fun a k h h2 hw => by
  by_cases q : a = 19
  · subst q; show hI (nC (K41 L xs) 20 10) 19 k = 0; rw [hI_nC, hn_41, show (19 : Nat) = 18 + 1 from rfl, u1_eq]
  · exact (hI_nC' (by rw [hn_42] at h2; rw [hn_41]; omega)).trans (ez_41 L xs a k h (by rw [hn_42] at h2; rw [hn_41]; omega) hw)
abbrev Z43 : List (Nat × Nat) := Z42
theorem ez_43 (L : Nat) (xs : Nat → Int32) : ∀ a k, a ≠ 0 → a ≤ hN (K43 L xs) → (a, k) ∉ Z43 → hI (K43 L xs) a k = 0 := fun a k h h2 hw => ez_42 L xs a k h h2 hw
def Z44 : List (Nat × Nat) := (16, 12) :: Z43
theorem ez_44 (L : Nat) (xs : Nat → Int32) : ∀ a k, a ≠ 0 → a ≤ hN (K44 L xs) → (a, k) ∉ Z44 → hI (K44 L xs) a k = 0 := fun a k h h2 hw => (if_neg (fun q => hw (by rw [q.1, q.2]; exact List.mem_cons_self))).trans (ez_43 L xs a k h h2 (fun q => hw (List.mem_cons_of_mem _ q)))
abbrev Z45 : List (Nat × Nat) := Z44
theorem ez_45 (L : Nat) (xs : Nat → Int32) : ∀ a k, a ≠ 0 → a ≤ hN (K45 L xs) → (a, k) ∉ Z45 → hI (K45 L xs) a k = 0 := fun a k h h2 hw => ez_44 L xs a k h h2 hw
abbrev Z46 : List (Nat × Nat) := Z45
theorem ez_46 (L : Nat) (xs : Nat → Int32) : ∀ a k, a ≠ 0 → a ≤ hN (K46 L xs) → (a, k) ∉ Z46 → hI (K46 L xs) a k = 0 := fun a k h h2 hw => ez_45 L xs a k h h2 hw
abbrev Z47 : List (Nat × Nat) := Z46
theorem ez_47 (L : Nat) (xs : Nat → Int32) : ∀ a k, a ≠ 0 → a ≤ hN (K47 L xs) → (a, k) ∉ Z47 → hI (K47 L xs) a k = 0 := fun a k h h2 hw => by
  by_cases q : a = 20
  · subst q; show hI (nC (K46 L xs) 8 3) 20 k = 0; rw [hI_nC, hn_46, show (20 : Nat) = 19 + 1 from rfl, u1_eq]
  · exact (hI_nC' (by rw [hn_47] at h2; rw [hn_46]; omega)).trans (ez_46 L xs a k h (by rw [hn_47] at h2; rw [hn_46]; omega) hw)
abbrev Z48 : List (Nat × Nat) := Z47
theorem ez_48 (L : Nat) (xs : Nat → Int32) : ∀ a k, a ≠ 0 → a ≤ hN (K48 L xs) → (a, k) ∉ Z48 → hI (K48 L xs) a k = 0 := fun a k h h2 hw => by
  by_cases q : a = 21
  · subst q; show hI (nC (K47 L xs) 20 100) 21 k = 0; rw [hI_nC, hn_47, show (21 : Nat) = 20 + 1 from rfl, u1_eq]
  · exact (hI_nC' (by rw [hn_48] at h2; rw [hn_47]; omega)).trans (ez_47 L xs a k h (by rw [hn_48] at h2; rw [hn_47]; omega) hw)
abbrev Z49 : List (Nat × Nat) := Z48
theorem ez_49 (L : Nat) (xs : Nat → Int32) : ∀ a k, a ≠ 0 → a ≤ hN (K49 L xs) → (a, k) ∉ Z49 → hI (K49 L xs) a k = 0 := fun a k h h2 hw => ez_48 L xs a k h h2 hw
abbrev Z50 : List (Nat × Nat) := Z49
theorem ez_50 (L : Nat) (xs : Nat → Int32) : ∀ a k, a ≠ 0 → a ≤ hN (K50 L xs) → (a, k) ∉ Z50 → hI (K50 L xs) a k = 0 := fun a k h h2 hw => by
  by_cases q : a = 22
  · subst q; show hI (nC (K49 L xs) 20 6) 22 k = 0; rw [hI_nC, hn_49, show (22 : Nat) = 21 + 1 from rfl, u1_eq]
  · exact (hI_nC' (by rw [hn_50] at h2; rw [hn_49]; omega)).trans (ez_49 L xs a k h (by rw [hn_50] at h2; rw [hn_49]; omega) hw)
abbrev Z51 : List (Nat × Nat) := Z50
theorem ez_51 (L : Nat) (xs : Nat → Int32) : ∀ a k, a ≠ 0 → a ≤ hN (K51 L xs) → (a, k) ∉ Z51 → hI (K51 L xs) a k = 0 := fun a k h h2 hw => ez_50 L xs a k h h2 hw
abbrev Z52 : List (Nat × Nat) := Z51
theorem ez_52 (L : Nat) (xs : Nat → Int32) : ∀ a k, a ≠ 0 → a ≤ hN (K52 L xs) → (a, k) ∉ Z52 → hI (K52 L xs) a k = 0 := fun a k h h2 hw => ez_51 L xs a k h h2 hw
abbrev Z53 : List (Nat × Nat) := Z52
theorem ez_53 (L : Nat) (xs : Nat → Int32) : ∀ a k, a ≠ 0 → a ≤ hN (K53 L xs) → (a, k) ∉ Z53 → hI (K53 L xs) a k = 0 := fun a k h h2 hw => by
  by_cases q : a = 23
  · subst q; show hI (nC (K52 L xs) 1 6) 23 k = 0; rw [hI_nC, hn_52, show (23 : Nat) = 22 + 1 from rfl, u1_eq]
  · exact (hI_nC' (by rw [hn_53] at h2; rw [hn_52]; omega)).trans (ez_52 L xs a k h (by rw [hn_53] at h2; rw [hn_52]; omega) hw)
abbrev Z54 : List (Nat × Nat) := Z53
theorem ez_54 (L : Nat) (xs : Nat → Int32) : ∀ a k, a ≠ 0 → a ≤ hN (K54 L xs) → (a, k) ∉ Z54 → hI (K54 L xs) a k = 0 := fun a k h h2 hw => by
  by_cases q : a = 24
  · subst q; show hI (nC (K53 L xs) 20 40) 24 k = 0; rw [hI_nC, hn_53, show (24 : Nat) = 23 + 1 from rfl, u1_eq]
  · exact (hI_nC' (by rw [hn_54] at h2; rw [hn_53]; omega)).trans (ez_53 L xs a k h (by rw [hn_54] at h2; rw [hn_53]; omega) hw)
abbrev Z55 : List (Nat × Nat) := Z54
theorem ez_55 (L : Nat) (xs : Nat → Int32) : ∀ a k, a ≠ 0 → a ≤ hN (K55 L xs) → (a, k) ∉ Z55 → hI (K55 L xs) a k = 0 := fun a k h h2 hw => ez_54 L xs a k h h2 hw
abbrev Z56 : List (Nat × Nat) := Z55
theorem ez_56 (L : Nat) (xs : Nat → Int32) : ∀ a k, a ≠ 0 → a ≤ hN (K56 L xs) → (a, k) ∉ Z56 → hI (K56 L xs) a k = 0 := fun a k h h2 hw => by
  by_cases q : a = 25
  · subst q; show hI (nC (K55 L xs) 20 40) 25 k = 0; rw [hI_nC, hn_55, show (25 : Nat) = 24 + 1 from rfl, u1_eq]
  · exact (hI_nC' (by rw [hn_56] at h2; rw [hn_55]; omega)).trans (ez_55 L xs a k h (by rw [hn_56] at h2; rw [hn_55]; omega) hw)
abbrev Z57 : List (Nat × Nat) := Z56
theorem ez_57 (L : Nat) (xs : Nat → Int32) : ∀ a k, a ≠ 0 → a ≤ hN (K57 L xs) → (a, k) ∉ Z57 → hI (K57 L xs) a k = 0 := fun a k h h2 hw => ez_56 L xs a k h h2 hw
abbrev Z58 : List (Nat × Nat) := Z57
theorem ez_58 (L : Nat) (xs : Nat → Int32) : ∀ a k, a ≠ 0 → a ≤ hN (K58 L xs) → (a, k) ∉ Z58 → hI (K58 L xs) a k = 0 := fun a k h h2 hw => by
  by_cases q : a = 26
  · subst q; show hI (nC (K57 L xs) 20 40) 26 k = 0; rw [hI_nC, hn_57, show (26 : Nat) = 25 + 1 from rfl, u1_eq]
  · exact (hI_nC' (by rw [hn_58] at h2; rw [hn_57]; omega)).trans (ez_57 L xs a k h (by rw [hn_58] at h2; rw [hn_57]; omega) hw)
abbrev Z59 : List (Nat × Nat) := Z58
theorem ez_59 (L : Nat) (xs : Nat → Int32) : ∀ a k, a ≠ 0 → a ≤ hN (K59 L xs) → (a, k) ∉ Z59 → hI (K59 L xs) a k = 0 := fun a k h h2 hw => ez_58 L xs a k h h2 hw
abbrev Z60 : List (Nat × Nat) := Z59
theorem ez_60 (L : Nat) (xs : Nat → Int32) : ∀ a k, a ≠ 0 → a ≤ hN (K60 L xs) → (a, k) ∉ Z60 → hI (K60 L xs) a k = 0 := fun a k h h2 hw => by
  by_cases q : a = 27
  · subst q; show hI (nC (K59 L xs) 20 40) 27 k = 0; rw [hI_nC, hn_59, show (27 : Nat) = 26 + 1 from rfl, u1_eq]
  · exact (hI_nC' (by rw [hn_60] at h2; rw [hn_59]; omega)).trans (ez_59 L xs a k h (by rw [hn_60] at h2; rw [hn_59]; omega) hw)
abbrev Z61 : List (Nat × Nat) := Z60
theorem ez_61 (L : Nat) (xs : Nat → Int32) : ∀ a k, a ≠ 0 → a ≤ hN (K61 L xs) → (a, k) ∉ Z61 → hI (K61 L xs) a k = 0 := fun a k h h2 hw => ez_60 L xs a k h h2 hw
abbrev Z62 : List (Nat × Nat) := Z61
theorem ez_62 (L : Nat) (xs : Nat → Int32) : ∀ a k, a ≠ 0 → a ≤ hN (K62 L xs) → (a, k) ∉ Z62 → hI (K62 L xs) a k = 0 := fun a k h h2 hw => by
  by_cases q : a = 28
  · subst q; show hI (nC (K61 L xs) 20 40) 28 k = 0; rw [hI_nC, hn_61, show (28 : Nat) = 27 + 1 from rfl, u1_eq]
  · exact (hI_nC' (by rw [hn_62] at h2; rw [hn_61]; omega)).trans (ez_61 L xs a k h (by rw [hn_62] at h2; rw [hn_61]; omega) hw)
abbrev Z63 : List (Nat × Nat) := Z62
theorem ez_63 (L : Nat) (xs : Nat → Int32) : ∀ a k, a ≠ 0 → a ≤ hN (K63 L xs) → (a, k) ∉ Z63 → hI (K63 L xs) a k = 0 := fun a k h h2 hw => ez_62 L xs a k h h2 hw
abbrev Z64 : List (Nat × Nat) := Z63
theorem ez_64 (L : Nat) (xs : Nat → Int32) : ∀ a k, a ≠ 0 → a ≤ hN (K64 L xs) → (a, k) ∉ Z64 → hI (K64 L xs) a k = 0 := fun a k h h2 hw => ez_63 L xs a k h h2 hw
abbrev Z65 : List (Nat × Nat) := Z64
theorem ez_65 (L : Nat) (xs : Nat → Int32) : ∀ a k, a ≠ 0 → a ≤ hN (K65 L xs) → (a, k) ∉ Z65 → hI (K65 L xs) a k = 0 := fun a k h h2 hw => by
  by_cases q : a = 29
  · subst q; show hI (nC (K64 L xs) 6 3) 29 k = 0; rw [hI_nC, hn_64, show (29 : Nat) = 28 + 1 from rfl, u1_eq]
  · exact (hI_nC' (by rw [hn_65] at h2; rw [hn_64]; omega)).trans (ez_64 L xs a k h (by rw [hn_65] at h2; rw [hn_64]; omega) hw)
abbrev Z66 : List (Nat × Nat) := Z65
theorem ez_66 (L : Nat) (xs : Nat → Int32) : ∀ a k, a ≠ 0 → a ≤ hN (K66 L xs) → (a, k) ∉ Z66 → hI (K66 L xs) a k = 0 := fun a k h h2 hw => by
  by_cases q : a = 30
  · subst q; show hI (nC (K65 L xs) 20 0) 30 k = 0; rw [hI_nC, hn_65, show (30 : Nat) = 29 + 1 from rfl, u1_eq]
  · exact (hI_nC' (by rw [hn_66] at h2; rw [hn_65]; omega)).trans (ez_65 L xs a k h (by rw [hn_66] at h2; rw [hn_65]; omega) hw)
abbrev Z67 : List (Nat × Nat) := Z66
theorem ez_67 (L : Nat) (xs : Nat → Int32) : ∀ a k, a ≠ 0 → a ≤ hN (K67 L xs) → (a, k) ∉ Z67 → hI (K67 L xs) a k = 0 := fun a k h h2 hw => by
  by_cases q : a = 31
  · subst q; show hI (nC (K66 L xs) 20 0) 31 k = 0; rw [hI_nC, hn_66, show (31 : Nat) = 30 + 1 from rfl, u1_eq]
  · exact (hI_nC' (by rw [hn_67] at h2; rw [hn_66]; omega)).trans (ez_66 L xs a k h (by rw [hn_67] at h2; rw [hn_66]; omega) hw)
abbrev Z68 : List (Nat × Nat) := Z67
theorem ez_68 (L : Nat) (xs : Nat → Int32) : ∀ a k, a ≠ 0 → a ≤ hN (K68 L xs) → (a, k) ∉ Z68 → hI (K68 L xs) a k = 0 := fun a k h h2 hw => by
  by_cases q : a = 32
  · subst q; show hI (nC (K67 L xs) 20 0) 32 k = 0; rw [hI_nC, hn_67, show (32 : Nat) = 31 + 1 from rfl, u1_eq]
  · exact (hI_nC' (by rw [hn_68] at h2; rw [hn_67]; omega)).trans (ez_67 L xs a k h (by rw [hn_68] at h2; rw [hn_67]; omega) hw)
abbrev Z69 : List (Nat × Nat) := Z68
theorem ez_69 (L : Nat) (xs : Nat → Int32) : ∀ a k, a ≠ 0 → a ≤ hN (K69 L xs) → (a, k) ∉ Z69 → hI (K69 L xs) a k = 0 := fun a k h h2 hw => ez_68 L xs a k h h2 hw
abbrev Z70 : List (Nat × Nat) := Z69
theorem ez_70 (L : Nat) (xs : Nat → Int32) : ∀ a k, a ≠ 0 → a ≤ hN (K70 L xs) → (a, k) ∉ Z70 → hI (K70 L xs) a k = 0 := fun a k h h2 hw => ez_69 L xs a k h h2 hw
abbrev Z71 : List (Nat × Nat) := Z70
theorem ez_71 (L : Nat) (xs : Nat → Int32) : ∀ a k, a ≠ 0 → a ≤ hN (K71 L xs) → (a, k) ∉ Z71 → hI (K71 L xs) a k = 0 := fun a k h h2 hw => ez_70 L xs a k h h2 hw
abbrev Z72 : List (Nat × Nat) := Z71
theorem ez_72 (L : Nat) (xs : Nat → Int32) : ∀ a k, a ≠ 0 → a ≤ hN (K72 L xs) → (a, k) ∉ Z72 → hI (K72 L xs) a k = 0 := fun a k h h2 hw => ez_71 L xs a k h h2 hw
abbrev Z73 : List (Nat × Nat) := Z72
theorem ez_73 (L : Nat) (xs : Nat → Int32) : ∀ a k, a ≠ 0 → a ≤ hN (K73 L xs) → (a, k) ∉ Z73 → hI (K73 L xs) a k = 0 := fun a k h h2 hw => by
  by_cases q : a = 33
  · subst q; show hI (nC (K72 L xs) 13 60) 33 k = 0; rw [hI_nC, hn_72, show (33 : Nat) = 32 + 1 from rfl, u1_eq]
  · exact (hI_nC' (by rw [hn_73] at h2; rw [hn_72]; omega)).trans (ez_72 L xs a k h (by rw [hn_73] at h2; rw [hn_72]; omega) hw)
def Z74 : List (Nat × Nat) := (33, 1) :: Z73
theorem ez_74 (L : Nat) (xs : Nat → Int32) : ∀ a k, a ≠ 0 → a ≤ hN (K74 L xs) → (a, k) ∉ Z74 → hI (K74 L xs) a k = 0 := fun a k h h2 hw => (if_neg (fun q => hw (by rw [q.1, q.2]; exact List.mem_cons_self))).trans (ez_73 L xs a k h h2 (fun q => hw (List.mem_cons_of_mem _ q)))
def Z75 : List (Nat × Nat) := (33, 2) :: Z74
theorem ez_75 (L : Nat) (xs : Nat → Int32) : ∀ a k, a ≠ 0 → a ≤ hN (K75 L xs) → (a, k) ∉ Z75 → hI (K75 L xs) a k = 0 := fun a k h h2 hw => (if_neg (fun q => hw (by rw [q.1, q.2]; exact List.mem_cons_self))).trans (ez_74 L xs a k h h2 (fun q => hw (List.mem_cons_of_mem _ q)))
def Z76 : List (Nat × Nat) := (33, 3) :: Z75
theorem ez_76 (L : Nat) (xs : Nat → Int32) : ∀ a k, a ≠ 0 → a ≤ hN (K76 L xs) → (a, k) ∉ Z76 → hI (K76 L xs) a k = 0 := fun a k h h2 hw => (if_neg (fun q => hw (by rw [q.1, q.2]; exact List.mem_cons_self))).trans (ez_75 L xs a k h h2 (fun q => hw (List.mem_cons_of_mem _ q)))
abbrev Z77 : List (Nat × Nat) := Z76
theorem ez_77 (L : Nat) (xs : Nat → Int32) : ∀ a k, a ≠ 0 → a ≤ hN (K77 L xs) → (a, k) ∉ Z77 → hI (K77 L xs) a k = 0 := fun a k h h2 hw => by
  by_cases q : a = 34
  · subst q; show hI (nC (K76 L xs) 20 16) 34 k = 0; rw [hI_nC, hn_76, show (34 : Nat) = 33 + 1 from rfl, u1_eq]
  · exact (hI_nC' (by rw [hn_77] at h2; rw [hn_76]; omega)).trans (ez_76 L xs a k h (by rw [hn_77] at h2; rw [hn_76]; omega) hw)
abbrev Z78 : List (Nat × Nat) := Z77
theorem ez_78 (L : Nat) (xs : Nat → Int32) : ∀ a k, a ≠ 0 → a ≤ hN (K78 L xs) → (a, k) ∉ Z78 → hI (K78 L xs) a k = 0 := fun a k h h2 hw => ez_77 L xs a k h h2 hw
abbrev Z79 : List (Nat × Nat) := Z78
theorem ez_79 (L : Nat) (xs : Nat → Int32) : ∀ a k, a ≠ 0 → a ≤ hN (K79 L xs) → (a, k) ∉ Z79 → hI (K79 L xs) a k = 0 := fun a k h h2 hw => by
  by_cases q : a = 35
  · subst q; show hI (nC (K78 L xs) 20 16) 35 k = 0; rw [hI_nC, hn_78, show (35 : Nat) = 34 + 1 from rfl, u1_eq]
  · exact (hI_nC' (by rw [hn_79] at h2; rw [hn_78]; omega)).trans (ez_78 L xs a k h (by rw [hn_79] at h2; rw [hn_78]; omega) hw)
abbrev Z80 : List (Nat × Nat) := Z79
theorem ez_80 (L : Nat) (xs : Nat → Int32) : ∀ a k, a ≠ 0 → a ≤ hN (K80 L xs) → (a, k) ∉ Z80 → hI (K80 L xs) a k = 0 := fun a k h h2 hw => ez_79 L xs a k h h2 hw
abbrev Z81 : List (Nat × Nat) := Z80
theorem ez_81 (L : Nat) (xs : Nat → Int32) : ∀ a k, a ≠ 0 → a ≤ hN (K81 L xs) → (a, k) ∉ Z81 → hI (K81 L xs) a k = 0 := fun a k h h2 hw => by
  by_cases q : a = 36
  · subst q; show hI (nC (K80 L xs) 20 16) 36 k = 0; rw [hI_nC, hn_80, show (36 : Nat) = 35 + 1 from rfl, u1_eq]
  · exact (hI_nC' (by rw [hn_81] at h2; rw [hn_80]; omega)).trans (ez_80 L xs a k h (by rw [hn_81] at h2; rw [hn_80]; omega) hw)
abbrev Z82 : List (Nat × Nat) := Z81
theorem ez_82 (L : Nat) (xs : Nat → Int32) : ∀ a k, a ≠ 0 → a ≤ hN (K82 L xs) → (a, k) ∉ Z82 → hI (K82 L xs) a k = 0 := fun a k h h2 hw => ez_81 L xs a k h h2 hw
abbrev Z83 : List (Nat × Nat) := Z82
theorem ez_83 (L : Nat) (xs : Nat → Int32) : ∀ a k, a ≠ 0 → a ≤ hN (K83 L xs) → (a, k) ∉ Z83 → hI (K83 L xs) a k = 0 := fun a k h h2 hw => by
  by_cases q : a = 37
  · subst q; show hI (nC (K82 L xs) 20 16) 37 k = 0; rw [hI_nC, hn_82, show (37 : Nat) = 36 + 1 from rfl, u1_eq]
  · exact (hI_nC' (by rw [hn_83] at h2; rw [hn_82]; omega)).trans (ez_82 L xs a k h (by rw [hn_83] at h2; rw [hn_82]; omega) hw)
abbrev Z84 : List (Nat × Nat) := Z83
theorem ez_84 (L : Nat) (xs : Nat → Int32) : ∀ a k, a ≠ 0 → a ≤ hN (K84 L xs) → (a, k) ∉ Z84 → hI (K84 L xs) a k = 0 := fun a k h h2 hw => ez_83 L xs a k h h2 hw
abbrev Z85 : List (Nat × Nat) := Z84
theorem ez_85 (L : Nat) (xs : Nat → Int32) : ∀ a k, a ≠ 0 → a ≤ hN (K85 L xs) → (a, k) ∉ Z85 → hI (K85 L xs) a k = 0 := fun a k h h2 hw => by
  by_cases q : a = 38
  · subst q; show hI (nC (K84 L xs) 22 16) 38 k = 0; rw [hI_nC, hn_84, show (38 : Nat) = 37 + 1 from rfl, u1_eq]
  · exact (hI_nC' (by rw [hn_85] at h2; rw [hn_84]; omega)).trans (ez_84 L xs a k h (by rw [hn_85] at h2; rw [hn_84]; omega) hw)
abbrev Z86 : List (Nat × Nat) := Z85
theorem ez_86 (L : Nat) (xs : Nat → Int32) : ∀ a k, a ≠ 0 → a ≤ hN (K86 L xs) → (a, k) ∉ Z86 → hI (K86 L xs) a k = 0 := fun a k h h2 hw => ez_85 L xs a k h h2 hw
abbrev Z87 : List (Nat × Nat) := Z86
theorem ez_87 (L : Nat) (xs : Nat → Int32) : ∀ a k, a ≠ 0 → a ≤ hN (K87 L xs) → (a, k) ∉ Z87 → hI (K87 L xs) a k = 0 := fun a k h h2 hw => by
  by_cases q : a = 39
  · subst q; show hI (nC (K86 L xs) 20 64) 39 k = 0; rw [hI_nC, hn_86, show (39 : Nat) = 38 + 1 from rfl, u1_eq]
  · exact (hI_nC' (by rw [hn_87] at h2; rw [hn_86]; omega)).trans (ez_86 L xs a k h (by rw [hn_87] at h2; rw [hn_86]; omega) hw)
abbrev Z88 : List (Nat × Nat) := Z87
theorem ez_88 (L : Nat) (xs : Nat → Int32) : ∀ a k, a ≠ 0 → a ≤ hN (K88 L xs) → (a, k) ∉ Z88 → hI (K88 L xs) a k = 0 := fun a k h h2 hw => ez_87 L xs a k h h2 hw
abbrev Z89 : List (Nat × Nat) := Z88
theorem ez_89 (L : Nat) (xs : Nat → Int32) : ∀ a k, a ≠ 0 → a ≤ hN (K89 L xs) → (a, k) ∉ Z89 → hI (K89 L xs) a k = 0 := fun a k h h2 hw => by
  by_cases q : a = 40
  · subst q; show hI (nC (K88 L xs) 20 10) 40 k = 0; rw [hI_nC, hn_88, show (40 : Nat) = 39 + 1 from rfl, u1_eq]
  · exact (hI_nC' (by rw [hn_89] at h2; rw [hn_88]; omega)).trans (ez_88 L xs a k h (by rw [hn_89] at h2; rw [hn_88]; omega) hw)
abbrev Z90 : List (Nat × Nat) := Z89
theorem ez_90 (L : Nat) (xs : Nat → Int32) : ∀ a k, a ≠ 0 → a ≤ hN (K90 L xs) → (a, k) ∉ Z90 → hI (K90 L xs) a k = 0 := fun a k h h2 hw => ez_89 L xs a k h h2 hw
abbrev Z91 : List (Nat × Nat) := Z90
theorem ez_91 (L : Nat) (xs : Nat → Int32) : ∀ a k, a ≠ 0 → a ≤ hN (K91 L xs) → (a, k) ∉ Z91 → hI (K91 L xs) a k = 0 := fun a k h h2 hw => by
  by_cases q : a = 41
  · subst q; show hI (nC (K90 L xs) 20 10) 41 k = 0; rw [hI_nC, hn_90, show (41 : Nat) = 40 + 1 from rfl, u1_eq]
  · exact (hI_nC' (by rw [hn_91] at h2; rw [hn_90]; omega)).trans (ez_90 L xs a k h (by rw [hn_91] at h2; rw [hn_90]; omega) hw)
abbrev Z92 : List (Nat × Nat) := Z91
theorem ez_92 (L : Nat) (xs : Nat → Int32) : ∀ a k, a ≠ 0 → a ≤ hN (K92 L xs) → (a, k) ∉ Z92 → hI (K92 L xs) a k = 0 := fun a k h h2 hw => ez_91 L xs a k h h2 hw
abbrev Z93 : List (Nat × Nat) := Z92
theorem ez_93 (L : Nat) (xs : Nat → Int32) : ∀ a k, a ≠ 0 → a ≤ hN (K93 L xs) → (a, k) ∉ Z93 → hI (K93 L xs) a k = 0 := fun a k h h2 hw => by
  by_cases q : a = 42
  · subst q; show hI (nC (K92 L xs) 20 10) 42 k = 0; rw [hI_nC, hn_92, show (42 : Nat) = 41 + 1 from rfl, u1_eq]
  · exact (hI_nC' (by rw [hn_93] at h2; rw [hn_92]; omega)).trans (ez_92 L xs a k h (by rw [hn_93] at h2; rw [hn_92]; omega) hw)
abbrev Z94 : List (Nat × Nat) := Z93
theorem ez_94 (L : Nat) (xs : Nat → Int32) : ∀ a k, a ≠ 0 → a ≤ hN (K94 L xs) → (a, k) ∉ Z94 → hI (K94 L xs) a k = 0 := fun a k h h2 hw => ez_93 L xs a k h h2 hw
abbrev Z95 : List (Nat × Nat) := Z94
theorem ez_95 (L : Nat) (xs : Nat → Int32) : ∀ a k, a ≠ 0 → a ≤ hN (K95 L xs) → (a, k) ∉ Z95 → hI (K95 L xs) a k = 0 := fun a k h h2 hw => by
  by_cases q : a = 43
  · subst q; show hI (nC (K94 L xs) 20 10) 43 k = 0; rw [hI_nC, hn_94, show (43 : Nat) = 42 + 1 from rfl, u1_eq]
  · exact (hI_nC' (by rw [hn_95] at h2; rw [hn_94]; omega)).trans (ez_94 L xs a k h (by rw [hn_95] at h2; rw [hn_94]; omega) hw)
abbrev Z96 : List (Nat × Nat) := Z95
theorem ez_96 (L : Nat) (xs : Nat → Int32) : ∀ a k, a ≠ 0 → a ≤ hN (K96 L xs) → (a, k) ∉ Z96 → hI (K96 L xs) a k = 0 := fun a k h h2 hw => ez_95 L xs a k h h2 hw
abbrev Z97 : List (Nat × Nat) := Z96
theorem ez_97 (L : Nat) (xs : Nat → Int32) : ∀ a k, a ≠ 0 → a ≤ hN (K97 L xs) → (a, k) ∉ Z97 → hI (K97 L xs) a k = 0 := fun a k h h2 hw => by
  by_cases q : a = 44
  · subst q; show hI (nC (K96 L xs) 20 10) 44 k = 0; rw [hI_nC, hn_96, show (44 : Nat) = 43 + 1 from rfl, u1_eq]
  · exact (hI_nC' (by rw [hn_97] at h2; rw [hn_96]; omega)).trans (ez_96 L xs a k h (by rw [hn_97] at h2; rw [hn_96]; omega) hw)
abbrev Z98 : List (Nat × Nat) := Z97
theorem ez_98 (L : Nat) (xs : Nat → Int32) : ∀ a k, a ≠ 0 → a ≤ hN (K98 L xs) → (a, k) ∉ Z98 → hI (K98 L xs) a k = 0 := fun a k h h2 hw => ez_97 L xs a k h h2 hw
abbrev Z99 : List (Nat × Nat) := Z98
theorem ez_99 (L : Nat) (xs : Nat → Int32) : ∀ a k, a ≠ 0 → a ≤ hN (K99 L xs) → (a, k) ∉ Z99 → hI (K99 L xs) a k = 0 := fun a k h h2 hw => by
  by_cases q : a = 45
  · subst q; show hI (nC (K98 L xs) 20 10) 45 k = 0; rw [hI_nC, hn_98, show (45 : Nat) = 44 + 1 from rfl, u1_eq]
  · exact (hI_nC' (by rw [hn_99] at h2; rw [hn_98]; omega)).trans (ez_98 L xs a k h (by rw [hn_99] at h2; rw [hn_98]; omega) hw)
abbrev Z100 : List (Nat × Nat) := Z99
theorem ez_100 (L : Nat) (xs : Nat → Int32) : ∀ a k, a ≠ 0 → a ≤ hN (K100 L xs) → (a, k) ∉ Z100 → hI (K100 L xs) a k = 0 := fun a k h h2 hw => ez_99 L xs a k h h2 hw
abbrev Z101 : List (Nat × Nat) := Z100
theorem ez_101 (L : Nat) (xs : Nat → Int32) : ∀ a k, a ≠ 0 → a ≤ hN (K101 L xs) → (a, k) ∉ Z101 → hI (K101 L xs) a k = 0 := fun a k h h2 hw => by
  by_cases q : a = 46
  · subst q; show hI (nC (K100 L xs) 20 10) 46 k = 0; rw [hI_nC, hn_100, show (46 : Nat) = 45 + 1 from rfl, u1_eq]
  · exact (hI_nC' (by rw [hn_101] at h2; rw [hn_100]; omega)).trans (ez_100 L xs a k h (by rw [hn_101] at h2; rw [hn_100]; omega) hw)
abbrev Z102 : List (Nat × Nat) := Z101
theorem ez_102 (L : Nat) (xs : Nat → Int32) : ∀ a k, a ≠ 0 → a ≤ hN (K102 L xs) → (a, k) ∉ Z102 → hI (K102 L xs) a k = 0 := fun a k h h2 hw => ez_101 L xs a k h h2 hw
abbrev Z103 : List (Nat × Nat) := Z102
theorem ez_103 (L : Nat) (xs : Nat → Int32) : ∀ a k, a ≠ 0 → a ≤ hN (K103 L xs) → (a, k) ∉ Z103 → hI (K103 L xs) a k = 0 := fun a k h h2 hw => by
  by_cases q : a = 47
  · subst q; show hI (nC (K102 L xs) 22 10) 47 k = 0; rw [hI_nC, hn_102, show (47 : Nat) = 46 + 1 from rfl, u1_eq]
  · exact (hI_nC' (by rw [hn_103] at h2; rw [hn_102]; omega)).trans (ez_102 L xs a k h (by rw [hn_103] at h2; rw [hn_102]; omega) hw)
abbrev Z104 : List (Nat × Nat) := Z103
theorem ez_104 (L : Nat) (xs : Nat → Int32) : ∀ a k, a ≠ 0 → a ≤ hN (K104 L xs) → (a, k) ∉ Z104 → hI (K104 L xs) a k = 0 := fun a k h h2 hw => ez_103 L xs a k h h2 hw
abbrev Z105 : List (Nat × Nat) := Z104
theorem ez_105 (L : Nat) (xs : Nat → Int32) : ∀ a k, a ≠ 0 → a ≤ hN (K105 L xs) → (a, k) ∉ Z105 → hI (K105 L xs) a k = 0 := fun a k h h2 hw => by
  by_cases q : a = 48
  · subst q; show hI (nC (K104 L xs) 20 6600) 48 k = 0; rw [hI_nC, hn_104, show (48 : Nat) = 47 + 1 from rfl, u1_eq]
  · exact (hI_nC' (by rw [hn_105] at h2; rw [hn_104]; omega)).trans (ez_104 L xs a k h (by rw [hn_105] at h2; rw [hn_104]; omega) hw)
abbrev Z106 : List (Nat × Nat) := Z105
theorem ez_106 (L : Nat) (xs : Nat → Int32) : ∀ a k, a ≠ 0 → a ≤ hN (K106 L xs) → (a, k) ∉ Z106 → hI (K106 L xs) a k = 0 := fun a k h h2 hw => ez_105 L xs a k h h2 hw
abbrev Z107 : List (Nat × Nat) := Z106
theorem ez_107 (L : Nat) (xs : Nat → Int32) : ∀ a k, a ≠ 0 → a ≤ hN (K107 L xs) → (a, k) ∉ Z107 → hI (K107 L xs) a k = 0 := fun a k h h2 hw => by
  by_cases q : a = 49
  · subst q; show hI (nC (K106 L xs) 20 6600) 49 k = 0; rw [hI_nC, hn_106, show (49 : Nat) = 48 + 1 from rfl, u1_eq]
  · exact (hI_nC' (by rw [hn_107] at h2; rw [hn_106]; omega)).trans (ez_106 L xs a k h (by rw [hn_107] at h2; rw [hn_106]; omega) hw)
abbrev Z108 : List (Nat × Nat) := Z107
theorem ez_108 (L : Nat) (xs : Nat → Int32) : ∀ a k, a ≠ 0 → a ≤ hN (K108 L xs) → (a, k) ∉ Z108 → hI (K108 L xs) a k = 0 := fun a k h h2 hw => ez_107 L xs a k h h2 hw
abbrev Z109 : List (Nat × Nat) := Z108
theorem ez_109 (L : Nat) (xs : Nat → Int32) : ∀ a k, a ≠ 0 → a ≤ hN (K109 L xs) → (a, k) ∉ Z109 → hI (K109 L xs) a k = 0 := fun a k h h2 hw => by
  by_cases q : a = 50
  · subst q; show hI (nC (K108 L xs) 20 242) 50 k = 0; rw [hI_nC, hn_108, show (50 : Nat) = 49 + 1 from rfl, u1_eq]
  · exact (hI_nC' (by rw [hn_109] at h2; rw [hn_108]; omega)).trans (ez_108 L xs a k h (by rw [hn_109] at h2; rw [hn_108]; omega) hw)
abbrev Z110 : List (Nat × Nat) := Z109
theorem ez_110 (L : Nat) (xs : Nat → Int32) : ∀ a k, a ≠ 0 → a ≤ hN (K110 L xs) → (a, k) ∉ Z110 → hI (K110 L xs) a k = 0 := fun a k h h2 hw => ez_109 L xs a k h h2 hw
abbrev Z111 : List (Nat × Nat) := Z110
theorem ez_111 (L : Nat) (xs : Nat → Int32) : ∀ a k, a ≠ 0 → a ≤ hN (K111 L xs) → (a, k) ∉ Z111 → hI (K111 L xs) a k = 0 := fun a k h h2 hw => by
  by_cases q : a = 51
  · subst q; show hI (nC (K110 L xs) 20 11) 51 k = 0; rw [hI_nC, hn_110, show (51 : Nat) = 50 + 1 from rfl, u1_eq]
  · exact (hI_nC' (by rw [hn_111] at h2; rw [hn_110]; omega)).trans (ez_110 L xs a k h (by rw [hn_111] at h2; rw [hn_110]; omega) hw)
abbrev Z112 : List (Nat × Nat) := Z111
theorem ez_112 (L : Nat) (xs : Nat → Int32) : ∀ a k, a ≠ 0 → a ≤ hN (K112 L xs) → (a, k) ∉ Z112 → hI (K112 L xs) a k = 0 := fun a k h h2 hw => ez_111 L xs a k h h2 hw
abbrev Z113 : List (Nat × Nat) := Z112
theorem ez_113 (L : Nat) (xs : Nat → Int32) : ∀ a k, a ≠ 0 → a ≤ hN (K113 L xs) → (a, k) ∉ Z113 → hI (K113 L xs) a k = 0 := fun a k h h2 hw => by
  by_cases q : a = 52
  · subst q; show hI (nC (K112 L xs) 20 10) 52 k = 0; rw [hI_nC, hn_112, show (52 : Nat) = 51 + 1 from rfl, u1_eq]
  · exact (hI_nC' (by rw [hn_113] at h2; rw [hn_112]; omega)).trans (ez_112 L xs a k h (by rw [hn_113] at h2; rw [hn_112]; omega) hw)
abbrev Z114 : List (Nat × Nat) := Z113
theorem ez_114 (L : Nat) (xs : Nat → Int32) : ∀ a k, a ≠ 0 → a ≤ hN (K114 L xs) → (a, k) ∉ Z114 → hI (K114 L xs) a k = 0 := fun a k h h2 hw => ez_113 L xs a k h h2 hw
abbrev Z115 : List (Nat × Nat) := Z114
theorem ez_115 (L : Nat) (xs : Nat → Int32) : ∀ a k, a ≠ 0 → a ≤ hN (K115 L xs) → (a, k) ∉ Z115 → hI (K115 L xs) a k = 0 := fun a k h h2 hw => by
  by_cases q : a = 53
  · subst q; show hI (nC (K114 L xs) 20 10) 53 k = 0; rw [hI_nC, hn_114, show (53 : Nat) = 52 + 1 from rfl, u1_eq]
  · exact (hI_nC' (by rw [hn_115] at h2; rw [hn_114]; omega)).trans (ez_114 L xs a k h (by rw [hn_115] at h2; rw [hn_114]; omega) hw)
abbrev Z116 : List (Nat × Nat) := Z115
theorem ez_116 (L : Nat) (xs : Nat → Int32) : ∀ a k, a ≠ 0 → a ≤ hN (K116 L xs) → (a, k) ∉ Z116 → hI (K116 L xs) a k = 0 := fun a k h h2 hw => ez_115 L xs a k h h2 hw
abbrev Z117 : List (Nat × Nat) := Z116
theorem ez_117 (L : Nat) (xs : Nat → Int32) : ∀ a k, a ≠ 0 → a ≤ hN (K117 L xs) → (a, k) ∉ Z117 → hI (K117 L xs) a k = 0 := fun a k h h2 hw => by
  by_cases q : a = 54
  · subst q; show hI (nC (K116 L xs) 20 10) 54 k = 0; rw [hI_nC, hn_116, show (54 : Nat) = 53 + 1 from rfl, u1_eq]
  · exact (hI_nC' (by rw [hn_117] at h2; rw [hn_116]; omega)).trans (ez_116 L xs a k h (by rw [hn_117] at h2; rw [hn_116]; omega) hw)
abbrev Z118 : List (Nat × Nat) := Z117
theorem ez_118 (L : Nat) (xs : Nat → Int32) : ∀ a k, a ≠ 0 → a ≤ hN (K118 L xs) → (a, k) ∉ Z118 → hI (K118 L xs) a k = 0 := fun a k h h2 hw => ez_117 L xs a k h h2 hw
abbrev Z119 : List (Nat × Nat) := Z118
theorem ez_119 (L : Nat) (xs : Nat → Int32) : ∀ a k, a ≠ 0 → a ≤ hN (K119 L xs) → (a, k) ∉ Z119 → hI (K119 L xs) a k = 0 := fun a k h h2 hw => by
  by_cases q : a = 55
  · subst q; show hI (nC (K118 L xs) 20 10) 55 k = 0; rw [hI_nC, hn_118, show (55 : Nat) = 54 + 1 from rfl, u1_eq]
  · exact (hI_nC' (by rw [hn_119] at h2; rw [hn_118]; omega)).trans (ez_118 L xs a k h (by rw [hn_119] at h2; rw [hn_118]; omega) hw)
abbrev Z120 : List (Nat × Nat) := Z119
theorem ez_120 (L : Nat) (xs : Nat → Int32) : ∀ a k, a ≠ 0 → a ≤ hN (K120 L xs) → (a, k) ∉ Z120 → hI (K120 L xs) a k = 0 := fun a k h h2 hw => ez_119 L xs a k h h2 hw
abbrev Z121 : List (Nat × Nat) := Z120
theorem ez_121 (L : Nat) (xs : Nat → Int32) : ∀ a k, a ≠ 0 → a ≤ hN (K121 L xs) → (a, k) ∉ Z121 → hI (K121 L xs) a k = 0 := fun a k h h2 hw => by
  by_cases q : a = 56
  · subst q; show hI (nC (K120 L xs) 20 11) 56 k = 0; rw [hI_nC, hn_120, show (56 : Nat) = 55 + 1 from rfl, u1_eq]
  · exact (hI_nC' (by rw [hn_121] at h2; rw [hn_120]; omega)).trans (ez_120 L xs a k h (by rw [hn_121] at h2; rw [hn_120]; omega) hw)
abbrev Z122 : List (Nat × Nat) := Z121
theorem ez_122 (L : Nat) (xs : Nat → Int32) : ∀ a k, a ≠ 0 → a ≤ hN (K122 L xs) → (a, k) ∉ Z122 → hI (K122 L xs) a k = 0 := fun a k h h2 hw => ez_121 L xs a k h h2 hw
abbrev Z123 : List (Nat × Nat) := Z122
theorem ez_123 (L : Nat) (xs : Nat → Int32) : ∀ a k, a ≠ 0 → a ≤ hN (K123 L xs) → (a, k) ∉ Z123 → hI (K123 L xs) a k = 0 := fun a k h h2 hw => by
  by_cases q : a = 57
  · subst q; show hI (nC (K122 L xs) 20 10) 57 k = 0; rw [hI_nC, hn_122, show (57 : Nat) = 56 + 1 from rfl, u1_eq]
  · exact (hI_nC' (by rw [hn_123] at h2; rw [hn_122]; omega)).trans (ez_122 L xs a k h (by rw [hn_123] at h2; rw [hn_122]; omega) hw)
abbrev Z124 : List (Nat × Nat) := Z123
theorem ez_124 (L : Nat) (xs : Nat → Int32) : ∀ a k, a ≠ 0 → a ≤ hN (K124 L xs) → (a, k) ∉ Z124 → hI (K124 L xs) a k = 0 := fun a k h h2 hw => ez_123 L xs a k h h2 hw
abbrev Z125 : List (Nat × Nat) := Z124
theorem ez_125 (L : Nat) (xs : Nat → Int32) : ∀ a k, a ≠ 0 → a ≤ hN (K125 L xs) → (a, k) ∉ Z125 → hI (K125 L xs) a k = 0 := fun a k h h2 hw => by
  by_cases q : a = 58
  · subst q; show hI (nC (K124 L xs) 20 600) 58 k = 0; rw [hI_nC, hn_124, show (58 : Nat) = 57 + 1 from rfl, u1_eq]
  · exact (hI_nC' (by rw [hn_125] at h2; rw [hn_124]; omega)).trans (ez_124 L xs a k h (by rw [hn_125] at h2; rw [hn_124]; omega) hw)
abbrev Z126 : List (Nat × Nat) := Z125
theorem ez_126 (L : Nat) (xs : Nat → Int32) : ∀ a k, a ≠ 0 → a ≤ hN (K126 L xs) → (a, k) ∉ Z126 → hI (K126 L xs) a k = 0 := fun a k h h2 hw => ez_125 L xs a k h h2 hw
abbrev Z127 : List (Nat × Nat) := Z126
theorem ez_127 (L : Nat) (xs : Nat → Int32) : ∀ a k, a ≠ 0 → a ≤ hN (K127 L xs) → (a, k) ∉ Z127 → hI (K127 L xs) a k = 0 := fun a k h h2 hw => by
  by_cases q : a = 59
  · subst q; show hI (nC (K126 L xs) 20 600) 59 k = 0; rw [hI_nC, hn_126, show (59 : Nat) = 58 + 1 from rfl, u1_eq]
  · exact (hI_nC' (by rw [hn_127] at h2; rw [hn_126]; omega)).trans (ez_126 L xs a k h (by rw [hn_127] at h2; rw [hn_126]; omega) hw)
abbrev Z128 : List (Nat × Nat) := Z127
theorem ez_128 (L : Nat) (xs : Nat → Int32) : ∀ a k, a ≠ 0 → a ≤ hN (K128 L xs) → (a, k) ∉ Z128 → hI (K128 L xs) a k = 0 := fun a k h h2 hw => ez_127 L xs a k h h2 hw
abbrev Z129 : List (Nat × Nat) := Z128
theorem ez_129 (L : Nat) (xs : Nat → Int32) : ∀ a k, a ≠ 0 → a ≤ hN (K129 L xs) → (a, k) ∉ Z129 → hI (K129 L xs) a k = 0 := fun a k h h2 hw => by
  by_cases q : a = 60
  · subst q; show hI (nC (K128 L xs) 20 22) 60 k = 0; rw [hI_nC, hn_128, show (60 : Nat) = 59 + 1 from rfl, u1_eq]
  · exact (hI_nC' (by rw [hn_129] at h2; rw [hn_128]; omega)).trans (ez_128 L xs a k h (by rw [hn_129] at h2; rw [hn_128]; omega) hw)
abbrev Z130 : List (Nat × Nat) := Z129
theorem ez_130 (L : Nat) (xs : Nat → Int32) : ∀ a k, a ≠ 0 → a ≤ hN (K130 L xs) → (a, k) ∉ Z130 → hI (K130 L xs) a k = 0 := fun a k h h2 hw => ez_129 L xs a k h h2 hw
abbrev Z131 : List (Nat × Nat) := Z130
theorem ez_131 (L : Nat) (xs : Nat → Int32) : ∀ a k, a ≠ 0 → a ≤ hN (K131 L xs) → (a, k) ∉ Z131 → hI (K131 L xs) a k = 0 := fun a k h h2 hw => by
  by_cases q : a = 61
  · subst q; show hI (nC (K130 L xs) 20 600) 61 k = 0; rw [hI_nC, hn_130, show (61 : Nat) = 60 + 1 from rfl, u1_eq]
  · exact (hI_nC' (by rw [hn_131] at h2; rw [hn_130]; omega)).trans (ez_130 L xs a k h (by rw [hn_131] at h2; rw [hn_130]; omega) hw)
abbrev Z132 : List (Nat × Nat) := Z131
theorem ez_132 (L : Nat) (xs : Nat → Int32) : ∀ a k, a ≠ 0 → a ≤ hN (K132 L xs) → (a, k) ∉ Z132 → hI (K132 L xs) a k = 0 := fun a k h h2 hw => ez_131 L xs a k h h2 hw
def Z133 : List (Nat × Nat) := (33, 42) :: Z132
theorem ez_133 (L : Nat) (xs : Nat → Int32) : ∀ a k, a ≠ 0 → a ≤ hN (K133 L xs) → (a, k) ∉ Z133 → hI (K133 L xs) a k = 0 := fun a k h h2 hw => (if_neg (fun q => hw (by rw [q.1, q.2]; exact List.mem_cons_self))).trans (ez_132 L xs a k h h2 (fun q => hw (List.mem_cons_of_mem _ q)))
abbrev Z134 : List (Nat × Nat) := Z133
theorem ez_134 (L : Nat) (xs : Nat → Int32) : ∀ a k, a ≠ 0 → a ≤ hN (K134 L xs) → (a, k) ∉ Z134 → hI (K134 L xs) a k = 0 := fun a k h h2 hw => by
  by_cases q : a = 62
  · subst q; show hI (nC (K133 L xs) 20 400) 62 k = 0; rw [hI_nC, hn_133, show (62 : Nat) = 61 + 1 from rfl, u1_eq]
  · exact (hI_nC' (by rw [hn_134] at h2; rw [hn_133]; omega)).trans (ez_133 L xs a k h (by rw [hn_134] at h2; rw [hn_133]; omega) hw)
abbrev Z135 : List (Nat × Nat) := Z134
theorem ez_135 (L : Nat) (xs : Nat → Int32) : ∀ a k, a ≠ 0 → a ≤ hN (K135 L xs) → (a, k) ∉ Z135 → hI (K135 L xs) a k = 0 := fun a k h h2 hw => ez_134 L xs a k h h2 hw
abbrev Z136 : List (Nat × Nat) := Z135
theorem ez_136 (L : Nat) (xs : Nat → Int32) : ∀ a k, a ≠ 0 → a ≤ hN (K136 L xs) → (a, k) ∉ Z136 → hI (K136 L xs) a k = 0 := fun a k h h2 hw => by
  by_cases q : a = 63
  · subst q; show hI (nC (K135 L xs) 20 300) 63 k = 0; rw [hI_nC, hn_135, show (63 : Nat) = 62 + 1 from rfl, u1_eq]
  · exact (hI_nC' (by rw [hn_136] at h2; rw [hn_135]; omega)).trans (ez_135 L xs a k h (by rw [hn_136] at h2; rw [hn_135]; omega) hw)
abbrev Z137 : List (Nat × Nat) := Z136
theorem ez_137 (L : Nat) (xs : Nat → Int32) : ∀ a k, a ≠ 0 → a ≤ hN (K137 L xs) → (a, k) ∉ Z137 → hI (K137 L xs) a k = 0 := fun a k h h2 hw => ez_136 L xs a k h h2 hw
abbrev Z138 : List (Nat × Nat) := Z137
theorem ez_138 (L : Nat) (xs : Nat → Int32) : ∀ a k, a ≠ 0 → a ≤ hN (K138 L xs) → (a, k) ∉ Z138 → hI (K138 L xs) a k = 0 := fun a k h h2 hw => by
  by_cases q : a = 64
  · subst q; show hI (nC (K137 L xs) 20 6) 64 k = 0; rw [hI_nC, hn_137, show (64 : Nat) = 63 + 1 from rfl, u1_eq]
  · exact (hI_nC' (by rw [hn_138] at h2; rw [hn_137]; omega)).trans (ez_137 L xs a k h (by rw [hn_138] at h2; rw [hn_137]; omega) hw)
abbrev Z139 : List (Nat × Nat) := Z138
theorem ez_139 (L : Nat) (xs : Nat → Int32) : ∀ a k, a ≠ 0 → a ≤ hN (K139 L xs) → (a, k) ∉ Z139 → hI (K139 L xs) a k = 0 := fun a k h h2 hw => ez_138 L xs a k h h2 hw
abbrev Z140 : List (Nat × Nat) := Z139
theorem ez_140 (L : Nat) (xs : Nat → Int32) : ∀ a k, a ≠ 0 → a ≤ hN (K140 L xs) → (a, k) ∉ Z140 → hI (K140 L xs) a k = 0 := fun a k h h2 hw => by
  by_cases q : a = 65
  · subst q; show hI (nC (K139 L xs) 20 40) 65 k = 0; rw [hI_nC, hn_139, show (65 : Nat) = 64 + 1 from rfl, u1_eq]
  · exact (hI_nC' (by rw [hn_140] at h2; rw [hn_139]; omega)).trans (ez_139 L xs a k h (by rw [hn_140] at h2; rw [hn_139]; omega) hw)
abbrev Z141 : List (Nat × Nat) := Z140
theorem ez_141 (L : Nat) (xs : Nat → Int32) : ∀ a k, a ≠ 0 → a ≤ hN (K141 L xs) → (a, k) ∉ Z141 → hI (K141 L xs) a k = 0 := fun a k h h2 hw => ez_140 L xs a k h h2 hw
abbrev Z142 : List (Nat × Nat) := Z141
theorem ez_142 (L : Nat) (xs : Nat → Int32) : ∀ a k, a ≠ 0 → a ≤ hN (K142 L xs) → (a, k) ∉ Z142 → hI (K142 L xs) a k = 0 := fun a k h h2 hw => by
  by_cases q : a = 66
  · subst q; show hI (nC (K141 L xs) 20 40) 66 k = 0; rw [hI_nC, hn_141, show (66 : Nat) = 65 + 1 from rfl, u1_eq]
  · exact (hI_nC' (by rw [hn_142] at h2; rw [hn_141]; omega)).trans (ez_141 L xs a k h (by rw [hn_142] at h2; rw [hn_141]; omega) hw)
abbrev Z143 : List (Nat × Nat) := Z142
theorem ez_143 (L : Nat) (xs : Nat → Int32) : ∀ a k, a ≠ 0 → a ≤ hN (K143 L xs) → (a, k) ∉ Z143 → hI (K143 L xs) a k = 0 := fun a k h h2 hw => ez_142 L xs a k h h2 hw
abbrev Z144 : List (Nat × Nat) := Z143
theorem ez_144 (L : Nat) (xs : Nat → Int32) : ∀ a k, a ≠ 0 → a ≤ hN (K144 L xs) → (a, k) ∉ Z144 → hI (K144 L xs) a k = 0 := fun a k h h2 hw => by
  by_cases q : a = 67
  · subst q; show hI (nC (K143 L xs) 20 40) 67 k = 0; rw [hI_nC, hn_143, show (67 : Nat) = 66 + 1 from rfl, u1_eq]
  · exact (hI_nC' (by rw [hn_144] at h2; rw [hn_143]; omega)).trans (ez_143 L xs a k h (by rw [hn_144] at h2; rw [hn_143]; omega) hw)
abbrev Z145 : List (Nat × Nat) := Z144
theorem ez_145 (L : Nat) (xs : Nat → Int32) : ∀ a k, a ≠ 0 → a ≤ hN (K145 L xs) → (a, k) ∉ Z145 → hI (K145 L xs) a k = 0 := fun a k h h2 hw => ez_144 L xs a k h h2 hw
abbrev Z146 : List (Nat × Nat) := Z145
theorem ez_146 (L : Nat) (xs : Nat → Int32) : ∀ a k, a ≠ 0 → a ≤ hN (K146 L xs) → (a, k) ∉ Z146 → hI (K146 L xs) a k = 0 := fun a k h h2 hw => by
  by_cases q : a = 68
  · subst q; show hI (nC (K145 L xs) 20 40) 68 k = 0; rw [hI_nC, hn_145, show (68 : Nat) = 67 + 1 from rfl, u1_eq]
  · exact (hI_nC' (by rw [hn_146] at h2; rw [hn_145]; omega)).trans (ez_145 L xs a k h (by rw [hn_146] at h2; rw [hn_145]; omega) hw)
abbrev Z147 : List (Nat × Nat) := Z146
theorem ez_147 (L : Nat) (xs : Nat → Int32) : ∀ a k, a ≠ 0 → a ≤ hN (K147 L xs) → (a, k) ∉ Z147 → hI (K147 L xs) a k = 0 := fun a k h h2 hw => ez_146 L xs a k h h2 hw
abbrev Z148 : List (Nat × Nat) := Z147
theorem ez_148 (L : Nat) (xs : Nat → Int32) : ∀ a k, a ≠ 0 → a ≤ hN (K148 L xs) → (a, k) ∉ Z148 → hI (K148 L xs) a k = 0 := fun a k h h2 hw => by
  by_cases q : a = 69
  · subst q; show hI (nC (K147 L xs) 20 40) 69 k = 0; rw [hI_nC, hn_147, show (69 : Nat) = 68 + 1 from rfl, u1_eq]
  · exact (hI_nC' (by rw [hn_148] at h2; rw [hn_147]; omega)).trans (ez_147 L xs a k h (by rw [hn_148] at h2; rw [hn_147]; omega) hw)
abbrev Z149 : List (Nat × Nat) := Z148
theorem ez_149 (L : Nat) (xs : Nat → Int32) : ∀ a k, a ≠ 0 → a ≤ hN (K149 L xs) → (a, k) ∉ Z149 → hI (K149 L xs) a k = 0 := fun a k h h2 hw => ez_148 L xs a k h h2 hw
def KA (L : Nat) (xs : Nat → Int32) : PH := K149 L xs
theorem ka_1 (L : Nat) (xs : Nat → Int32) : hK (KA L xs) 1 = (12, 9) := (ek_1 L xs 1 (by rw [hn_1]; decide)).trans (by show hK (nC (K0 L xs) 12 9) 1 = _; rw [hK_nC, hn_0]; exact u1_eq _ _ _)
theorem ka_2 (L : Nat) (xs : Nat → Int32) : hK (KA L xs) 2 = (9, 5) := (ek_2 L xs 2 (by rw [hn_2]; decide)).trans (by show hK (nC (K1 L xs) 9 5) 2 = _; rw [hK_nC, hn_1]; exact u1_eq _ _ _)
theorem ka_3 (L : Nat) (xs : Nat → Int32) : hK (KA L xs) 3 = (24, 16) := (ek_3 L xs 3 (by rw [hn_3]; decide)).trans (by show hK (nC (K2 L xs) 24 16) 3 = _; rw [hK_nC, hn_2]; exact u1_eq _ _ _)
theorem ka_4 (L : Nat) (xs : Nat → Int32) : hK (KA L xs) 4 = (20, 16) := (ek_5 L xs 4 (by rw [hn_5]; decide)).trans (by show hK (nC (K4 L xs) 20 16) 4 = _; rw [hK_nC, hn_4]; exact u1_eq _ _ _)
theorem ka_5 (L : Nat) (xs : Nat → Int32) : hK (KA L xs) 5 = (2, 6) := (ek_10 L xs 5 (by rw [hn_10]; decide)).trans (by show hK (nC (K9 L xs) 2 6) 5 = _; rw [hK_nC, hn_9]; exact u1_eq _ _ _)
theorem ka_6 (L : Nat) (xs : Nat → Int32) : hK (KA L xs) 6 = (20, 64) := (ek_11 L xs 6 (by rw [hn_11]; decide)).trans (by show hK (nC (K10 L xs) 20 64) 6 = _; rw [hK_nC, hn_10]; exact u1_eq _ _ _)
theorem ka_7 (L : Nat) (xs : Nat → Int32) : hK (KA L xs) 7 = (25, 10) := (ek_13 L xs 7 (by rw [hn_13]; decide)).trans (by show hK (nC (K12 L xs) 25 10) 7 = _; rw [hK_nC, hn_12]; exact u1_eq _ _ _)
theorem ka_8 (L : Nat) (xs : Nat → Int32) : hK (KA L xs) 8 = (20, 10) := (ek_15 L xs 8 (by rw [hn_15]; decide)).trans (by show hK (nC (K14 L xs) 20 10) 8 = _; rw [hK_nC, hn_14]; exact u1_eq _ _ _)
theorem ka_9 (L : Nat) (xs : Nat → Int32) : hK (KA L xs) 9 = (5, 7) := (ek_19 L xs 9 (by rw [hn_19]; decide)).trans (by show hK (nC (K18 L xs) 5 7) 9 = _; rw [hK_nC, hn_18]; exact u1_eq _ _ _)
theorem ka_10 (L : Nat) (xs : Nat → Int32) : hK (KA L xs) 10 = (23, 1024) := (ek_20 L xs 10 (by rw [hn_20]; decide)).trans (by show hK (nC (K19 L xs) 23 1024) 10 = _; rw [hK_nC, hn_19]; exact u1_eq _ _ _)
theorem ka_11 (L : Nat) (xs : Nat → Int32) : hK (KA L xs) 11 = (23, 1024) := (ek_22 L xs 11 (by rw [hn_22]; decide)).trans (by show hK (nC (K21 L xs) 23 1024) 11 = _; rw [hK_nC, hn_21]; exact u1_eq _ _ _)
theorem ka_12 (L : Nat) (xs : Nat → Int32) : hK (KA L xs) 12 = (20, 10) := (ek_24 L xs 12 (by rw [hn_24]; decide)).trans (by show hK (nC (K23 L xs) 20 10) 12 = _; rw [hK_nC, hn_23]; exact u1_eq _ _ _)
theorem ka_13 (L : Nat) (xs : Nat → Int32) : hK (KA L xs) 13 = (11, 3) := (ek_29 L xs 13 (by rw [hn_29]; decide)).trans (by show hK (nC (K28 L xs) 11 3) 13 = _; rw [hK_nC, hn_28]; exact u1_eq _ _ _)
theorem ka_14 (L : Nat) (xs : Nat → Int32) : hK (KA L xs) 14 = (10, 2) := (ek_33 L xs 14 (by rw [hn_33]; decide)).trans (by show hK (nC (K32 L xs) 10 2) 14 = _; rw [hK_nC, hn_32]; exact u1_eq _ _ _)
theorem ka_15 (L : Nat) (xs : Nat → Int32) : hK (KA L xs) 15 = (21, 600) := (ek_34 L xs 15 (by rw [hn_34]; decide)).trans (by show hK (nC (K33 L xs) 21 600) 15 = _; rw [hK_nC, hn_33]; exact u1_eq _ _ _)
theorem ka_16 (L : Nat) (xs : Nat → Int32) : hK (KA L xs) 16 = (7, 13) := (ek_37 L xs 16 (by rw [hn_37]; decide)).trans (by show hK (nC (K36 L xs) 7 13) 16 = _; rw [hK_nC, hn_36]; exact u1_eq _ _ _)
theorem ka_17 (L : Nat) (xs : Nat → Int32) : hK (KA L xs) 17 = (20, 600) := (ek_38 L xs 17 (by rw [hn_38]; decide)).trans (by show hK (nC (K37 L xs) 20 600) 17 = _; rw [hK_nC, hn_37]; exact u1_eq _ _ _)
theorem ka_18 (L : Nat) (xs : Nat → Int32) : hK (KA L xs) 18 = (20, 10) := (ek_40 L xs 18 (by rw [hn_40]; decide)).trans (by show hK (nC (K39 L xs) 20 10) 18 = _; rw [hK_nC, hn_39]; exact u1_eq _ _ _)
theorem ka_19 (L : Nat) (xs : Nat → Int32) : hK (KA L xs) 19 = (20, 10) := (ek_42 L xs 19 (by rw [hn_42]; decide)).trans (by show hK (nC (K41 L xs) 20 10) 19 = _; rw [hK_nC, hn_41]; exact u1_eq _ _ _)
theorem ka_20 (L : Nat) (xs : Nat → Int32) : hK (KA L xs) 20 = (8, 3) := (ek_47 L xs 20 (by rw [hn_47]; decide)).trans (by show hK (nC (K46 L xs) 8 3) 20 = _; rw [hK_nC, hn_46]; exact u1_eq _ _ _)
theorem ka_21 (L : Nat) (xs : Nat → Int32) : hK (KA L xs) 21 = (20, 100) := (ek_48 L xs 21 (by rw [hn_48]; decide)).trans (by show hK (nC (K47 L xs) 20 100) 21 = _; rw [hK_nC, hn_47]; exact u1_eq _ _ _)
theorem ka_22 (L : Nat) (xs : Nat → Int32) : hK (KA L xs) 22 = (20, 6) := (ek_50 L xs 22 (by rw [hn_50]; decide)).trans (by show hK (nC (K49 L xs) 20 6) 22 = _; rw [hK_nC, hn_49]; exact u1_eq _ _ _)
theorem ka_23 (L : Nat) (xs : Nat → Int32) : hK (KA L xs) 23 = (1, 6) := (ek_53 L xs 23 (by rw [hn_53]; decide)).trans (by show hK (nC (K52 L xs) 1 6) 23 = _; rw [hK_nC, hn_52]; exact u1_eq _ _ _)
theorem ka_24 (L : Nat) (xs : Nat → Int32) : hK (KA L xs) 24 = (20, 40) := (ek_54 L xs 24 (by rw [hn_54]; decide)).trans (by show hK (nC (K53 L xs) 20 40) 24 = _; rw [hK_nC, hn_53]; exact u1_eq _ _ _)
theorem ka_25 (L : Nat) (xs : Nat → Int32) : hK (KA L xs) 25 = (20, 40) := (ek_56 L xs 25 (by rw [hn_56]; decide)).trans (by show hK (nC (K55 L xs) 20 40) 25 = _; rw [hK_nC, hn_55]; exact u1_eq _ _ _)
theorem ka_26 (L : Nat) (xs : Nat → Int32) : hK (KA L xs) 26 = (20, 40) := (ek_58 L xs 26 (by rw [hn_58]; decide)).trans (by show hK (nC (K57 L xs) 20 40) 26 = _; rw [hK_nC, hn_57]; exact u1_eq _ _ _)
theorem ka_27 (L : Nat) (xs : Nat → Int32) : hK (KA L xs) 27 = (20, 40) := (ek_60 L xs 27 (by rw [hn_60]; decide)).trans (by show hK (nC (K59 L xs) 20 40) 27 = _; rw [hK_nC, hn_59]; exact u1_eq _ _ _)
theorem ka_28 (L : Nat) (xs : Nat → Int32) : hK (KA L xs) 28 = (20, 40) := (ek_62 L xs 28 (by rw [hn_62]; decide)).trans (by show hK (nC (K61 L xs) 20 40) 28 = _; rw [hK_nC, hn_61]; exact u1_eq _ _ _)
theorem ka_29 (L : Nat) (xs : Nat → Int32) : hK (KA L xs) 29 = (6, 3) := (ek_65 L xs 29 (by rw [hn_65]; decide)).trans (by show hK (nC (K64 L xs) 6 3) 29 = _; rw [hK_nC, hn_64]; exact u1_eq _ _ _)
theorem ka_30 (L : Nat) (xs : Nat → Int32) : hK (KA L xs) 30 = (20, 0) := (ek_66 L xs 30 (by rw [hn_66]; decide)).trans (by show hK (nC (K65 L xs) 20 0) 30 = _; rw [hK_nC, hn_65]; exact u1_eq _ _ _)
theorem ka_31 (L : Nat) (xs : Nat → Int32) : hK (KA L xs) 31 = (20, 0) := (ek_67 L xs 31 (by rw [hn_67]; decide)).trans (by show hK (nC (K66 L xs) 20 0) 31 = _; rw [hK_nC, hn_66]; exact u1_eq _ _ _)
theorem ka_32 (L : Nat) (xs : Nat → Int32) : hK (KA L xs) 32 = (20, 0) := (ek_68 L xs 32 (by rw [hn_68]; decide)).trans (by show hK (nC (K67 L xs) 20 0) 32 = _; rw [hK_nC, hn_67]; exact u1_eq _ _ _)
theorem ka_33 (L : Nat) (xs : Nat → Int32) : hK (KA L xs) 33 = (13, 60) := (ek_73 L xs 33 (by rw [hn_73]; decide)).trans (by show hK (nC (K72 L xs) 13 60) 33 = _; rw [hK_nC, hn_72]; exact u1_eq _ _ _)
theorem ka_34 (L : Nat) (xs : Nat → Int32) : hK (KA L xs) 34 = (20, 16) := (ek_77 L xs 34 (by rw [hn_77]; decide)).trans (by show hK (nC (K76 L xs) 20 16) 34 = _; rw [hK_nC, hn_76]; exact u1_eq _ _ _)
theorem ka_35 (L : Nat) (xs : Nat → Int32) : hK (KA L xs) 35 = (20, 16) := (ek_79 L xs 35 (by rw [hn_79]; decide)).trans (by show hK (nC (K78 L xs) 20 16) 35 = _; rw [hK_nC, hn_78]; exact u1_eq _ _ _)
theorem ka_36 (L : Nat) (xs : Nat → Int32) : hK (KA L xs) 36 = (20, 16) := (ek_81 L xs 36 (by rw [hn_81]; decide)).trans (by show hK (nC (K80 L xs) 20 16) 36 = _; rw [hK_nC, hn_80]; exact u1_eq _ _ _)
theorem ka_37 (L : Nat) (xs : Nat → Int32) : hK (KA L xs) 37 = (20, 16) := (ek_83 L xs 37 (by rw [hn_83]; decide)).trans (by show hK (nC (K82 L xs) 20 16) 37 = _; rw [hK_nC, hn_82]; exact u1_eq _ _ _)
theorem ka_38 (L : Nat) (xs : Nat → Int32) : hK (KA L xs) 38 = (22, 16) := (ek_85 L xs 38 (by rw [hn_85]; decide)).trans (by show hK (nC (K84 L xs) 22 16) 38 = _; rw [hK_nC, hn_84]; exact u1_eq _ _ _)
theorem ka_39 (L : Nat) (xs : Nat → Int32) : hK (KA L xs) 39 = (20, 64) := (ek_87 L xs 39 (by rw [hn_87]; decide)).trans (by show hK (nC (K86 L xs) 20 64) 39 = _; rw [hK_nC, hn_86]; exact u1_eq _ _ _)
theorem ka_40 (L : Nat) (xs : Nat → Int32) : hK (KA L xs) 40 = (20, 10) := (ek_89 L xs 40 (by rw [hn_89]; decide)).trans (by show hK (nC (K88 L xs) 20 10) 40 = _; rw [hK_nC, hn_88]; exact u1_eq _ _ _)
theorem ka_41 (L : Nat) (xs : Nat → Int32) : hK (KA L xs) 41 = (20, 10) := (ek_91 L xs 41 (by rw [hn_91]; decide)).trans (by show hK (nC (K90 L xs) 20 10) 41 = _; rw [hK_nC, hn_90]; exact u1_eq _ _ _)
theorem ka_42 (L : Nat) (xs : Nat → Int32) : hK (KA L xs) 42 = (20, 10) := (ek_93 L xs 42 (by rw [hn_93]; decide)).trans (by show hK (nC (K92 L xs) 20 10) 42 = _; rw [hK_nC, hn_92]; exact u1_eq _ _ _)
theorem ka_43 (L : Nat) (xs : Nat → Int32) : hK (KA L xs) 43 = (20, 10) := (ek_95 L xs 43 (by rw [hn_95]; decide)).trans (by show hK (nC (K94 L xs) 20 10) 43 = _; rw [hK_nC, hn_94]; exact u1_eq _ _ _)
theorem ka_44 (L : Nat) (xs : Nat → Int32) : hK (KA L xs) 44 = (20, 10) := (ek_97 L xs 44 (by rw [hn_97]; decide)).trans (by show hK (nC (K96 L xs) 20 10) 44 = _; rw [hK_nC, hn_96]; exact u1_eq _ _ _)
theorem ka_45 (L : Nat) (xs : Nat → Int32) : hK (KA L xs) 45 = (20, 10) := (ek_99 L xs 45 (by rw [hn_99]; decide)).trans (by show hK (nC (K98 L xs) 20 10) 45 = _; rw [hK_nC, hn_98]; exact u1_eq _ _ _)
theorem ka_46 (L : Nat) (xs : Nat → Int32) : hK (KA L xs) 46 = (20, 10) := (ek_101 L xs 46 (by rw [hn_101]; decide)).trans (by show hK (nC (K100 L xs) 20 10) 46 = _; rw [hK_nC, hn_100]; exact u1_eq _ _ _)
theorem ka_47 (L : Nat) (xs : Nat → Int32) : hK (KA L xs) 47 = (22, 10) := (ek_103 L xs 47 (by rw [hn_103]; decide)).trans (by show hK (nC (K102 L xs) 22 10) 47 = _; rw [hK_nC, hn_102]; exact u1_eq _ _ _)
theorem ka_48 (L : Nat) (xs : Nat → Int32) : hK (KA L xs) 48 = (20, 6600) := (ek_105 L xs 48 (by rw [hn_105]; decide)).trans (by show hK (nC (K104 L xs) 20 6600) 48 = _; rw [hK_nC, hn_104]; exact u1_eq _ _ _)
theorem ka_49 (L : Nat) (xs : Nat → Int32) : hK (KA L xs) 49 = (20, 6600) := (ek_107 L xs 49 (by rw [hn_107]; decide)).trans (by show hK (nC (K106 L xs) 20 6600) 49 = _; rw [hK_nC, hn_106]; exact u1_eq _ _ _)
theorem ka_50 (L : Nat) (xs : Nat → Int32) : hK (KA L xs) 50 = (20, 242) := (ek_109 L xs 50 (by rw [hn_109]; decide)).trans (by show hK (nC (K108 L xs) 20 242) 50 = _; rw [hK_nC, hn_108]; exact u1_eq _ _ _)
theorem ka_51 (L : Nat) (xs : Nat → Int32) : hK (KA L xs) 51 = (20, 11) := (ek_111 L xs 51 (by rw [hn_111]; decide)).trans (by show hK (nC (K110 L xs) 20 11) 51 = _; rw [hK_nC, hn_110]; exact u1_eq _ _ _)
theorem ka_52 (L : Nat) (xs : Nat → Int32) : hK (KA L xs) 52 = (20, 10) := (ek_113 L xs 52 (by rw [hn_113]; decide)).trans (by show hK (nC (K112 L xs) 20 10) 52 = _; rw [hK_nC, hn_112]; exact u1_eq _ _ _)
theorem ka_53 (L : Nat) (xs : Nat → Int32) : hK (KA L xs) 53 = (20, 10) := (ek_115 L xs 53 (by rw [hn_115]; decide)).trans (by show hK (nC (K114 L xs) 20 10) 53 = _; rw [hK_nC, hn_114]; exact u1_eq _ _ _)
theorem ka_54 (L : Nat) (xs : Nat → Int32) : hK (KA L xs) 54 = (20, 10) := (ek_117 L xs 54 (by rw [hn_117]; decide)).trans (by show hK (nC (K116 L xs) 20 10) 54 = _; rw [hK_nC, hn_116]; exact u1_eq _ _ _)
theorem ka_55 (L : Nat) (xs : Nat → Int32) : hK (KA L xs) 55 = (20, 10) := (ek_119 L xs 55 (by rw [hn_119]; decide)).trans (by show hK (nC (K118 L xs) 20 10) 55 = _; rw [hK_nC, hn_118]; exact u1_eq _ _ _)
theorem ka_56 (L : Nat) (xs : Nat → Int32) : hK (KA L xs) 56 = (20, 11) := (ek_121 L xs 56 (by rw [hn_121]; decide)).trans (by show hK (nC (K120 L xs) 20 11) 56 = _; rw [hK_nC, hn_120]; exact u1_eq _ _ _)
theorem ka_57 (L : Nat) (xs : Nat → Int32) : hK (KA L xs) 57 = (20, 10) := (ek_123 L xs 57 (by rw [hn_123]; decide)).trans (by show hK (nC (K122 L xs) 20 10) 57 = _; rw [hK_nC, hn_122]; exact u1_eq _ _ _)
theorem ka_58 (L : Nat) (xs : Nat → Int32) : hK (KA L xs) 58 = (20, 600) := (ek_125 L xs 58 (by rw [hn_125]; decide)).trans (by show hK (nC (K124 L xs) 20 600) 58 = _; rw [hK_nC, hn_124]; exact u1_eq _ _ _)
theorem ka_59 (L : Nat) (xs : Nat → Int32) : hK (KA L xs) 59 = (20, 600) := (ek_127 L xs 59 (by rw [hn_127]; decide)).trans (by show hK (nC (K126 L xs) 20 600) 59 = _; rw [hK_nC, hn_126]; exact u1_eq _ _ _)
theorem ka_60 (L : Nat) (xs : Nat → Int32) : hK (KA L xs) 60 = (20, 22) := (ek_129 L xs 60 (by rw [hn_129]; decide)).trans (by show hK (nC (K128 L xs) 20 22) 60 = _; rw [hK_nC, hn_128]; exact u1_eq _ _ _)
theorem ka_61 (L : Nat) (xs : Nat → Int32) : hK (KA L xs) 61 = (20, 600) := (ek_131 L xs 61 (by rw [hn_131]; decide)).trans (by show hK (nC (K130 L xs) 20 600) 61 = _; rw [hK_nC, hn_130]; exact u1_eq _ _ _)
theorem ka_62 (L : Nat) (xs : Nat → Int32) : hK (KA L xs) 62 = (20, 400) := (ek_134 L xs 62 (by rw [hn_134]; decide)).trans (by show hK (nC (K133 L xs) 20 400) 62 = _; rw [hK_nC, hn_133]; exact u1_eq _ _ _)
theorem ka_63 (L : Nat) (xs : Nat → Int32) : hK (KA L xs) 63 = (20, 300) := (ek_136 L xs 63 (by rw [hn_136]; decide)).trans (by show hK (nC (K135 L xs) 20 300) 63 = _; rw [hK_nC, hn_135]; exact u1_eq _ _ _)
theorem ka_64 (L : Nat) (xs : Nat → Int32) : hK (KA L xs) 64 = (20, 6) := (ek_138 L xs 64 (by rw [hn_138]; decide)).trans (by show hK (nC (K137 L xs) 20 6) 64 = _; rw [hK_nC, hn_137]; exact u1_eq _ _ _)
theorem ka_65 (L : Nat) (xs : Nat → Int32) : hK (KA L xs) 65 = (20, 40) := (ek_140 L xs 65 (by rw [hn_140]; decide)).trans (by show hK (nC (K139 L xs) 20 40) 65 = _; rw [hK_nC, hn_139]; exact u1_eq _ _ _)
theorem ka_66 (L : Nat) (xs : Nat → Int32) : hK (KA L xs) 66 = (20, 40) := (ek_142 L xs 66 (by rw [hn_142]; decide)).trans (by show hK (nC (K141 L xs) 20 40) 66 = _; rw [hK_nC, hn_141]; exact u1_eq _ _ _)
theorem ka_67 (L : Nat) (xs : Nat → Int32) : hK (KA L xs) 67 = (20, 40) := (ek_144 L xs 67 (by rw [hn_144]; decide)).trans (by show hK (nC (K143 L xs) 20 40) 67 = _; rw [hK_nC, hn_143]; exact u1_eq _ _ _)
theorem ka_68 (L : Nat) (xs : Nat → Int32) : hK (KA L xs) 68 = (20, 40) := (ek_146 L xs 68 (by rw [hn_146]; decide)).trans (by show hK (nC (K145 L xs) 20 40) 68 = _; rw [hK_nC, hn_145]; exact u1_eq _ _ _)
theorem ka_69 (L : Nat) (xs : Nat → Int32) : hK (KA L xs) 69 = (20, 40) := (ek_148 L xs 69 (by rw [hn_148]; decide)).trans (by show hK (nC (K147 L xs) 20 40) 69 = _; rw [hK_nC, hn_147]; exact u1_eq _ _ _)
theorem ra_1_0 (L : Nat) (xs : Nat → Int32) : hR (KA L xs) 1 0 = some 2 := (er_9 L xs 1 0 (by rw [hn_9]; decide) (by decide)).trans (by show u2 (hR (K8 L xs)) 1 0 (some 2) 1 0 = _; exact u2_eq _ _ _ _)
theorem ra_1_1 (L : Nat) (xs : Nat → Int32) : hR (KA L xs) 1 1 = some 5 := (er_18 L xs 1 1 (by rw [hn_18]; decide) (by decide)).trans (by show u2 (hR (K17 L xs)) 1 1 (some 5) 1 1 = _; exact u2_eq _ _ _ _)
theorem ra_1_2 (L : Nat) (xs : Nat → Int32) : hR (KA L xs) 1 2 = some 9 := (er_28 L xs 1 2 (by rw [hn_28]; decide) (by decide)).trans (by show u2 (hR (K27 L xs)) 1 2 (some 9) 1 2 = _; exact u2_eq _ _ _ _)
theorem ra_1_3 (L : Nat) (xs : Nat → Int32) : hR (KA L xs) 1 3 = some 13 := (er_32 L xs 1 3 (by rw [hn_32]; decide) (by decide)).trans (by show u2 (hR (K31 L xs)) 1 3 (some 13) 1 3 = _; exact u2_eq _ _ _ _)
theorem ra_1_4 (L : Nat) (xs : Nat → Int32) : hR (KA L xs) 1 4 = some 14 := (er_36 L xs 1 4 (by rw [hn_36]; decide) (by decide)).trans (by show u2 (hR (K35 L xs)) 1 4 (some 14) 1 4 = _; exact u2_eq _ _ _ _)
theorem ra_1_5 (L : Nat) (xs : Nat → Int32) : hR (KA L xs) 1 5 = some 16 := (er_46 L xs 1 5 (by rw [hn_46]; decide) (by decide)).trans (by show u2 (hR (K45 L xs)) 1 5 (some 16) 1 5 = _; exact u2_eq _ _ _ _)
theorem ra_1_6 (L : Nat) (xs : Nat → Int32) : hR (KA L xs) 1 6 = some 20 := (er_52 L xs 1 6 (by rw [hn_52]; decide) (by decide)).trans (by show u2 (hR (K51 L xs)) 1 6 (some 20) 1 6 = _; exact u2_eq _ _ _ _)
theorem ra_1_7 (L : Nat) (xs : Nat → Int32) : hR (KA L xs) 1 7 = some 23 := (er_64 L xs 1 7 (by rw [hn_64]; decide) (by decide)).trans (by show u2 (hR (K63 L xs)) 1 7 (some 23) 1 7 = _; exact u2_eq _ _ _ _)
theorem ra_1_8 (L : Nat) (xs : Nat → Int32) : hR (KA L xs) 1 8 = some 29 := (er_72 L xs 1 8 (by rw [hn_72]; decide) (by decide)).trans (by show u2 (hR (K71 L xs)) 1 8 (some 29) 1 8 = _; exact u2_eq _ _ _ _)
theorem ra_2_0 (L : Nat) (xs : Nat → Int32) : hR (KA L xs) 2 0 = some 3 := (er_4 L xs 2 0 (by rw [hn_4]; decide) (by decide)).trans (by show u2 (hR (K3 L xs)) 2 0 (some 3) 2 0 = _; exact u2_eq _ _ _ _)
theorem ra_2_1 (L : Nat) (xs : Nat → Int32) : hR (KA L xs) 2 1 = some 4 := (er_6 L xs 2 1 (by rw [hn_6]; decide) (by decide)).trans (by show u2 (hR (K5 L xs)) 2 1 (some 4) 2 1 = _; exact u2_eq _ _ _ _)
theorem ra_5_0 (L : Nat) (xs : Nat → Int32) : hR (KA L xs) 5 0 = some 6 := (er_12 L xs 5 0 (by rw [hn_12]; decide) (by decide)).trans (by show u2 (hR (K11 L xs)) 5 0 (some 6) 5 0 = _; exact u2_eq _ _ _ _)
theorem ra_5_1 (L : Nat) (xs : Nat → Int32) : hR (KA L xs) 5 1 = some 7 := (er_14 L xs 5 1 (by rw [hn_14]; decide) (by decide)).trans (by show u2 (hR (K13 L xs)) 5 1 (some 7) 5 1 = _; exact u2_eq _ _ _ _)
theorem ra_5_2 (L : Nat) (xs : Nat → Int32) : hR (KA L xs) 5 2 = some 8 := (er_16 L xs 5 2 (by rw [hn_16]; decide) (by decide)).trans (by show u2 (hR (K15 L xs)) 5 2 (some 8) 5 2 = _; exact u2_eq _ _ _ _)
theorem ra_9_0 (L : Nat) (xs : Nat → Int32) : hR (KA L xs) 9 0 = some 5 := (er_27 L xs 9 0 (by rw [hn_27]; decide) (by decide)).trans (by show u2 (hR (K26 L xs)) 9 0 (some 5) 9 0 = _; exact u2_eq _ _ _ _)
theorem ra_9_1 (L : Nat) (xs : Nat → Int32) : hR (KA L xs) 9 1 = some 10 := (er_21 L xs 9 1 (by rw [hn_21]; decide) (by decide)).trans (by show u2 (hR (K20 L xs)) 9 1 (some 10) 9 1 = _; exact u2_eq _ _ _ _)
theorem ra_9_2 (L : Nat) (xs : Nat → Int32) : hR (KA L xs) 9 2 = some 11 := (er_23 L xs 9 2 (by rw [hn_23]; decide) (by decide)).trans (by show u2 (hR (K22 L xs)) 9 2 (some 11) 9 2 = _; exact u2_eq _ _ _ _)
theorem ra_9_3 (L : Nat) (xs : Nat → Int32) : hR (KA L xs) 9 3 = some 12 := (er_25 L xs 9 3 (by rw [hn_25]; decide) (by decide)).trans (by show u2 (hR (K24 L xs)) 9 3 (some 12) 9 3 = _; exact u2_eq _ _ _ _)
theorem ra_13_0 (L : Nat) (xs : Nat → Int32) : hR (KA L xs) 13 0 = some 2 := (er_30 L xs 13 0 (by rw [hn_30]; decide) (by decide)).trans (by show u2 (hR (K29 L xs)) 13 0 (some 2) 13 0 = _; exact u2_eq _ _ _ _)
theorem ra_13_1 (L : Nat) (xs : Nat → Int32) : hR (KA L xs) 13 1 = some 5 := (er_31 L xs 13 1 (by rw [hn_31]; decide) (by decide)).trans (by show u2 (hR (K30 L xs)) 13 1 (some 5) 13 1 = _; exact u2_eq _ _ _ _)
theorem ra_14_0 (L : Nat) (xs : Nat → Int32) : hR (KA L xs) 14 0 = some 15 := (er_35 L xs 14 0 (by rw [hn_35]; decide) (by decide)).trans (by show u2 (hR (K34 L xs)) 14 0 (some 15) 14 0 = _; exact u2_eq _ _ _ _)
theorem ra_16_0 (L : Nat) (xs : Nat → Int32) : hR (KA L xs) 16 0 = some 14 := (er_45 L xs 16 0 (by rw [hn_45]; decide) (by decide)).trans (by show u2 (hR (K44 L xs)) 16 0 (some 14) 16 0 = _; exact u2_eq _ _ _ _)
theorem ra_16_1 (L : Nat) (xs : Nat → Int32) : hR (KA L xs) 16 1 = some 17 := (er_39 L xs 16 1 (by rw [hn_39]; decide) (by decide)).trans (by show u2 (hR (K38 L xs)) 16 1 (some 17) 16 1 = _; exact u2_eq _ _ _ _)
theorem ra_16_2 (L : Nat) (xs : Nat → Int32) : hR (KA L xs) 16 2 = some 18 := (er_41 L xs 16 2 (by rw [hn_41]; decide) (by decide)).trans (by show u2 (hR (K40 L xs)) 16 2 (some 18) 16 2 = _; exact u2_eq _ _ _ _)
theorem ra_16_3 (L : Nat) (xs : Nat → Int32) : hR (KA L xs) 16 3 = some 19 := (er_43 L xs 16 3 (by rw [hn_43]; decide) (by decide)).trans (by show u2 (hR (K42 L xs)) 16 3 (some 19) 16 3 = _; exact u2_eq _ _ _ _)
theorem ra_20_0 (L : Nat) (xs : Nat → Int32) : hR (KA L xs) 20 0 = some 21 := (er_49 L xs 20 0 (by rw [hn_49]; decide) (by decide)).trans (by show u2 (hR (K48 L xs)) 20 0 (some 21) 20 0 = _; exact u2_eq _ _ _ _)
theorem ra_20_1 (L : Nat) (xs : Nat → Int32) : hR (KA L xs) 20 1 = some 22 := (er_51 L xs 20 1 (by rw [hn_51]; decide) (by decide)).trans (by show u2 (hR (K50 L xs)) 20 1 (some 22) 20 1 = _; exact u2_eq _ _ _ _)
theorem ra_23_0 (L : Nat) (xs : Nat → Int32) : hR (KA L xs) 23 0 = some 24 := (er_55 L xs 23 0 (by rw [hn_55]; decide) (by decide)).trans (by show u2 (hR (K54 L xs)) 23 0 (some 24) 23 0 = _; exact u2_eq _ _ _ _)
theorem ra_23_1 (L : Nat) (xs : Nat → Int32) : hR (KA L xs) 23 1 = some 25 := (er_57 L xs 23 1 (by rw [hn_57]; decide) (by decide)).trans (by show u2 (hR (K56 L xs)) 23 1 (some 25) 23 1 = _; exact u2_eq _ _ _ _)
theorem ra_23_2 (L : Nat) (xs : Nat → Int32) : hR (KA L xs) 23 2 = some 26 := (er_59 L xs 23 2 (by rw [hn_59]; decide) (by decide)).trans (by show u2 (hR (K58 L xs)) 23 2 (some 26) 23 2 = _; exact u2_eq _ _ _ _)
theorem ra_23_3 (L : Nat) (xs : Nat → Int32) : hR (KA L xs) 23 3 = some 27 := (er_61 L xs 23 3 (by rw [hn_61]; decide) (by decide)).trans (by show u2 (hR (K60 L xs)) 23 3 (some 27) 23 3 = _; exact u2_eq _ _ _ _)
theorem ra_23_4 (L : Nat) (xs : Nat → Int32) : hR (KA L xs) 23 4 = some 28 := (er_63 L xs 23 4 (by rw [hn_63]; decide) (by decide)).trans (by show u2 (hR (K62 L xs)) 23 4 (some 28) 23 4 = _; exact u2_eq _ _ _ _)
theorem ra_29_0 (L : Nat) (xs : Nat → Int32) : hR (KA L xs) 29 0 = some 30 := (er_69 L xs 29 0 (by rw [hn_69]; decide) (by decide)).trans (by show u2 (hR (K68 L xs)) 29 0 (some 30) 29 0 = _; exact u2_eq _ _ _ _)
theorem ra_29_1 (L : Nat) (xs : Nat → Int32) : hR (KA L xs) 29 1 = some 31 := (er_70 L xs 29 1 (by rw [hn_70]; decide) (by decide)).trans (by show u2 (hR (K69 L xs)) 29 1 (some 31) 29 1 = _; exact u2_eq _ _ _ _)
theorem ra_29_2 (L : Nat) (xs : Nat → Int32) : hR (KA L xs) 29 2 = some 32 := (er_71 L xs 29 2 (by rw [hn_71]; decide) (by decide)).trans (by show u2 (hR (K70 L xs)) 29 2 (some 32) 29 2 = _; exact u2_eq _ _ _ _)
theorem ra_33_5 (L : Nat) (xs : Nat → Int32) : hR (KA L xs) 33 5 = some 34 := (er_78 L xs 33 5 (by rw [hn_78]; decide) (by decide)).trans (by show u2 (hR (K77 L xs)) 33 5 (some 34) 33 5 = _; exact u2_eq _ _ _ _)
theorem ra_33_6 (L : Nat) (xs : Nat → Int32) : hR (KA L xs) 33 6 = some 35 := (er_80 L xs 33 6 (by rw [hn_80]; decide) (by decide)).trans (by show u2 (hR (K79 L xs)) 33 6 (some 35) 33 6 = _; exact u2_eq _ _ _ _)
theorem ra_33_7 (L : Nat) (xs : Nat → Int32) : hR (KA L xs) 33 7 = some 36 := (er_82 L xs 33 7 (by rw [hn_82]; decide) (by decide)).trans (by show u2 (hR (K81 L xs)) 33 7 (some 36) 33 7 = _; exact u2_eq _ _ _ _)
theorem ra_33_8 (L : Nat) (xs : Nat → Int32) : hR (KA L xs) 33 8 = some 37 := (er_84 L xs 33 8 (by rw [hn_84]; decide) (by decide)).trans (by show u2 (hR (K83 L xs)) 33 8 (some 37) 33 8 = _; exact u2_eq _ _ _ _)
theorem ra_33_9 (L : Nat) (xs : Nat → Int32) : hR (KA L xs) 33 9 = some 38 := (er_86 L xs 33 9 (by rw [hn_86]; decide) (by decide)).trans (by show u2 (hR (K85 L xs)) 33 9 (some 38) 33 9 = _; exact u2_eq _ _ _ _)
theorem ra_33_10 (L : Nat) (xs : Nat → Int32) : hR (KA L xs) 33 10 = some 39 := (er_88 L xs 33 10 (by rw [hn_88]; decide) (by decide)).trans (by show u2 (hR (K87 L xs)) 33 10 (some 39) 33 10 = _; exact u2_eq _ _ _ _)
theorem ra_33_12 (L : Nat) (xs : Nat → Int32) : hR (KA L xs) 33 12 = some 40 := (er_90 L xs 33 12 (by rw [hn_90]; decide) (by decide)).trans (by show u2 (hR (K89 L xs)) 33 12 (some 40) 33 12 = _; exact u2_eq _ _ _ _)
theorem ra_33_13 (L : Nat) (xs : Nat → Int32) : hR (KA L xs) 33 13 = some 41 := (er_92 L xs 33 13 (by rw [hn_92]; decide) (by decide)).trans (by show u2 (hR (K91 L xs)) 33 13 (some 41) 33 13 = _; exact u2_eq _ _ _ _)
theorem ra_33_14 (L : Nat) (xs : Nat → Int32) : hR (KA L xs) 33 14 = some 42 := (er_94 L xs 33 14 (by rw [hn_94]; decide) (by decide)).trans (by show u2 (hR (K93 L xs)) 33 14 (some 42) 33 14 = _; exact u2_eq _ _ _ _)
theorem ra_33_15 (L : Nat) (xs : Nat → Int32) : hR (KA L xs) 33 15 = some 43 := (er_96 L xs 33 15 (by rw [hn_96]; decide) (by decide)).trans (by show u2 (hR (K95 L xs)) 33 15 (some 43) 33 15 = _; exact u2_eq _ _ _ _)
theorem ra_33_16 (L : Nat) (xs : Nat → Int32) : hR (KA L xs) 33 16 = some 44 := (er_98 L xs 33 16 (by rw [hn_98]; decide) (by decide)).trans (by show u2 (hR (K97 L xs)) 33 16 (some 44) 33 16 = _; exact u2_eq _ _ _ _)
theorem ra_33_17 (L : Nat) (xs : Nat → Int32) : hR (KA L xs) 33 17 = some 45 := (er_100 L xs 33 17 (by rw [hn_100]; decide) (by decide)).trans (by show u2 (hR (K99 L xs)) 33 17 (some 45) 33 17 = _; exact u2_eq _ _ _ _)
theorem ra_33_18 (L : Nat) (xs : Nat → Int32) : hR (KA L xs) 33 18 = some 46 := (er_102 L xs 33 18 (by rw [hn_102]; decide) (by decide)).trans (by show u2 (hR (K101 L xs)) 33 18 (some 46) 33 18 = _; exact u2_eq _ _ _ _)
theorem ra_33_19 (L : Nat) (xs : Nat → Int32) : hR (KA L xs) 33 19 = some 47 := (er_104 L xs 33 19 (by rw [hn_104]; decide) (by decide)).trans (by show u2 (hR (K103 L xs)) 33 19 (some 47) 33 19 = _; exact u2_eq _ _ _ _)
theorem ra_33_20 (L : Nat) (xs : Nat → Int32) : hR (KA L xs) 33 20 = some 48 := (er_106 L xs 33 20 (by rw [hn_106]; decide) (by decide)).trans (by show u2 (hR (K105 L xs)) 33 20 (some 48) 33 20 = _; exact u2_eq _ _ _ _)
theorem ra_33_21 (L : Nat) (xs : Nat → Int32) : hR (KA L xs) 33 21 = some 49 := (er_108 L xs 33 21 (by rw [hn_108]; decide) (by decide)).trans (by show u2 (hR (K107 L xs)) 33 21 (some 49) 33 21 = _; exact u2_eq _ _ _ _)
theorem ra_33_22 (L : Nat) (xs : Nat → Int32) : hR (KA L xs) 33 22 = some 50 := (er_110 L xs 33 22 (by rw [hn_110]; decide) (by decide)).trans (by show u2 (hR (K109 L xs)) 33 22 (some 50) 33 22 = _; exact u2_eq _ _ _ _)
theorem ra_33_23 (L : Nat) (xs : Nat → Int32) : hR (KA L xs) 33 23 = some 51 := (er_112 L xs 33 23 (by rw [hn_112]; decide) (by decide)).trans (by show u2 (hR (K111 L xs)) 33 23 (some 51) 33 23 = _; exact u2_eq _ _ _ _)
theorem ra_33_27 (L : Nat) (xs : Nat → Int32) : hR (KA L xs) 33 27 = some 52 := (er_114 L xs 33 27 (by rw [hn_114]; decide) (by decide)).trans (by show u2 (hR (K113 L xs)) 33 27 (some 52) 33 27 = _; exact u2_eq _ _ _ _)
theorem ra_33_28 (L : Nat) (xs : Nat → Int32) : hR (KA L xs) 33 28 = some 53 := (er_116 L xs 33 28 (by rw [hn_116]; decide) (by decide)).trans (by show u2 (hR (K115 L xs)) 33 28 (some 53) 33 28 = _; exact u2_eq _ _ _ _)
theorem ra_33_29 (L : Nat) (xs : Nat → Int32) : hR (KA L xs) 33 29 = some 54 := (er_118 L xs 33 29 (by rw [hn_118]; decide) (by decide)).trans (by show u2 (hR (K117 L xs)) 33 29 (some 54) 33 29 = _; exact u2_eq _ _ _ _)
theorem ra_33_30 (L : Nat) (xs : Nat → Int32) : hR (KA L xs) 33 30 = some 55 := (er_120 L xs 33 30 (by rw [hn_120]; decide) (by decide)).trans (by show u2 (hR (K119 L xs)) 33 30 (some 55) 33 30 = _; exact u2_eq _ _ _ _)
theorem ra_33_31 (L : Nat) (xs : Nat → Int32) : hR (KA L xs) 33 31 = some 56 := (er_122 L xs 33 31 (by rw [hn_122]; decide) (by decide)).trans (by show u2 (hR (K121 L xs)) 33 31 (some 56) 33 31 = _; exact u2_eq _ _ _ _)
theorem ra_33_32 (L : Nat) (xs : Nat → Int32) : hR (KA L xs) 33 32 = some 57 := (er_124 L xs 33 32 (by rw [hn_124]; decide) (by decide)).trans (by show u2 (hR (K123 L xs)) 33 32 (some 57) 33 32 = _; exact u2_eq _ _ _ _)
theorem ra_33_33 (L : Nat) (xs : Nat → Int32) : hR (KA L xs) 33 33 = some 58 := (er_126 L xs 33 33 (by rw [hn_126]; decide) (by decide)).trans (by show u2 (hR (K125 L xs)) 33 33 (some 58) 33 33 = _; exact u2_eq _ _ _ _)
theorem ra_33_34 (L : Nat) (xs : Nat → Int32) : hR (KA L xs) 33 34 = some 59 := (er_128 L xs 33 34 (by rw [hn_128]; decide) (by decide)).trans (by show u2 (hR (K127 L xs)) 33 34 (some 59) 33 34 = _; exact u2_eq _ _ _ _)
theorem ra_33_35 (L : Nat) (xs : Nat → Int32) : hR (KA L xs) 33 35 = some 60 := (er_130 L xs 33 35 (by rw [hn_130]; decide) (by decide)).trans (by show u2 (hR (K129 L xs)) 33 35 (some 60) 33 35 = _; exact u2_eq _ _ _ _)
theorem ra_33_39 (L : Nat) (xs : Nat → Int32) : hR (KA L xs) 33 39 = some 61 := (er_132 L xs 33 39 (by rw [hn_132]; decide) (by decide)).trans (by show u2 (hR (K131 L xs)) 33 39 (some 61) 33 39 = _; exact u2_eq _ _ _ _)
theorem ra_33_49 (L : Nat) (xs : Nat → Int32) : hR (KA L xs) 33 49 = some 62 := (er_135 L xs 33 49 (by rw [hn_135]; decide) (by decide)).trans (by show u2 (hR (K134 L xs)) 33 49 (some 62) 33 49 = _; exact u2_eq _ _ _ _)
theorem ra_33_52 (L : Nat) (xs : Nat → Int32) : hR (KA L xs) 33 52 = some 63 := (er_137 L xs 33 52 (by rw [hn_137]; decide) (by decide)).trans (by show u2 (hR (K136 L xs)) 33 52 (some 63) 33 52 = _; exact u2_eq _ _ _ _)
theorem ra_33_53 (L : Nat) (xs : Nat → Int32) : hR (KA L xs) 33 53 = some 64 := (er_139 L xs 33 53 (by rw [hn_139]; decide) (by decide)).trans (by show u2 (hR (K138 L xs)) 33 53 (some 64) 33 53 = _; exact u2_eq _ _ _ _)
theorem ra_33_55 (L : Nat) (xs : Nat → Int32) : hR (KA L xs) 33 55 = some 65 := (er_141 L xs 33 55 (by rw [hn_141]; decide) (by decide)).trans (by show u2 (hR (K140 L xs)) 33 55 (some 65) 33 55 = _; exact u2_eq _ _ _ _)
theorem ra_33_56 (L : Nat) (xs : Nat → Int32) : hR (KA L xs) 33 56 = some 66 := (er_143 L xs 33 56 (by rw [hn_143]; decide) (by decide)).trans (by show u2 (hR (K142 L xs)) 33 56 (some 66) 33 56 = _; exact u2_eq _ _ _ _)
theorem ra_33_57 (L : Nat) (xs : Nat → Int32) : hR (KA L xs) 33 57 = some 67 := (er_145 L xs 33 57 (by rw [hn_145]; decide) (by decide)).trans (by show u2 (hR (K144 L xs)) 33 57 (some 67) 33 57 = _; exact u2_eq _ _ _ _)
theorem ra_33_58 (L : Nat) (xs : Nat → Int32) : hR (KA L xs) 33 58 = some 68 := (er_147 L xs 33 58 (by rw [hn_147]; decide) (by decide)).trans (by show u2 (hR (K146 L xs)) 33 58 (some 68) 33 58 = _; exact u2_eq _ _ _ _)
theorem ra_33_59 (L : Nat) (xs : Nat → Int32) : hR (KA L xs) 33 59 = some 69 := (er_149 L xs 33 59 (by rw [hn_149]; decide) (by decide)).trans (by show u2 (hR (K148 L xs)) 33 59 (some 69) 33 59 = _; exact u2_eq _ _ _ _)
set_option maxRecDepth 100000 in
theorem Fix_KA (L : Nat) (xs : Nat → Int32) : Fix (KA L xs) := ⟨List.forall_mem_cons.mpr ⟨ka_1 L xs, List.forall_mem_cons.mpr ⟨ka_2 L xs, List.forall_mem_cons.mpr ⟨ka_3 L xs, List.forall_mem_cons.mpr ⟨ka_4 L xs, List.forall_mem_cons.mpr ⟨ka_5 L xs, List.forall_mem_cons.mpr ⟨ka_6 L xs, List.forall_mem_cons.mpr ⟨ka_7 L xs, List.forall_mem_cons.mpr ⟨ka_8 L xs, List.forall_mem_cons.mpr ⟨ka_9 L xs, List.forall_mem_cons.mpr ⟨ka_10 L xs, List.forall_mem_cons.mpr ⟨ka_11 L xs, List.forall_mem_cons.mpr ⟨ka_12 L xs, List.forall_mem_cons.mpr ⟨ka_13 L xs, List.forall_mem_cons.mpr ⟨ka_14 L xs, List.forall_mem_cons.mpr ⟨ka_15 L xs, List.forall_mem_cons.mpr ⟨ka_16 L xs, List.forall_mem_cons.mpr ⟨ka_17 L xs, List.forall_mem_cons.mpr ⟨ka_18 L xs, List.forall_mem_cons.mpr ⟨ka_19 L xs, List.forall_mem_cons.mpr ⟨ka_20 L xs, List.forall_mem_cons.mpr ⟨ka_21 L xs, List.forall_mem_cons.mpr ⟨ka_22 L xs, List.forall_mem_cons.mpr ⟨ka_23 L xs, List.forall_mem_cons.mpr ⟨ka_24 L xs, List.forall_mem_cons.mpr ⟨ka_25 L xs, List.forall_mem_cons.mpr ⟨ka_26 L xs, List.forall_mem_cons.mpr ⟨ka_27 L xs, List.forall_mem_cons.mpr ⟨ka_28 L xs, List.forall_mem_cons.mpr ⟨ka_33 L xs, List.forall_mem_cons.mpr ⟨ka_34 L xs, List.forall_mem_cons.mpr ⟨ka_35 L xs, List.forall_mem_cons.mpr ⟨ka_36 L xs, List.forall_mem_cons.mpr ⟨ka_37 L xs, List.forall_mem_cons.mpr ⟨ka_38 L xs, List.forall_mem_cons.mpr ⟨ka_39 L xs, List.forall_mem_cons.mpr ⟨ka_40 L xs, List.forall_mem_cons.mpr ⟨ka_41 L xs, List.forall_mem_cons.mpr ⟨ka_42 L xs, List.forall_mem_cons.mpr ⟨ka_43 L xs, List.forall_mem_cons.mpr ⟨ka_44 L xs, List.forall_mem_cons.mpr ⟨ka_45 L xs, List.forall_mem_cons.mpr ⟨ka_46 L xs, List.forall_mem_cons.mpr ⟨ka_47 L xs, List.forall_mem_cons.mpr ⟨ka_48 L xs, List.forall_mem_cons.mpr ⟨ka_49 L xs, List.forall_mem_cons.mpr ⟨ka_50 L xs, List.forall_mem_cons.mpr ⟨ka_51 L xs, List.forall_mem_cons.mpr ⟨ka_52 L xs, List.forall_mem_cons.mpr ⟨ka_53 L xs, List.forall_mem_cons.mpr ⟨ka_54 L xs, List.forall_mem_cons.mpr ⟨ka_55 L xs, List.forall_mem_cons.mpr ⟨ka_56 L xs, List.forall_mem_cons.mpr ⟨ka_57 L xs, List.forall_mem_cons.mpr ⟨ka_58 L xs, List.forall_mem_cons.mpr ⟨ka_59 L xs, List.forall_mem_cons.mpr ⟨ka_60 L xs, List.forall_mem_cons.mpr ⟨ka_61 L xs, List.forall_mem_cons.mpr ⟨ka_62 L xs, List.forall_mem_cons.mpr ⟨ka_63 L xs, List.forall_mem_cons.mpr ⟨ka_64 L xs, List.forall_mem_cons.mpr ⟨ka_65 L xs, List.forall_mem_cons.mpr ⟨ka_66 L xs, List.forall_mem_cons.mpr ⟨ka_67 L xs, List.forall_mem_cons.mpr ⟨ka_68 L xs, List.forall_mem_cons.mpr ⟨ka_69 L xs, fun _ h => absurd h List.not_mem_nil⟩⟩⟩⟩⟩⟩⟩⟩⟩⟩⟩⟩⟩⟩⟩⟩⟩⟩⟩⟩⟩⟩⟩⟩⟩⟩⟩⟩⟩⟩⟩⟩⟩⟩⟩⟩⟩⟩⟩⟩⟩⟩⟩⟩⟩⟩⟩⟩⟩⟩⟩⟩⟩⟩⟩⟩⟩⟩⟩⟩⟩⟩⟩⟩⟩, List.forall_mem_cons.mpr ⟨ra_1_0 L xs, List.forall_mem_cons.mpr ⟨ra_1_1 L xs, List.forall_mem_cons.mpr ⟨ra_1_2 L xs, List.forall_mem_cons.mpr ⟨ra_1_3 L xs, List.forall_mem_cons.mpr ⟨ra_1_4 L xs, List.forall_mem_cons.mpr ⟨ra_1_5 L xs, List.forall_mem_cons.mpr ⟨ra_1_6 L xs, List.forall_mem_cons.mpr ⟨ra_1_7 L xs, List.forall_mem_cons.mpr ⟨ra_2_0 L xs, List.forall_mem_cons.mpr ⟨ra_2_1 L xs, List.forall_mem_cons.mpr ⟨ra_5_0 L xs, List.forall_mem_cons.mpr ⟨ra_5_1 L xs, List.forall_mem_cons.mpr ⟨ra_5_2 L xs, List.forall_mem_cons.mpr ⟨ra_9_0 L xs, List.forall_mem_cons.mpr ⟨ra_9_1 L xs, List.forall_mem_cons.mpr ⟨ra_9_2 L xs, List.forall_mem_cons.mpr ⟨ra_9_3 L xs, List.forall_mem_cons.mpr ⟨ra_13_0 L xs, List.forall_mem_cons.mpr ⟨ra_13_1 L xs, List.forall_mem_cons.mpr ⟨ra_14_0 L xs, List.forall_mem_cons.mpr ⟨ra_16_0 L xs, List.forall_mem_cons.mpr ⟨ra_16_1 L xs, List.forall_mem_cons.mpr ⟨ra_16_2 L xs, List.forall_mem_cons.mpr ⟨ra_16_3 L xs, List.forall_mem_cons.mpr ⟨ra_20_0 L xs, List.forall_mem_cons.mpr ⟨ra_20_1 L xs, List.forall_mem_cons.mpr ⟨ra_23_0 L xs, List.forall_mem_cons.mpr ⟨ra_23_1 L xs, List.forall_mem_cons.mpr ⟨ra_23_2 L xs, List.forall_mem_cons.mpr ⟨ra_23_3 L xs, List.forall_mem_cons.mpr ⟨ra_23_4 L xs, List.forall_mem_cons.mpr ⟨ra_33_5 L xs, List.forall_mem_cons.mpr ⟨ra_33_6 L xs, List.forall_mem_cons.mpr ⟨ra_33_7 L xs, List.forall_mem_cons.mpr ⟨ra_33_8 L xs, List.forall_mem_cons.mpr ⟨ra_33_9 L xs, List.forall_mem_cons.mpr ⟨ra_33_10 L xs, List.forall_mem_cons.mpr ⟨ra_33_12 L xs, List.forall_mem_cons.mpr ⟨ra_33_13 L xs, List.forall_mem_cons.mpr ⟨ra_33_14 L xs, List.forall_mem_cons.mpr ⟨ra_33_15 L xs, List.forall_mem_cons.mpr ⟨ra_33_16 L xs, List.forall_mem_cons.mpr ⟨ra_33_17 L xs, List.forall_mem_cons.mpr ⟨ra_33_18 L xs, List.forall_mem_cons.mpr ⟨ra_33_19 L xs, List.forall_mem_cons.mpr ⟨ra_33_20 L xs, List.forall_mem_cons.mpr ⟨ra_33_21 L xs, List.forall_mem_cons.mpr ⟨ra_33_22 L xs, List.forall_mem_cons.mpr ⟨ra_33_23 L xs, List.forall_mem_cons.mpr ⟨ra_33_27 L xs, List.forall_mem_cons.mpr ⟨ra_33_28 L xs, List.forall_mem_cons.mpr ⟨ra_33_29 L xs, List.forall_mem_cons.mpr ⟨ra_33_30 L xs, List.forall_mem_cons.mpr ⟨ra_33_31 L xs, List.forall_mem_cons.mpr ⟨ra_33_32 L xs, List.forall_mem_cons.mpr ⟨ra_33_33 L xs, List.forall_mem_cons.mpr ⟨ra_33_34 L xs, List.forall_mem_cons.mpr ⟨ra_33_35 L xs, List.forall_mem_cons.mpr ⟨ra_33_39 L xs, List.forall_mem_cons.mpr ⟨ra_33_49 L xs, List.forall_mem_cons.mpr ⟨ra_33_52 L xs, List.forall_mem_cons.mpr ⟨ra_33_53 L xs, List.forall_mem_cons.mpr ⟨ra_33_55 L xs, List.forall_mem_cons.mpr ⟨ra_33_56 L xs, List.forall_mem_cons.mpr ⟨ra_33_57 L xs, List.forall_mem_cons.mpr ⟨ra_33_58 L xs, List.forall_mem_cons.mpr ⟨ra_33_59 L xs, fun _ h => absurd h List.not_mem_nil⟩⟩⟩⟩⟩⟩⟩⟩⟩⟩⟩⟩⟩⟩⟩⟩⟩⟩⟩⟩⟩⟩⟩⟩⟩⟩⟩⟩⟩⟩⟩⟩⟩⟩⟩⟩⟩⟩⟩⟩⟩⟩⟩⟩⟩⟩⟩⟩⟩⟩⟩⟩⟩⟩⟩⟩⟩⟩⟩⟩⟩⟩⟩⟩⟩⟩⟩, by rw [show hN (KA L xs) = 69 from hn_149 L xs]; decide⟩
