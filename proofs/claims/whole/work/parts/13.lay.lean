/-! the cells that the two constructors make: by program -/
-- 1.stable = 2
-- 1.day = 5
-- 1.lays = 9
-- 1.teams = 13
-- 1.tape = 14
-- 1.reader = 16
-- 1.pricer = 20
-- 1.book = 23
-- 1.standing = 29
-- 2.horses = 3
-- 2.laterMates = 4
-- 5.ways = 6
-- 5.jobs = 7
-- 5.byBegin = 8
-- 9.day = 5
-- 9.chainKeys = 10
-- 9.layKeys = 11
-- 9.chainOf = 12
-- 13.stable = 2
-- 13.day = 5
-- 14.bytes = 15
-- 16.tape = 14
-- 16.codes = 17
-- 16.whenEnds = 18
-- 16.priceEnds = 19
-- 20.stack = 21
-- 20.names = 22
-- 23.carriages = 24
-- 23.froms = 25
-- 23.tos = 26
-- 23.tolds = 27
-- 23.untolds = 28
-- 29.codes = 30
-- 29.whenEnds = 31
-- 29.priceEnds = 32
-- 33.colour = 34
-- 33.height = 35
-- 33.pace = 36
-- 33.power = 37
-- 33.isLame = 38
-- 33.ways = 39
-- 33.kind = 40
-- 33.from = 41
-- 33.to = 42
-- 33.begin = 43
-- 33.wait = 44
-- 33.needs = 45
-- 33.team = 46
-- 33.isDropped = 47
-- 33.steps = 48
-- 33.numbers = 49
-- 33.lineAt = 50
-- 33.lines = 51
-- 33.on = 52
-- 33.inOrder = 53
-- 33.chainOf = 54
-- 33.best = 55
-- 33.most = 56
-- 33.last = 57
-- 33.newSteps = 58
-- 33.newNumbers = 59
-- 33.newAt = 60
-- 33.tape = 61
-- 33.waits = 62
-- 33.pile = 63
-- 33.names = 64
-- 33.entryOf = 65
-- 33.brokenFrom = 66
-- 33.brokenTo = 67
-- 33.toldAt = 68
-- 33.untoldAt = 69
def fixK : List (Nat × Nat × Nat) := [(1, 12, 9), (2, 9, 5), (3, 24, 16), (4, 20, 16), (5, 2, 6), (6, 20, 64), (7, 25, 10), (8, 20, 10), (9, 5, 7), (10, 23, 1024), (11, 23, 1024), (12, 20, 10), (13, 11, 3), (14, 10, 2), (15, 21, 600), (16, 7, 13), (17, 20, 600), (18, 20, 10), (19, 20, 10), (20, 8, 3), (21, 20, 100), (22, 20, 6), (23, 1, 6), (24, 20, 40), (25, 20, 40), (26, 20, 40), (27, 20, 40), (28, 20, 40), (33, 13, 60), (34, 20, 16), (35, 20, 16), (36, 20, 16), (37, 20, 16), (38, 22, 16), (39, 20, 64), (40, 20, 10), (41, 20, 10), (42, 20, 10), (43, 20, 10), (44, 20, 10), (45, 20, 10), (46, 20, 10), (47, 22, 10), (48, 20, 6600), (49, 20, 6600), (50, 20, 242), (51, 20, 11), (52, 20, 10), (53, 20, 10), (54, 20, 10), (55, 20, 10), (56, 20, 11), (57, 20, 10), (58, 20, 600), (59, 20, 600), (60, 20, 22), (61, 20, 600), (62, 20, 400), (63, 20, 300), (64, 20, 6), (65, 20, 40), (66, 20, 40), (67, 20, 40), (68, 20, 40), (69, 20, 40)]
def fixR : List ((Nat × Nat) × Nat) := [((1, 0), 2), ((1, 1), 5), ((1, 2), 9), ((1, 3), 13), ((1, 4), 14), ((1, 5), 16), ((1, 6), 20), ((1, 7), 23), ((2, 0), 3), ((2, 1), 4), ((5, 0), 6), ((5, 1), 7), ((5, 2), 8), ((9, 0), 5), ((9, 1), 10), ((9, 2), 11), ((9, 3), 12), ((13, 0), 2), ((13, 1), 5), ((14, 0), 15), ((16, 0), 14), ((16, 1), 17), ((16, 2), 18), ((16, 3), 19), ((20, 0), 21), ((20, 1), 22), ((23, 0), 24), ((23, 1), 25), ((23, 2), 26), ((23, 3), 27), ((23, 4), 28), ((33, 5), 34), ((33, 6), 35), ((33, 7), 36), ((33, 8), 37), ((33, 9), 38), ((33, 10), 39), ((33, 12), 40), ((33, 13), 41), ((33, 14), 42), ((33, 15), 43), ((33, 16), 44), ((33, 17), 45), ((33, 18), 46), ((33, 19), 47), ((33, 20), 48), ((33, 21), 49), ((33, 22), 50), ((33, 23), 51), ((33, 27), 52), ((33, 28), 53), ((33, 29), 54), ((33, 30), 55), ((33, 31), 56), ((33, 32), 57), ((33, 33), 58), ((33, 34), 59), ((33, 35), 60), ((33, 39), 61), ((33, 49), 62), ((33, 52), 63), ((33, 53), 64), ((33, 55), 65), ((33, 56), 66), ((33, 57), 67), ((33, 58), 68), ((33, 59), 69)]
def Fix (H : PH) : Prop := (∀ e ∈ fixK, hK H e.1 = e.2) ∧ (∀ e ∈ fixR, hR H e.1.1 e.1.2 = some e.2) ∧ 69 ≤ hN H
theorem fk_1 {H : PH} (h : Fix H) : hK H 1 = (12, 9) := h.1 (1, 12, 9) (by decide)
theorem fk_2 {H : PH} (h : Fix H) : hK H 2 = (9, 5) := h.1 (2, 9, 5) (by decide)
theorem fk_3 {H : PH} (h : Fix H) : hK H 3 = (24, 16) := h.1 (3, 24, 16) (by decide)
theorem fk_4 {H : PH} (h : Fix H) : hK H 4 = (20, 16) := h.1 (4, 20, 16) (by decide)
theorem fk_5 {H : PH} (h : Fix H) : hK H 5 = (2, 6) := h.1 (5, 2, 6) (by decide)
theorem fk_6 {H : PH} (h : Fix H) : hK H 6 = (20, 64) := h.1 (6, 20, 64) (by decide)
theorem fk_7 {H : PH} (h : Fix H) : hK H 7 = (25, 10) := h.1 (7, 25, 10) (by decide)
theorem fk_8 {H : PH} (h : Fix H) : hK H 8 = (20, 10) := h.1 (8, 20, 10) (by decide)
theorem fk_9 {H : PH} (h : Fix H) : hK H 9 = (5, 7) := h.1 (9, 5, 7) (by decide)
theorem fk_10 {H : PH} (h : Fix H) : hK H 10 = (23, 1024) := h.1 (10, 23, 1024) (by decide)
theorem fk_11 {H : PH} (h : Fix H) : hK H 11 = (23, 1024) := h.1 (11, 23, 1024) (by decide)
theorem fk_12 {H : PH} (h : Fix H) : hK H 12 = (20, 10) := h.1 (12, 20, 10) (by decide)
theorem fk_13 {H : PH} (h : Fix H) : hK H 13 = (11, 3) := h.1 (13, 11, 3) (by decide)
theorem fk_14 {H : PH} (h : Fix H) : hK H 14 = (10, 2) := h.1 (14, 10, 2) (by decide)
theorem fk_15 {H : PH} (h : Fix H) : hK H 15 = (21, 600) := h.1 (15, 21, 600) (by decide)
theorem fk_16 {H : PH} (h : Fix H) : hK H 16 = (7, 13) := h.1 (16, 7, 13) (by decide)
theorem fk_17 {H : PH} (h : Fix H) : hK H 17 = (20, 600) := h.1 (17, 20, 600) (by decide)
theorem fk_18 {H : PH} (h : Fix H) : hK H 18 = (20, 10) := h.1 (18, 20, 10) (by decide)
theorem fk_19 {H : PH} (h : Fix H) : hK H 19 = (20, 10) := h.1 (19, 20, 10) (by decide)
theorem fk_20 {H : PH} (h : Fix H) : hK H 20 = (8, 3) := h.1 (20, 8, 3) (by decide)
theorem fk_21 {H : PH} (h : Fix H) : hK H 21 = (20, 100) := h.1 (21, 20, 100) (by decide)
theorem fk_22 {H : PH} (h : Fix H) : hK H 22 = (20, 6) := h.1 (22, 20, 6) (by decide)
theorem fk_23 {H : PH} (h : Fix H) : hK H 23 = (1, 6) := h.1 (23, 1, 6) (by decide)
theorem fk_24 {H : PH} (h : Fix H) : hK H 24 = (20, 40) := h.1 (24, 20, 40) (by decide)
theorem fk_25 {H : PH} (h : Fix H) : hK H 25 = (20, 40) := h.1 (25, 20, 40) (by decide)
theorem fk_26 {H : PH} (h : Fix H) : hK H 26 = (20, 40) := h.1 (26, 20, 40) (by decide)
theorem fk_27 {H : PH} (h : Fix H) : hK H 27 = (20, 40) := h.1 (27, 20, 40) (by decide)
theorem fk_28 {H : PH} (h : Fix H) : hK H 28 = (20, 40) := h.1 (28, 20, 40) (by decide)
theorem fk_33 {H : PH} (h : Fix H) : hK H 33 = (13, 60) := h.1 (33, 13, 60) (by decide)
theorem fk_34 {H : PH} (h : Fix H) : hK H 34 = (20, 16) := h.1 (34, 20, 16) (by decide)
theorem fk_35 {H : PH} (h : Fix H) : hK H 35 = (20, 16) := h.1 (35, 20, 16) (by decide)
theorem fk_36 {H : PH} (h : Fix H) : hK H 36 = (20, 16) := h.1 (36, 20, 16) (by decide)
theorem fk_37 {H : PH} (h : Fix H) : hK H 37 = (20, 16) := h.1 (37, 20, 16) (by decide)
theorem fk_38 {H : PH} (h : Fix H) : hK H 38 = (22, 16) := h.1 (38, 22, 16) (by decide)
theorem fk_39 {H : PH} (h : Fix H) : hK H 39 = (20, 64) := h.1 (39, 20, 64) (by decide)
theorem fk_40 {H : PH} (h : Fix H) : hK H 40 = (20, 10) := h.1 (40, 20, 10) (by decide)
theorem fk_41 {H : PH} (h : Fix H) : hK H 41 = (20, 10) := h.1 (41, 20, 10) (by decide)
theorem fk_42 {H : PH} (h : Fix H) : hK H 42 = (20, 10) := h.1 (42, 20, 10) (by decide)
theorem fk_43 {H : PH} (h : Fix H) : hK H 43 = (20, 10) := h.1 (43, 20, 10) (by decide)
theorem fk_44 {H : PH} (h : Fix H) : hK H 44 = (20, 10) := h.1 (44, 20, 10) (by decide)
theorem fk_45 {H : PH} (h : Fix H) : hK H 45 = (20, 10) := h.1 (45, 20, 10) (by decide)
theorem fk_46 {H : PH} (h : Fix H) : hK H 46 = (20, 10) := h.1 (46, 20, 10) (by decide)
theorem fk_47 {H : PH} (h : Fix H) : hK H 47 = (22, 10) := h.1 (47, 22, 10) (by decide)
theorem fk_48 {H : PH} (h : Fix H) : hK H 48 = (20, 6600) := h.1 (48, 20, 6600) (by decide)
theorem fk_49 {H : PH} (h : Fix H) : hK H 49 = (20, 6600) := h.1 (49, 20, 6600) (by decide)
theorem fk_50 {H : PH} (h : Fix H) : hK H 50 = (20, 242) := h.1 (50, 20, 242) (by decide)
theorem fk_51 {H : PH} (h : Fix H) : hK H 51 = (20, 11) := h.1 (51, 20, 11) (by decide)
theorem fk_52 {H : PH} (h : Fix H) : hK H 52 = (20, 10) := h.1 (52, 20, 10) (by decide)
theorem fk_53 {H : PH} (h : Fix H) : hK H 53 = (20, 10) := h.1 (53, 20, 10) (by decide)
theorem fk_54 {H : PH} (h : Fix H) : hK H 54 = (20, 10) := h.1 (54, 20, 10) (by decide)
theorem fk_55 {H : PH} (h : Fix H) : hK H 55 = (20, 10) := h.1 (55, 20, 10) (by decide)
theorem fk_56 {H : PH} (h : Fix H) : hK H 56 = (20, 11) := h.1 (56, 20, 11) (by decide)
theorem fk_57 {H : PH} (h : Fix H) : hK H 57 = (20, 10) := h.1 (57, 20, 10) (by decide)
theorem fk_58 {H : PH} (h : Fix H) : hK H 58 = (20, 600) := h.1 (58, 20, 600) (by decide)
theorem fk_59 {H : PH} (h : Fix H) : hK H 59 = (20, 600) := h.1 (59, 20, 600) (by decide)
theorem fk_60 {H : PH} (h : Fix H) : hK H 60 = (20, 22) := h.1 (60, 20, 22) (by decide)
theorem fk_61 {H : PH} (h : Fix H) : hK H 61 = (20, 600) := h.1 (61, 20, 600) (by decide)
theorem fk_62 {H : PH} (h : Fix H) : hK H 62 = (20, 400) := h.1 (62, 20, 400) (by decide)
theorem fk_63 {H : PH} (h : Fix H) : hK H 63 = (20, 300) := h.1 (63, 20, 300) (by decide)
theorem fk_64 {H : PH} (h : Fix H) : hK H 64 = (20, 6) := h.1 (64, 20, 6) (by decide)
theorem fk_65 {H : PH} (h : Fix H) : hK H 65 = (20, 40) := h.1 (65, 20, 40) (by decide)
theorem fk_66 {H : PH} (h : Fix H) : hK H 66 = (20, 40) := h.1 (66, 20, 40) (by decide)
theorem fk_67 {H : PH} (h : Fix H) : hK H 67 = (20, 40) := h.1 (67, 20, 40) (by decide)
theorem fk_68 {H : PH} (h : Fix H) : hK H 68 = (20, 40) := h.1 (68, 20, 40) (by decide)
theorem fk_69 {H : PH} (h : Fix H) : hK H 69 = (20, 40) := h.1 (69, 20, 40) (by decide)
theorem fr_1_0 {H : PH} (h : Fix H) : hR H 1 0 = some 2 := h.2.1 ((1, 0), 2) (by decide)
theorem fr_1_1 {H : PH} (h : Fix H) : hR H 1 1 = some 5 := h.2.1 ((1, 1), 5) (by decide)
theorem fr_1_2 {H : PH} (h : Fix H) : hR H 1 2 = some 9 := h.2.1 ((1, 2), 9) (by decide)
theorem fr_1_3 {H : PH} (h : Fix H) : hR H 1 3 = some 13 := h.2.1 ((1, 3), 13) (by decide)
theorem fr_1_4 {H : PH} (h : Fix H) : hR H 1 4 = some 14 := h.2.1 ((1, 4), 14) (by decide)
theorem fr_1_5 {H : PH} (h : Fix H) : hR H 1 5 = some 16 := h.2.1 ((1, 5), 16) (by decide)
theorem fr_1_6 {H : PH} (h : Fix H) : hR H 1 6 = some 20 := h.2.1 ((1, 6), 20) (by decide)
theorem fr_1_7 {H : PH} (h : Fix H) : hR H 1 7 = some 23 := h.2.1 ((1, 7), 23) (by decide)
theorem fr_2_0 {H : PH} (h : Fix H) : hR H 2 0 = some 3 := h.2.1 ((2, 0), 3) (by decide)
theorem fr_2_1 {H : PH} (h : Fix H) : hR H 2 1 = some 4 := h.2.1 ((2, 1), 4) (by decide)
theorem fr_5_0 {H : PH} (h : Fix H) : hR H 5 0 = some 6 := h.2.1 ((5, 0), 6) (by decide)
theorem fr_5_1 {H : PH} (h : Fix H) : hR H 5 1 = some 7 := h.2.1 ((5, 1), 7) (by decide)
theorem fr_5_2 {H : PH} (h : Fix H) : hR H 5 2 = some 8 := h.2.1 ((5, 2), 8) (by decide)
theorem fr_9_0 {H : PH} (h : Fix H) : hR H 9 0 = some 5 := h.2.1 ((9, 0), 5) (by decide)
theorem fr_9_1 {H : PH} (h : Fix H) : hR H 9 1 = some 10 := h.2.1 ((9, 1), 10) (by decide)
theorem fr_9_2 {H : PH} (h : Fix H) : hR H 9 2 = some 11 := h.2.1 ((9, 2), 11) (by decide)
theorem fr_9_3 {H : PH} (h : Fix H) : hR H 9 3 = some 12 := h.2.1 ((9, 3), 12) (by decide)
theorem fr_13_0 {H : PH} (h : Fix H) : hR H 13 0 = some 2 := h.2.1 ((13, 0), 2) (by decide)
theorem fr_13_1 {H : PH} (h : Fix H) : hR H 13 1 = some 5 := h.2.1 ((13, 1), 5) (by decide)
theorem fr_14_0 {H : PH} (h : Fix H) : hR H 14 0 = some 15 := h.2.1 ((14, 0), 15) (by decide)
theorem fr_16_0 {H : PH} (h : Fix H) : hR H 16 0 = some 14 := h.2.1 ((16, 0), 14) (by decide)
theorem fr_16_1 {H : PH} (h : Fix H) : hR H 16 1 = some 17 := h.2.1 ((16, 1), 17) (by decide)
theorem fr_16_2 {H : PH} (h : Fix H) : hR H 16 2 = some 18 := h.2.1 ((16, 2), 18) (by decide)
theorem fr_16_3 {H : PH} (h : Fix H) : hR H 16 3 = some 19 := h.2.1 ((16, 3), 19) (by decide)
theorem fr_20_0 {H : PH} (h : Fix H) : hR H 20 0 = some 21 := h.2.1 ((20, 0), 21) (by decide)
theorem fr_20_1 {H : PH} (h : Fix H) : hR H 20 1 = some 22 := h.2.1 ((20, 1), 22) (by decide)
theorem fr_23_0 {H : PH} (h : Fix H) : hR H 23 0 = some 24 := h.2.1 ((23, 0), 24) (by decide)
theorem fr_23_1 {H : PH} (h : Fix H) : hR H 23 1 = some 25 := h.2.1 ((23, 1), 25) (by decide)
theorem fr_23_2 {H : PH} (h : Fix H) : hR H 23 2 = some 26 := h.2.1 ((23, 2), 26) (by decide)
theorem fr_23_3 {H : PH} (h : Fix H) : hR H 23 3 = some 27 := h.2.1 ((23, 3), 27) (by decide)
theorem fr_23_4 {H : PH} (h : Fix H) : hR H 23 4 = some 28 := h.2.1 ((23, 4), 28) (by decide)
theorem fr_33_5 {H : PH} (h : Fix H) : hR H 33 5 = some 34 := h.2.1 ((33, 5), 34) (by decide)
theorem fr_33_6 {H : PH} (h : Fix H) : hR H 33 6 = some 35 := h.2.1 ((33, 6), 35) (by decide)
theorem fr_33_7 {H : PH} (h : Fix H) : hR H 33 7 = some 36 := h.2.1 ((33, 7), 36) (by decide)
theorem fr_33_8 {H : PH} (h : Fix H) : hR H 33 8 = some 37 := h.2.1 ((33, 8), 37) (by decide)
theorem fr_33_9 {H : PH} (h : Fix H) : hR H 33 9 = some 38 := h.2.1 ((33, 9), 38) (by decide)
theorem fr_33_10 {H : PH} (h : Fix H) : hR H 33 10 = some 39 := h.2.1 ((33, 10), 39) (by decide)
theorem fr_33_12 {H : PH} (h : Fix H) : hR H 33 12 = some 40 := h.2.1 ((33, 12), 40) (by decide)
theorem fr_33_13 {H : PH} (h : Fix H) : hR H 33 13 = some 41 := h.2.1 ((33, 13), 41) (by decide)
theorem fr_33_14 {H : PH} (h : Fix H) : hR H 33 14 = some 42 := h.2.1 ((33, 14), 42) (by decide)
theorem fr_33_15 {H : PH} (h : Fix H) : hR H 33 15 = some 43 := h.2.1 ((33, 15), 43) (by decide)
theorem fr_33_16 {H : PH} (h : Fix H) : hR H 33 16 = some 44 := h.2.1 ((33, 16), 44) (by decide)
theorem fr_33_17 {H : PH} (h : Fix H) : hR H 33 17 = some 45 := h.2.1 ((33, 17), 45) (by decide)
theorem fr_33_18 {H : PH} (h : Fix H) : hR H 33 18 = some 46 := h.2.1 ((33, 18), 46) (by decide)
theorem fr_33_19 {H : PH} (h : Fix H) : hR H 33 19 = some 47 := h.2.1 ((33, 19), 47) (by decide)
theorem fr_33_20 {H : PH} (h : Fix H) : hR H 33 20 = some 48 := h.2.1 ((33, 20), 48) (by decide)
theorem fr_33_21 {H : PH} (h : Fix H) : hR H 33 21 = some 49 := h.2.1 ((33, 21), 49) (by decide)
theorem fr_33_22 {H : PH} (h : Fix H) : hR H 33 22 = some 50 := h.2.1 ((33, 22), 50) (by decide)
theorem fr_33_23 {H : PH} (h : Fix H) : hR H 33 23 = some 51 := h.2.1 ((33, 23), 51) (by decide)
theorem fr_33_27 {H : PH} (h : Fix H) : hR H 33 27 = some 52 := h.2.1 ((33, 27), 52) (by decide)
theorem fr_33_28 {H : PH} (h : Fix H) : hR H 33 28 = some 53 := h.2.1 ((33, 28), 53) (by decide)
theorem fr_33_29 {H : PH} (h : Fix H) : hR H 33 29 = some 54 := h.2.1 ((33, 29), 54) (by decide)
theorem fr_33_30 {H : PH} (h : Fix H) : hR H 33 30 = some 55 := h.2.1 ((33, 30), 55) (by decide)
theorem fr_33_31 {H : PH} (h : Fix H) : hR H 33 31 = some 56 := h.2.1 ((33, 31), 56) (by decide)
theorem fr_33_32 {H : PH} (h : Fix H) : hR H 33 32 = some 57 := h.2.1 ((33, 32), 57) (by decide)
theorem fr_33_33 {H : PH} (h : Fix H) : hR H 33 33 = some 58 := h.2.1 ((33, 33), 58) (by decide)
theorem fr_33_34 {H : PH} (h : Fix H) : hR H 33 34 = some 59 := h.2.1 ((33, 34), 59) (by decide)
theorem fr_33_35 {H : PH} (h : Fix H) : hR H 33 35 = some 60 := h.2.1 ((33, 35), 60) (by decide)
theorem fr_33_39 {H : PH} (h : Fix H) : hR H 33 39 = some 61 := h.2.1 ((33, 39), 61) (by decide)
theorem fr_33_49 {H : PH} (h : Fix H) : hR H 33 49 = some 62 := h.2.1 ((33, 49), 62) (by decide)
theorem fr_33_52 {H : PH} (h : Fix H) : hR H 33 52 = some 63 := h.2.1 ((33, 52), 63) (by decide)
theorem fr_33_53 {H : PH} (h : Fix H) : hR H 33 53 = some 64 := h.2.1 ((33, 53), 64) (by decide)
theorem fr_33_55 {H : PH} (h : Fix H) : hR H 33 55 = some 65 := h.2.1 ((33, 55), 65) (by decide)
theorem fr_33_56 {H : PH} (h : Fix H) : hR H 33 56 = some 66 := h.2.1 ((33, 56), 66) (by decide)
theorem fr_33_57 {H : PH} (h : Fix H) : hR H 33 57 = some 67 := h.2.1 ((33, 57), 67) (by decide)
theorem fr_33_58 {H : PH} (h : Fix H) : hR H 33 58 = some 68 := h.2.1 ((33, 58), 68) (by decide)
theorem fr_33_59 {H : PH} (h : Fix H) : hR H 33 59 = some 69 := h.2.1 ((33, 59), 69) (by decide)
