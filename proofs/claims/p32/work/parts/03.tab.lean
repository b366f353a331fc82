/-! printed by wip/whole/gen.py out of the listings: ids of the cells in the order of their making, field and method links, rooms -/
def AO : List Nat := [5, 7, 64, 65, 66, 4, 8, 9, 3, 10, 11, 12, 13, 14, 15, 16, 17, 18, 19, 67, 68, 69, 70, 71, 72, 73, 74, 75, 76, 77, 78, 79, 80, 81, 82, 83, 84, 85, 86, 87, 88, 89, 90, 91, 92, 93, 94, 95, 96, 97, 98, 99, 100, 101, 102, 103, 104, 105, 106, 2, 20, 21, 22, 23, 1, 24, 25, 26, 27, 0, 28, 29, 30, 31, 32, 33, 34, 35, 36, 37, 38, 39, 40, 41, 42, 43]
abbrev NB : Nat := 86
abbrev OUTI : Nat := 0
abbrev SCR : Nat := 63
abbrev ROWB : Nat := 64
abbrev ROWN : Nat := 43
def kinL : List Nat := [6, 6, 6, 6, 6, 6, 0, 4, 1, 1, 1, 1, 1, 1, 1, 1, 2, 1, 1, 4, 1, 1, 1, 2, 1, 1, 2, 2, 1, 1, 1, 1, 1, 3, 3, 3, 3, 3, 3, 3, 3, 3, 3, 3, 0, 0, 0, 0, 0, 0, 0, 0, 0, 0, 0, 0, 0, 0, 0, 0, 0, 0, 0, 0, 1, 1, 1, 1, 1, 1, 1, 1, 1, 1, 1, 1, 1, 1, 1, 1, 1, 1, 1, 1, 1, 1, 1, 1, 1, 1, 1, 1, 1, 1, 1, 1, 1, 1, 1, 1, 1, 1, 1, 1, 1, 1, 1]
def lnL : List Nat := [6, 4, 7, 12, 2, 8, 0, 3, 12, 12, 40, 40, 40, 40, 40, 40, 40, 40, 40, 40, 10, 10, 10, 10, 4, 4, 4, 4, 522, 522, 522, 522, 40, 21, 20, 20, 60, 9, 12, 10, 11, 5, 64, 10, 0, 0, 0, 0, 0, 0, 0, 0, 0, 0, 0, 0, 0, 0, 0, 0, 0, 0, 0, 0, 12, 12, 12, 12, 12, 12, 12, 12, 12, 12, 12, 12, 12, 12, 12, 12, 12, 12, 12, 12, 12, 12, 12, 12, 12, 12, 12, 12, 12, 12, 12, 12, 12, 12, 12, 12, 12, 12, 12, 12, 12, 12, 12]
def bsL : List Nat := [0, 0, 0, 0, 0, 0, 0, 64, 0, 0, 0, 0, 0, 0, 0, 0, 0, 0, 0, 67, 0, 0, 0, 0, 0, 0, 0, 0, 0, 0, 0, 0, 0, 0, 0, 0, 0, 0, 0, 0, 0, 0, 0, 0, 0, 0, 0, 0, 0, 0, 0, 0, 0, 0, 0, 0, 0, 0, 0, 0, 0, 0, 0, 0, 0, 0, 0, 0, 0, 0, 0, 0, 0, 0, 0, 0, 0, 0, 0, 0, 0, 0, 0, 0, 0, 0, 0, 0, 0, 0, 0, 0, 0, 0, 0, 0, 0, 0, 0, 0, 0, 0, 0, 0, 0, 0, 0]
def isRL : List (List Nat) := [[0, 0, 1, 1, 1, 1], [1, 1, 1, 1], [0, 0, 0, 1, 1, 1, 1], [0, 0, 1, 1, 1, 1, 1, 1, 1, 1, 1, 1], [1, 1], [1, 1, 1, 1, 1, 1, 1, 0]]
def R0L : List (List Value) := [[.null, .null, .ref 28, .ref 29, .ref 30, .ref 31], [.ref 24, .ref 25, .ref 26, .ref 27], [.null, .null, .null, .ref 20, .ref 21, .ref 22, .ref 23], [.null, .null, .ref 10, .ref 11, .ref 12, .ref 13, .ref 14, .ref 15, .ref 16, .ref 17, .ref 18, .ref 19], [.ref 8, .ref 9], [.ref 7, .ref 4, .ref 3, .ref 2, .ref 1, .ref 0, .ref 32, .null]]
def fTL : List (Nat × Nat × Nat × Nat) := [(0, 9, 0, 0), (0, 15, 0, 1), (0, 19, 0, 2), (0, 23, 0, 3), (0, 26, 0, 4), (0, 29, 0, 5), (1, 9, 1, 0), (1, 15, 1, 1), (1, 18, 1, 2), (1, 22, 1, 3), (2, 9, 2, 0), (2, 15, 2, 1), (2, 18, 2, 2), (2, 21, 2, 3), (2, 25, 2, 4), (2, 28, 2, 5), (2, 31, 2, 6), (3, 9, 3, 0), (3, 15, 3, 1), (3, 18, 3, 2), (3, 22, 3, 3), (3, 25, 3, 4), (3, 28, 3, 5), (3, 31, 3, 6), (3, 34, 3, 7), (3, 37, 3, 8), (3, 41, 3, 9), (3, 44, 3, 10), (3, 49, 3, 11), (4, 9, 4, 0), (4, 15, 4, 1), (5, 11, 5, 0), (5, 17, 5, 1), (5, 24, 5, 2), (5, 31, 5, 3), (5, 38, 5, 4), (5, 45, 5, 5), (5, 49, 5, 6), (5, 53, 5, 7), (5, 76, 3, 0), (5, 79, 3, 1), (5, 86, 3, 11), (5, 92, 4, 0), (5, 95, 4, 1), (5, 101, 3, 7), (5, 111, 3, 2), (5, 128, 3, 3), (5, 131, 3, 4), (5, 134, 3, 5), (5, 137, 3, 6), (5, 139, 3, 8), (5, 143, 3, 9), (5, 158, 3, 10), (5, 161, 2, 3), (5, 164, 1, 0), (5, 165, 1, 3), (5, 166, 1, 1), (5, 176, 2, 2), (5, 184, 2, 1), (5, 193, 2, 4), (5, 199, 2, 0), (5, 202, 2, 5), (5, 226, 2, 6), (5, 229, 0, 0), (5, 233, 0, 1), (5, 234, 0, 2), (5, 237, 0, 3), (5, 238, 0, 4), (5, 244, 0, 5), (5, 281, 1, 2)]
def mTL : List (Nat × Nat × Nat × Nat) := [(1, 25, 71, 1), (2, 35, 71, 1), (2, 41, 56, 3), (2, 45, 5, 0), (3, 52, 18, 1), (4, 18, 71, 1), (5, 16, 19, 2), (5, 23, 12, 4), (5, 30, 4, 2), (5, 37, 3, 2), (5, 44, 0, 4), (5, 57, 53, 1), (5, 61, 54, 1), (5, 65, 14, 0), (5, 69, 55, 1), (5, 72, 57, 0), (5, 82, 13, 0), (5, 89, 59, 0), (5, 97, 21, 0), (5, 104, 58, 0), (5, 108, 20, 0), (5, 114, 17, 0), (5, 118, 15, 0), (5, 121, 60, 0), (5, 124, 61, 0), (5, 146, 5, 0), (5, 149, 8, 0), (5, 152, 9, 0), (5, 155, 62, 0), (5, 169, 65, 0), (5, 173, 6, 0), (5, 179, 70, 1), (5, 187, 56, 1), (5, 190, 64, 0), (5, 196, 7, 0), (5, 205, 1, 0), (5, 208, 66, 0), (5, 211, 67, 0), (5, 214, 2, 0), (5, 217, 11, 0), (5, 220, 10, 0), (5, 223, 68, 0), (5, 241, 69, 0), (5, 264, 22, 0), (5, 267, 71, 1), (5, 273, 16, 0), (5, 277, 63, 0), (7, 8, 24, 0), (7, 14, 25, 0), (7, 17, 26, 0), (7, 20, 27, 0), (7, 23, 29, 0), (7, 27, 33, 0), (7, 31, 34, 0), (7, 34, 35, 0), (7, 37, 74, 1), (7, 43, 39, 0), (7, 46, 40, 0), (7, 50, 41, 0), (7, 53, 42, 0), (7, 56, 43, 0), (7, 59, 44, 0), (7, 62, 49, 0), (7, 65, 52, 0), (7, 68, 32, 0), (7, 80, 36, 0), (7, 84, 75, 1), (7, 87, 76, 1), (7, 91, 79, 1), (7, 95, 78, 1), (7, 98, 80, 1), (7, 102, 81, 1), (7, 105, 83, 1), (7, 109, 85, 1), (7, 111, 30, 0), (7, 114, 28, 0), (7, 116, 38, 0), (7, 119, 46, 0), (7, 123, 47, 0), (7, 126, 37, 0), (7, 129, 31, 0), (7, 132, 86, 1), (7, 135, 73, 5), (7, 139, 77, 1), (7, 143, 84, 1), (7, 147, 89, 1), (7, 151, 82, 1), (7, 155, 91, 1), (7, 158, 92, 1), (7, 161, 45, 0), (7, 165, 50, 0), (7, 169, 51, 0), (7, 172, 48, 0), (7, 175, 23, 2), (7, 176, 72, 1), (7, 180, 88, 1), (7, 184, 90, 1), (7, 188, 93, 1), (7, 192, 87, 1)]
def wat (s i : Nat) : Option Cond := match s with
  | 0 => (k2_sels lw_privs)[i]?
  | 1 => tables_1_1[i]?
  | 2 => tables_1_2[i]?
  | 3 => tables_1_3[i]?
  | _ => none
/-- the links to methods: owner, entry, the method called, the kind of call; and where the words for it stand in the tables -/
def mTH_0 : List ((Nat × Nat × Nat × Nat) × List (Nat × Nat)) := [((1, 25, 71, 1), [(1, 3), (1, 143), (1, 32), (1, 33)]), ((2, 35, 71, 1), [(1, 3), (1, 107), (1, 32), (1, 33)]), ((2, 41, 56, 3), [(1, 1), (2, 116), (2, 117), (2, 118)]), ((2, 45, 5, 0), [(1, 5), (3, 24), (2, 113), (2, 115), (2, 114)]), ((3, 52, 18, 1), [(1, 4), (2, 184), (2, 185), (2, 186)])]
def mTH_1 : List ((Nat × Nat × Nat × Nat) × List (Nat × Nat)) := [((4, 18, 71, 1), [(1, 3), (1, 31), (1, 32), (1, 33)]), ((5, 16, 19, 2), [(1, 2), (1, 27), (1, 28), (1, 29)]), ((5, 23, 12, 4), [(1, 4), (1, 46), (1, 47), (1, 48)]), ((5, 30, 4, 2), [(1, 5), (1, 103), (1, 104), (1, 105)]), ((5, 37, 3, 2), [(1, 6), (1, 139), (1, 140), (1, 141)])]
def mTH_2 : List ((Nat × Nat × Nat × Nat) × List (Nat × Nat)) := [((5, 44, 0, 4), [(1, 7), (1, 163), (1, 164), (1, 165)]), ((5, 57, 53, 1), [(1, 1), (1, 231), (1, 232), (1, 233)]), ((5, 61, 54, 1), [(1, 1), (2, 62), (2, 63), (2, 64)]), ((5, 65, 14, 0), [(1, 4), (2, 81), (2, 82), (2, 84), (2, 83)]), ((5, 69, 55, 1), [(1, 1), (2, 85), (2, 86), (2, 87)])]
def mTH_3 : List ((Nat × Nat × Nat × Nat) × List (Nat × Nat)) := [((5, 72, 57, 0), [(1, 1), (2, 108), (2, 110), (2, 111), (0, 1)]), ((5, 82, 13, 0), [(1, 4), (2, 119), (2, 120), (2, 122), (2, 121)]), ((5, 89, 59, 0), [(1, 1), (2, 123), (2, 125), (2, 126), (0, 2)]), ((5, 97, 21, 0), [(1, 2), (2, 156), (2, 157), (2, 159), (2, 158)]), ((5, 104, 58, 0), [(1, 1), (2, 164), (2, 166), (2, 167), (0, 6)])]
def mTH_4 : List ((Nat × Nat × Nat × Nat) × List (Nat × Nat)) := [((5, 108, 20, 0), [(1, 2), (2, 172), (2, 173), (2, 175), (2, 174)]), ((5, 114, 17, 0), [(1, 4), (2, 180), (2, 181), (2, 183), (2, 182)]), ((5, 118, 15, 0), [(1, 4), (3, 70), (3, 71), (3, 73), (3, 72)]), ((5, 121, 60, 0), [(1, 1), (3, 102), (3, 104), (3, 105), (0, 12)]), ((5, 124, 61, 0), [(1, 1), (3, 111), (3, 113), (3, 114), (0, 13)])]
def mTH_5 : List ((Nat × Nat × Nat × Nat) × List (Nat × Nat)) := [((5, 146, 5, 0), [(1, 5), (2, 112), (2, 113), (2, 115), (2, 114)]), ((5, 149, 8, 0), [(1, 5), (2, 191), (2, 192), (2, 194), (2, 193)]), ((5, 152, 9, 0), [(1, 5), (2, 195), (2, 196), (2, 198), (2, 197)]), ((5, 155, 62, 0), [(1, 1), (2, 199), (2, 201), (2, 202), (0, 7)]), ((5, 169, 65, 0), [(1, 1), (2, 136), (2, 138), (2, 139), (0, 4)])]
def mTH_6 : List ((Nat × Nat × Nat × Nat) × List (Nat × Nat)) := [((5, 173, 6, 0), [(1, 5), (2, 128), (2, 129), (2, 131), (2, 130)]), ((5, 179, 70, 1), [(1, 14), (2, 230), (2, 231), (2, 232)]), ((5, 187, 56, 1), [(1, 1), (2, 127), (2, 117), (2, 118)]), ((5, 190, 64, 0), [(1, 1), (2, 132), (2, 134), (2, 135), (0, 3)]), ((5, 196, 7, 0), [(1, 5), (2, 144), (2, 145), (2, 147), (2, 146)])]
def mTH_7 : List ((Nat × Nat × Nat × Nat) × List (Nat × Nat)) := [((5, 205, 1, 0), [(1, 7), (2, 148), (2, 149), (2, 151), (2, 150)]), ((5, 208, 66, 0), [(1, 1), (3, 4), (3, 6), (3, 7), (0, 8)]), ((5, 211, 67, 0), [(1, 1), (3, 12), (3, 14), (3, 15), (0, 9)]), ((5, 214, 2, 0), [(1, 7), (3, 90), (3, 91), (3, 93), (3, 92)]), ((5, 217, 11, 0), [(1, 5), (3, 29), (3, 30), (3, 32), (3, 31)])]
def mTH_8 : List ((Nat × Nat × Nat × Nat) × List (Nat × Nat)) := [((5, 220, 10, 0), [(1, 5), (3, 20), (3, 21), (3, 23), (3, 22)]), ((5, 223, 68, 0), [(1, 1), (3, 25), (3, 27), (3, 28), (0, 10)]), ((5, 241, 69, 0), [(1, 1), (3, 37), (3, 39), (3, 40), (0, 11)]), ((5, 264, 22, 0), [(1, 2), (2, 168), (2, 169), (2, 171), (2, 170)]), ((5, 267, 71, 1), [(1, 3), (3, 106), (1, 32), (1, 33)])]
def mTH_9 : List ((Nat × Nat × Nat × Nat) × List (Nat × Nat)) := [((5, 273, 16, 0), [(1, 4), (3, 107), (3, 108), (3, 110), (3, 109)]), ((5, 277, 63, 0), [(1, 1), (2, 140), (2, 142), (2, 143), (0, 5)]), ((7, 8, 24, 0), [(1, 1), (1, 227), (1, 228), (1, 230), (1, 229)])]
def mTH_10 : List ((Nat × Nat × Nat × Nat) × List (Nat × Nat)) := [((7, 14, 25, 0), [(1, 1), (2, 104), (2, 105), (2, 107), (2, 106)]), ((7, 17, 26, 0), [(1, 1), (2, 152), (2, 153), (2, 155), (2, 154)]), ((7, 20, 27, 0), [(1, 1), (2, 160), (2, 161), (2, 163), (2, 162)])]
def mTH_11 : List ((Nat × Nat × Nat × Nat) × List (Nat × Nat)) := [((7, 23, 29, 0), [(1, 1), (2, 176), (2, 177), (2, 179), (2, 178)]), ((7, 27, 33, 0), [(1, 1), (2, 187), (2, 188), (2, 190), (2, 189)]), ((7, 31, 34, 0), [(1, 1), (2, 203), (2, 204), (2, 206), (2, 205)])]
def mTH_12 : List ((Nat × Nat × Nat × Nat) × List (Nat × Nat)) := [((7, 34, 35, 0), [(1, 1), (2, 207), (2, 208), (2, 210), (2, 209)])]
def mTH_13 : List ((Nat × Nat × Nat × Nat) × List (Nat × Nat)) := [((7, 37, 74, 1), [(1, 0), (2, 211), (2, 212), (2, 213)])]
def mTH_14 : List ((Nat × Nat × Nat × Nat) × List (Nat × Nat)) := [((7, 43, 39, 0), [(1, 1), (2, 218), (2, 219), (2, 221), (2, 220)]), ((7, 46, 40, 0), [(1, 1), (2, 222), (2, 223), (2, 225), (2, 224)]), ((7, 50, 41, 0), [(1, 1), (2, 226), (2, 227), (2, 229), (2, 228)])]
def mTH_15 : List ((Nat × Nat × Nat × Nat) × List (Nat × Nat)) := [((7, 53, 42, 0), [(1, 1), (2, 236), (2, 237), (2, 239), (2, 238)]), ((7, 56, 43, 0), [(1, 1), (3, 0), (3, 1), (3, 3), (3, 2)]), ((7, 59, 44, 0), [(1, 1), (3, 8), (3, 9), (3, 11), (3, 10)])]
def mTH_16 : List ((Nat × Nat × Nat × Nat) × List (Nat × Nat)) := [((7, 62, 49, 0), [(1, 1), (3, 16), (3, 17), (3, 19), (3, 18)]), ((7, 65, 52, 0), [(1, 1), (3, 33), (3, 34), (3, 36), (3, 35)]), ((7, 68, 32, 0), [(1, 1), (3, 41), (3, 42), (3, 44), (3, 43)])]
def mTH_17 : List ((Nat × Nat × Nat × Nat) × List (Nat × Nat)) := [((7, 80, 36, 0), [(1, 1), (2, 214), (2, 215), (2, 217), (2, 216)])]
def mTH_18 : List ((Nat × Nat × Nat × Nat) × List (Nat × Nat)) := [((7, 84, 75, 1), [(1, 0), (3, 51), (3, 52), (3, 53)])]
def mTH_19 : List ((Nat × Nat × Nat × Nat) × List (Nat × Nat)) := [((7, 87, 76, 1), [(1, 0), (3, 54), (3, 55), (3, 56)])]
def mTH_20 : List ((Nat × Nat × Nat × Nat) × List (Nat × Nat)) := [((7, 91, 79, 1), [(1, 0), (3, 139), (3, 140), (3, 141)])]
def mTH_21 : List ((Nat × Nat × Nat × Nat) × List (Nat × Nat)) := [((7, 95, 78, 1), [(1, 0), (3, 136), (3, 137), (3, 138)])]
def mTH_22 : List ((Nat × Nat × Nat × Nat) × List (Nat × Nat)) := [((7, 98, 80, 1), [(1, 0), (3, 133), (3, 134), (3, 135)])]
def mTH_23 : List ((Nat × Nat × Nat × Nat) × List (Nat × Nat)) := [((7, 102, 81, 1), [(1, 0), (3, 130), (3, 131), (3, 132)])]
def mTH_24 : List ((Nat × Nat × Nat × Nat) × List (Nat × Nat)) := [((7, 105, 83, 1), [(1, 0), (3, 60), (3, 61), (3, 62)])]
def mTH_25 : List ((Nat × Nat × Nat × Nat) × List (Nat × Nat)) := [((7, 109, 85, 1), [(1, 0), (3, 63), (3, 64), (3, 65)])]
def mTH_26 : List ((Nat × Nat × Nat × Nat) × List (Nat × Nat)) := [((7, 111, 30, 0), [(1, 1), (3, 66), (3, 67), (3, 69), (3, 68)]), ((7, 114, 28, 0), [(1, 1), (3, 74), (3, 75), (3, 77), (3, 76)]), ((7, 116, 38, 0), [(1, 1), (3, 78), (3, 79), (3, 81), (3, 80)])]
def mTH_27 : List ((Nat × Nat × Nat × Nat) × List (Nat × Nat)) := [((7, 119, 46, 0), [(1, 1), (3, 82), (3, 83), (3, 85), (3, 84)]), ((7, 123, 47, 0), [(1, 1), (3, 86), (3, 87), (3, 89), (3, 88)]), ((7, 126, 37, 0), [(1, 1), (3, 94), (3, 95), (3, 97), (3, 96)])]
def mTH_28 : List ((Nat × Nat × Nat × Nat) × List (Nat × Nat)) := [((7, 129, 31, 0), [(1, 1), (3, 98), (3, 99), (3, 101), (3, 100)])]
def mTH_29 : List ((Nat × Nat × Nat × Nat) × List (Nat × Nat)) := [((7, 132, 86, 1), [(1, 0), (3, 115), (3, 116), (3, 117)])]
def mTH_30 : List ((Nat × Nat × Nat × Nat) × List (Nat × Nat)) := [((7, 135, 73, 5), [(1, 0), (1, 221), (1, 222), (1, 223)])]
def mTH_31 : List ((Nat × Nat × Nat × Nat) × List (Nat × Nat)) := [((7, 139, 77, 1), [(1, 0), (3, 48), (3, 49), (3, 50)])]
def mTH_32 : List ((Nat × Nat × Nat × Nat) × List (Nat × Nat)) := [((7, 143, 84, 1), [(1, 0), (3, 121), (3, 122), (3, 123)])]
def mTH_33 : List ((Nat × Nat × Nat × Nat) × List (Nat × Nat)) := [((7, 147, 89, 1), [(1, 0), (3, 124), (3, 125), (3, 126)])]
def mTH_34 : List ((Nat × Nat × Nat × Nat) × List (Nat × Nat)) := [((7, 151, 82, 1), [(1, 0), (3, 127), (3, 128), (3, 129)])]
def mTH_35 : List ((Nat × Nat × Nat × Nat) × List (Nat × Nat)) := [((7, 155, 91, 1), [(1, 0), (3, 148), (3, 149), (3, 150)])]
def mTH_36 : List ((Nat × Nat × Nat × Nat) × List (Nat × Nat)) := [((7, 158, 92, 1), [(1, 0), (3, 151), (3, 152), (3, 153)])]
def mTH_37 : List ((Nat × Nat × Nat × Nat) × List (Nat × Nat)) := [((7, 161, 45, 0), [(1, 1), (3, 154), (3, 155), (3, 157), (3, 156)]), ((7, 165, 50, 0), [(1, 1), (3, 158), (3, 159), (3, 161), (3, 160)]), ((7, 169, 51, 0), [(1, 1), (3, 162), (3, 163), (3, 165), (3, 164)])]
def mTH_38 : List ((Nat × Nat × Nat × Nat) × List (Nat × Nat)) := [((7, 172, 48, 0), [(1, 1), (3, 166), (3, 167), (3, 169), (3, 168)]), ((7, 175, 23, 2), [(1, 1), (1, 17), (1, 18), (1, 19)])]
def mTH_39 : List ((Nat × Nat × Nat × Nat) × List (Nat × Nat)) := [((7, 176, 72, 1), [(1, 0), (1, 217), (1, 218), (1, 219)])]
def mTH_40 : List ((Nat × Nat × Nat × Nat) × List (Nat × Nat)) := [((7, 180, 88, 1), [(1, 0), (3, 118), (3, 119), (3, 120)])]
def mTH_41 : List ((Nat × Nat × Nat × Nat) × List (Nat × Nat)) := [((7, 184, 90, 1), [(1, 0), (3, 142), (3, 143), (3, 144)])]
def mTH_42 : List ((Nat × Nat × Nat × Nat) × List (Nat × Nat)) := [((7, 188, 93, 1), [(1, 0), (3, 145), (3, 146), (3, 147)])]
def mTH_43 : List ((Nat × Nat × Nat × Nat) × List (Nat × Nat)) := [((7, 192, 87, 1), [(1, 0), (3, 57), (3, 58), (3, 59)])]
def mTH : List ((Nat × Nat × Nat × Nat) × List (Nat × Nat)) := mTH_0 ++ (mTH_1 ++ (mTH_2 ++ (mTH_3 ++ (mTH_4 ++ (mTH_5 ++ (mTH_6 ++ (mTH_7 ++ (mTH_8 ++ (mTH_9 ++ (mTH_10 ++ (mTH_11 ++ (mTH_12 ++ (mTH_13 ++ (mTH_14 ++ (mTH_15 ++ (mTH_16 ++ (mTH_17 ++ (mTH_18 ++ (mTH_19 ++ (mTH_20 ++ (mTH_21 ++ (mTH_22 ++ (mTH_23 ++ (mTH_24 ++ (mTH_25 ++ (mTH_26 ++ (mTH_27 ++ (mTH_28 ++ (mTH_29 ++ (mTH_30 ++ (mTH_31 ++ (mTH_32 ++ (mTH_33 ++ (mTH_34 ++ (mTH_35 ++ (mTH_36 ++ (mTH_37 ++ (mTH_38 ++ (mTH_39 ++ (mTH_40 ++ (mTH_41 ++ (mTH_42 ++ (mTH_43)))))))))))))))))))))))))))))))))))))))))))
def cTL : List (Nat × Nat × Nat) := [(5, 14, 4), (5, 21, 3), (5, 28, 2), (5, 35, 1), (5, 42, 0), (7, 9, 5)]
def oTL : List (Nat × Nat) := [(0, 3), (1, 3), (2, 3), (3, 3), (4, 3), (5, 3)]
def kTL : List (Nat × Nat × Int32) := [(7, 7, 2147483647), (7, 73, -3000000), (7, 76, -2000000), (7, 79, -1000000), (7, 179, 60000), (8, 265, 1431655765), (8, 266, 858993459), (8, 267, 252645135)]
def xTL : List (Nat × Nat × Nat) := [(5, 247, 0), (5, 254, 1), (5, 259, 2), (7, 71, 0), (7, 74, 1), (7, 77, 2)]
def cNm : Nat → String
  | 0 => RX0
  | 1 => RX1
  | 2 => RX2
  | 3 => RX3
  | 4 => RX4
  | 5 => RX5
  | 6 => RX6
  | 7 => RL
  | 8 => RJ6
  | _ => RJ7
def cTt : Nat → u_T
  | 0 => TX0
  | 1 => TX1
  | 2 => TX2
  | 3 => TX3
  | 4 => TX4
  | 5 => TX5
  | _ => TX6
def cTy : Nat → Nat → FieldType
  | 0 => tyX0
  | 1 => tyX1
  | 2 => tyX2
  | 3 => tyX3
  | 4 => tyX4
  | 5 => tyX5
  | _ => tyX6
abbrev nMeth : Nat := 95
def cY : Nat → MethodName
  | 0 => yX0_init
  | 1 => yX0_add
  | 2 => yX0_tellsKnown
  | 3 => yX1_init
  | 4 => yX2_init
  | 5 => yX2_isFree
  | 6 => yX2_isInformer
  | 7 => yX2_isListed
  | 8 => yX2_areAcquainted
  | 9 => yX2_acquaint
  | 10 => yX2_opensIn
  | 11 => yX2_lowestUnknown
  | 12 => yX3_init
  | 13 => yX3_add
  | 14 => yX3_anyOf
  | 15 => yX3_couldBeParent
  | 16 => yX3_canVote
  | 17 => yX3_distance
  | 18 => yX3_distanceAt
  | 19 => yX4_init
  | 20 => yX4_forget
  | 21 => yX4_countPlaces
  | 22 => yX4_apply
  | 23 => yX5_init
  | 24 => yX5_word
  | 25 => yX5_write
  | 26 => yX5_slip
  | 27 => yX5_type
  | 28 => yX5_reading
  | 29 => yX5_unlikely
  | 30 => yX5_likeliest
  | 31 => yX5_restored
  | 32 => yX5_sheetIs
  | 33 => yX5_meet
  | 34 => yX5_give
  | 35 => yX5_hide
  | 36 => yX5_burn
  | 37 => yX5_whoHad
  | 38 => yX5_knows
  | 39 => yX5_lend
  | 40 => yX5_file
  | 41 => yX5_informer
  | 42 => yX5_strong
  | 43 => yX5_arrest
  | 44 => yX5_search
  | 45 => yX5_amnesty
  | 46 => yX5_isKnown
  | 47 => yX5_isKnownAnew
  | 48 => yX5_risk
  | 49 => yX5_pass
  | 50 => yX5_life
  | 51 => yX5_open
  | 52 => yX5_line
  | 53 => yX5_needIndex
  | 54 => yX5_needArgument
  | 55 => yX5_needState
  | 56 => yX5_bit
  | 57 => yX5_canType
  | 58 => yX5_makeCopy
  | 59 => yX5_bringTo
  | 60 => yX5_castVotes
  | 61 => yX5_countVotes
  | 62 => yX5_tellOf
  | 63 => yX5_noteKnown
  | 64 => yX5_see
  | 65 => yX5_compareLetters
  | 66 => yX5_seizeSheets
  | 67 => yX5_seizeMachines
  | 68 => yX5_openOne
  | 69 => yX5_nameInArchive
  | 70 => yJ6_bitCount_0f7a4
  | 71 => yJ7_fill_53178
  | 72 => yL_part
  | 73 => yL_does
  | 74 => yL_burned
  | 75 => yL_unit
  | 76 => yL_reading
  | 77 => yL_reads
  | 78 => yL_known
  | 79 => yL_lines
  | 80 => yL_looks
  | 81 => yL_sees
  | 82 => yL_comes
  | 83 => yL_with
  | 84 => yL_isFree
  | 85 => yL_unlikely
  | 86 => yL_restored
  | 87 => yL_isSo
  | 88 => yL_isSheet
  | 89 => yL_adds
  | 90 => yL_isPerson
  | 91 => yL_count
  | 92 => yL_seizes
  | 93 => yL_isPolice
  | _ => yL_law
def cB : Nat → ByteArray
  | 0 => cX0_init
  | 1 => cX0_add
  | 2 => cX0_tellsKnown
  | 3 => cX1_init
  | 4 => cX2_init
  | 5 => cX2_isFree
  | 6 => cX2_isInformer
  | 7 => cX2_isListed
  | 8 => cX2_areAcquainted
  | 9 => cX2_acquaint
  | 10 => cX2_opensIn
  | 11 => cX2_lowestUnknown
  | 12 => cX3_init
  | 13 => cX3_add
  | 14 => cX3_anyOf
  | 15 => cX3_couldBeParent
  | 16 => cX3_canVote
  | 17 => cX3_distance
  | 18 => cX3_distanceAt
  | 19 => cX4_init
  | 20 => cX4_forget
  | 21 => cX4_countPlaces
  | 22 => cX4_apply
  | 23 => cX5_init
  | 24 => cX5_word
  | 25 => cX5_write
  | 26 => cX5_slip
  | 27 => cX5_type
  | 28 => cX5_reading
  | 29 => cX5_unlikely
  | 30 => cX5_likeliest
  | 31 => cX5_restored
  | 32 => cX5_sheetIs
  | 33 => cX5_meet
  | 34 => cX5_give
  | 35 => cX5_hide
  | 36 => cX5_burn
  | 37 => cX5_whoHad
  | 38 => cX5_knows
  | 39 => cX5_lend
  | 40 => cX5_file
  | 41 => cX5_informer
  | 42 => cX5_strong
  | 43 => cX5_arrest
  | 44 => cX5_search
  | 45 => cX5_amnesty
  | 46 => cX5_isKnown
  | 47 => cX5_isKnownAnew
  | 48 => cX5_risk
  | 49 => cX5_pass
  | 50 => cX5_life
  | 51 => cX5_open
  | 52 => cX5_line
  | 53 => cX5_needIndex
  | 54 => cX5_needArgument
  | 55 => cX5_needState
  | 56 => cX5_bit
  | 57 => cX5_canType
  | 58 => cX5_makeCopy
  | 59 => cX5_bringTo
  | 60 => cX5_castVotes
  | 61 => cX5_countVotes
  | 62 => cX5_tellOf
  | 63 => cX5_noteKnown
  | 64 => cX5_see
  | 65 => cX5_compareLetters
  | 66 => cX5_seizeSheets
  | 67 => cX5_seizeMachines
  | 68 => cX5_openOne
  | 69 => cX5_nameInArchive
  | 70 => cJ6_bitCount_0f7a4
  | 71 => cJ7_fill_53178
  | 72 => cL_part
  | 73 => cL_does
  | 74 => cL_burned
  | 75 => cL_unit
  | 76 => cL_reading
  | 77 => cL_reads
  | 78 => cL_known
  | 79 => cL_lines
  | 80 => cL_looks
  | 81 => cL_sees
  | 82 => cL_comes
  | 83 => cL_with
  | 84 => cL_isFree
  | 85 => cL_unlikely
  | 86 => cL_restored
  | 87 => cL_isSo
  | 88 => cL_isSheet
  | 89 => cL_adds
  | 90 => cL_isPerson
  | 91 => cL_count
  | 92 => cL_seizes
  | 93 => cL_isPolice
  | _ => code
def cN : Nat → Nat
  | 0 => 1
  | 1 => 5
  | 2 => 3
  | 3 => 1
  | 4 => 1
  | 5 => 2
  | 6 => 2
  | 7 => 2
  | 8 => 3
  | 9 => 3
  | 10 => 3
  | 11 => 5
  | 12 => 1
  | 13 => 6
  | 14 => 3
  | 15 => 3
  | 16 => 4
  | 17 => 5
  | 18 => 2
  | 19 => 1
  | 20 => 1
  | 21 => 3
  | 22 => 3
  | 23 => 3
  | 24 => 5
  | 25 => 6
  | 26 => 4
  | 27 => 7
  | 28 => 3
  | 29 => 3
  | 30 => 6
  | 31 => 7
  | 32 => 3
  | 33 => 4
  | 34 => 4
  | 35 => 4
  | 36 => 2
  | 37 => 6
  | 38 => 2
  | 39 => 4
  | 40 => 3
  | 41 => 4
  | 42 => 4
  | 43 => 2
  | 44 => 4
  | 45 => 2
  | 46 => 2
  | 47 => 2
  | 48 => 6
  | 49 => 4
  | 50 => 4
  | 51 => 1
  | 52 => 3
  | 53 => 2
  | 54 => 1
  | 55 => 1
  | 56 => 1
  | 57 => 3
  | 58 => 8
  | 59 => 3
  | 60 => 5
  | 61 => 4
  | 62 => 3
  | 63 => 4
  | 64 => 3
  | 65 => 2
  | 66 => 5
  | 67 => 3
  | 68 => 3
  | 69 => 2
  | 70 => 1
  | 71 => 4
  | 72 => 4
  | 73 => 6
  | 74 => 2
  | 75 => 3
  | 76 => 3
  | 77 => 4
  | 78 => 5
  | 79 => 5
  | 80 => 5
  | 81 => 4
  | 82 => 7
  | 83 => 2
  | 84 => 2
  | 85 => 7
  | 86 => 16
  | 87 => 20
  | 88 => 27
  | 89 => 11
  | 90 => 20
  | 91 => 3
  | 92 => 8
  | 93 => 23
  | _ => 18
def cR : Nat → Option FieldType
  | 0 => none
  | 1 => none
  | 2 => (some .boolean)
  | 3 => none
  | 4 => none
  | 5 => (some .boolean)
  | 6 => (some .boolean)
  | 7 => (some .boolean)
  | 8 => (some .boolean)
  | 9 => none
  | 10 => (some .boolean)
  | 11 => (some .int)
  | 12 => none
  | 13 => (some .int)
  | 14 => (some .boolean)
  | 15 => (some .boolean)
  | 16 => (some .boolean)
  | 17 => (some .int)
  | 18 => (some .int)
  | 19 => none
  | 20 => none
  | 21 => (some .int)
  | 22 => (some .int)
  | 23 => none
  | 24 => (some .int)
  | 25 => (some .int)
  | 26 => (some .int)
  | 27 => (some .int)
  | 28 => (some .int)
  | 29 => (some .int)
  | 30 => (some .int)
  | 31 => (some .int)
  | 32 => (some .int)
  | 33 => (some .boolean)
  | 34 => (some .int)
  | 35 => (some .int)
  | 36 => none
  | 37 => (some .int)
  | 38 => (some .int)
  | 39 => (some .int)
  | 40 => (some .int)
  | 41 => (some .int)
  | 42 => (some .int)
  | 43 => (some .int)
  | 44 => (some .int)
  | 45 => (some .int)
  | 46 => (some .boolean)
  | 47 => (some .boolean)
  | 48 => (some .int)
  | 49 => (some .int)
  | 50 => none
  | 51 => (some .int)
  | 52 => (some .int)
  | 53 => none
  | 54 => none
  | 55 => none
  | 56 => (some .int)
  | 57 => (some .boolean)
  | 58 => (some .int)
  | 59 => none
  | 60 => none
  | 61 => (some .int)
  | 62 => none
  | 63 => none
  | 64 => none
  | 65 => none
  | 66 => (some .int)
  | 67 => none
  | 68 => none
  | 69 => (some .int)
  | 70 => (some .int)
  | 71 => none
  | 72 => (some .int)
  | 73 => (some .int)
  | 74 => (some .int)
  | 75 => (some .int)
  | 76 => (some .int)
  | 77 => none
  | 78 => none
  | 79 => none
  | 80 => none
  | 81 => none
  | 82 => none
  | 83 => (some .int)
  | 84 => (some .boolean)
  | 85 => (some .int)
  | 86 => (some .int)
  | 87 => (some .boolean)
  | 88 => (some .boolean)
  | 89 => none
  | 90 => (some .boolean)
  | 91 => (some .int)
  | 92 => (some .int)
  | 93 => (some .boolean)
  | _ => (some .boolean)
def cC : Nat → Nat
  | 0 => 0
  | 1 => 0
  | 2 => 0
  | 3 => 1
  | 4 => 2
  | 5 => 2
  | 6 => 2
  | 7 => 2
  | 8 => 2
  | 9 => 2
  | 10 => 2
  | 11 => 2
  | 12 => 3
  | 13 => 3
  | 14 => 3
  | 15 => 3
  | 16 => 3
  | 17 => 3
  | 18 => 3
  | 19 => 4
  | 20 => 4
  | 21 => 4
  | 22 => 4
  | 23 => 5
  | 24 => 5
  | 25 => 5
  | 26 => 5
  | 27 => 5
  | 28 => 5
  | 29 => 5
  | 30 => 5
  | 31 => 5
  | 32 => 5
  | 33 => 5
  | 34 => 5
  | 35 => 5
  | 36 => 5
  | 37 => 5
  | 38 => 5
  | 39 => 5
  | 40 => 5
  | 41 => 5
  | 42 => 5
  | 43 => 5
  | 44 => 5
  | 45 => 5
  | 46 => 5
  | 47 => 5
  | 48 => 5
  | 49 => 5
  | 50 => 5
  | 51 => 5
  | 52 => 5
  | 53 => 5
  | 54 => 5
  | 55 => 5
  | 56 => 5
  | 57 => 5
  | 58 => 5
  | 59 => 5
  | 60 => 5
  | 61 => 5
  | 62 => 5
  | 63 => 5
  | 64 => 5
  | 65 => 5
  | 66 => 5
  | 67 => 5
  | 68 => 5
  | 69 => 5
  | 70 => 8
  | 71 => 9
  | 72 => 7
  | 73 => 7
  | 74 => 7
  | 75 => 7
  | 76 => 7
  | 77 => 7
  | 78 => 7
  | 79 => 7
  | 80 => 7
  | 81 => 7
  | 82 => 7
  | 83 => 7
  | 84 => 7
  | 85 => 7
  | 86 => 7
  | 87 => 7
  | 88 => 7
  | 89 => 7
  | 90 => 7
  | 91 => 7
  | 92 => 7
  | 93 => 7
  | _ => 7
def cH : Nat → List (Nat × Nat × Nat × Nat)
  | 0 => []
  | 1 => []
  | 2 => []
  | 3 => []
  | 4 => []
  | 5 => []
  | 6 => []
  | 7 => []
  | 8 => []
  | 9 => []
  | 10 => []
  | 11 => []
  | 12 => []
  | 13 => []
  | 14 => []
  | 15 => []
  | 16 => []
  | 17 => []
  | 18 => []
  | 19 => []
  | 20 => []
  | 21 => []
  | 22 => []
  | 23 => []
  | 24 => []
  | 25 => []
  | 26 => []
  | 27 => []
  | 28 => []
  | 29 => []
  | 30 => []
  | 31 => []
  | 32 => []
  | 33 => []
  | 34 => []
  | 35 => []
  | 36 => []
  | 37 => []
  | 38 => []
  | 39 => []
  | 40 => []
  | 41 => []
  | 42 => []
  | 43 => []
  | 44 => []
  | 45 => []
  | 46 => []
  | 47 => []
  | 48 => []
  | 49 => []
  | 50 => []
  | 51 => []
  | 52 => []
  | 53 => []
  | 54 => []
  | 55 => []
  | 56 => []
  | 57 => []
  | 58 => []
  | 59 => []
  | 60 => []
  | 61 => []
  | 62 => []
  | 63 => []
  | 64 => []
  | 65 => []
  | 66 => []
  | 67 => []
  | 68 => []
  | 69 => []
  | 70 => []
  | 71 => []
  | 72 => []
  | 73 => [(0, 265, 266, 71), (0, 265, 271, 74), (0, 265, 276, 77)]
  | 74 => []
  | 75 => []
  | 76 => []
  | 77 => []
  | 78 => []
  | 79 => []
  | 80 => []
  | 81 => []
  | 82 => []
  | 83 => []
  | 84 => []
  | 85 => []
  | 86 => []
  | 87 => []
  | 88 => []
  | 89 => []
  | 90 => []
  | 91 => []
  | 92 => []
  | 93 => []
  | _ => []
def cI : Nat → Bool
  | 0 => true
  | 1 => false
  | 2 => false
  | 3 => true
  | 4 => true
  | 5 => false
  | 6 => false
  | 7 => false
  | 8 => false
  | 9 => false
  | 10 => false
  | 11 => false
  | 12 => true
  | 13 => false
  | 14 => false
  | 15 => false
  | 16 => false
  | 17 => false
  | 18 => false
  | 19 => true
  | 20 => false
  | 21 => false
  | 22 => false
  | 23 => true
  | 24 => false
  | 25 => false
  | 26 => false
  | 27 => false
  | 28 => false
  | 29 => false
  | 30 => false
  | 31 => false
  | 32 => false
  | 33 => false
  | 34 => false
  | 35 => false
  | 36 => false
  | 37 => false
  | 38 => false
  | 39 => false
  | 40 => false
  | 41 => false
  | 42 => false
  | 43 => false
  | 44 => false
  | 45 => false
  | 46 => false
  | 47 => false
  | 48 => false
  | 49 => false
  | 50 => false
  | 51 => false
  | 52 => false
  | 53 => false
  | 54 => false
  | 55 => false
  | 56 => false
  | 57 => false
  | 58 => false
  | 59 => false
  | 60 => false
  | 61 => false
  | 62 => false
  | 63 => false
  | 64 => false
  | 65 => false
  | 66 => false
  | 67 => false
  | 68 => false
  | 69 => false
  | 70 => false
  | 71 => false
  | 72 => false
  | 73 => false
  | 74 => false
  | 75 => false
  | 76 => false
  | 77 => false
  | 78 => false
  | 79 => false
  | 80 => false
  | 81 => false
  | 82 => false
  | 83 => false
  | 84 => false
  | 85 => false
  | 86 => false
  | 87 => false
  | 88 => false
  | 89 => false
  | 90 => false
  | 91 => false
  | 92 => false
  | 93 => false
  | _ => false
def rmM : Nat → Room
  | 0 => { frames := 1, cells := 4, slots := 2088, locals := 20 }
  | 1 => { frames := 0, cells := 0, slots := 0, locals := 0 }
  | 2 => { frames := 0, cells := 0, slots := 0, locals := 0 }
  | 3 => { frames := 1, cells := 4, slots := 16, locals := 23 }
  | 4 => { frames := 1, cells := 4, slots := 40, locals := 23 }
  | 5 => { frames := 1, cells := 0, slots := 0, locals := 20 }
  | 6 => { frames := 1, cells := 0, slots := 0, locals := 20 }
  | 7 => { frames := 1, cells := 0, slots := 0, locals := 20 }
  | 8 => { frames := 1, cells := 0, slots := 0, locals := 20 }
  | 9 => { frames := 1, cells := 0, slots := 0, locals := 20 }
  | 10 => { frames := 2, cells := 0, slots := 0, locals := 41 }
  | 11 => { frames := 1, cells := 0, slots := 0, locals := 20 }
  | 12 => { frames := 1, cells := 50, slots := 880, locals := 20 }
  | 13 => { frames := 0, cells := 0, slots := 0, locals := 0 }
  | 14 => { frames := 0, cells := 0, slots := 0, locals := 0 }
  | 15 => { frames := 0, cells := 0, slots := 0, locals := 0 }
  | 16 => { frames := 0, cells := 0, slots := 0, locals := 0 }
  | 17 => { frames := 1, cells := 0, slots := 0, locals := 21 }
  | 18 => { frames := 0, cells := 0, slots := 0, locals := 0 }
  | 19 => { frames := 1, cells := 2, slots := 24, locals := 23 }
  | 20 => { frames := 1, cells := 0, slots := 0, locals := 23 }
  | 21 => { frames := 0, cells := 0, slots := 0, locals := 0 }
  | 22 => { frames := 0, cells := 0, slots := 0, locals := 0 }
  | 23 => { frames := 2, cells := 74, slots := 3158, locals := 43 }
  | 24 => { frames := 7, cells := 4, slots := 24, locals := 103 }
  | 25 => { frames := 7, cells := 4, slots := 24, locals := 129 }
  | 26 => { frames := 7, cells := 3, slots := 18, locals := 103 }
  | 27 => { frames := 7, cells := 4, slots := 24, locals := 129 }
  | 28 => { frames := 7, cells := 2, slots := 12, locals := 103 }
  | 29 => { frames := 7, cells := 3, slots := 18, locals := 103 }
  | 30 => { frames := 7, cells := 1, slots := 6, locals := 103 }
  | 31 => { frames := 7, cells := 2, slots := 12, locals := 103 }
  | 32 => { frames := 7, cells := 2, slots := 12, locals := 103 }
  | 33 => { frames := 7, cells := 4, slots := 24, locals := 103 }
  | 34 => { frames := 7, cells := 3, slots := 18, locals := 129 }
  | 35 => { frames := 7, cells := 3, slots := 18, locals := 103 }
  | 36 => { frames := 7, cells := 2, slots := 12, locals := 103 }
  | 37 => { frames := 7, cells := 3, slots := 18, locals := 103 }
  | 38 => { frames := 7, cells := 1, slots := 6, locals := 103 }
  | 39 => { frames := 7, cells := 3, slots := 18, locals := 103 }
  | 40 => { frames := 7, cells := 2, slots := 12, locals := 103 }
  | 41 => { frames := 7, cells := 2, slots := 12, locals := 107 }
  | 42 => { frames := 7, cells := 2, slots := 12, locals := 103 }
  | 43 => { frames := 7, cells := 2, slots := 12, locals := 131 }
  | 44 => { frames := 7, cells := 3, slots := 18, locals := 131 }
  | 45 => { frames := 1, cells := 0, slots := 0, locals := 20 }
  | 46 => { frames := 7, cells := 1, slots := 6, locals := 103 }
  | 47 => { frames := 7, cells := 1, slots := 6, locals := 103 }
  | 48 => { frames := 7, cells := 2, slots := 12, locals := 103 }
  | 49 => { frames := 7, cells := 2, slots := 12, locals := 102 }
  | 50 => { frames := 7, cells := 1, slots := 6, locals := 103 }
  | 51 => { frames := 0, cells := 0, slots := 0, locals := 0 }
  | 52 => { frames := 7, cells := 3, slots := 18, locals := 103 }
  | 53 => { frames := 6, cells := 1, slots := 6, locals := 82 }
  | 54 => { frames := 6, cells := 1, slots := 6, locals := 82 }
  | 55 => { frames := 6, cells := 1, slots := 6, locals := 82 }
  | 56 => { frames := 0, cells := 0, slots := 0, locals := 0 }
  | 57 => { frames := 2, cells := 0, slots := 0, locals := 41 }
  | 58 => { frames := 1, cells := 0, slots := 0, locals := 25 }
  | 59 => { frames := 5, cells := 0, slots := 0, locals := 107 }
  | 60 => { frames := 1, cells := 0, slots := 0, locals := 23 }
  | 61 => { frames := 0, cells := 0, slots := 0, locals := 0 }
  | 62 => { frames := 3, cells := 0, slots := 0, locals := 64 }
  | 63 => { frames := 2, cells := 0, slots := 0, locals := 41 }
  | 64 => { frames := 4, cells := 0, slots := 0, locals := 85 }
  | 65 => { frames := 3, cells := 0, slots := 0, locals := 64 }
  | 66 => { frames := 5, cells := 0, slots := 0, locals := 107 }
  | 67 => { frames := 4, cells := 0, slots := 0, locals := 85 }
  | 68 => { frames := 3, cells := 0, slots := 0, locals := 64 }
  | 69 => { frames := 0, cells := 0, slots := 0, locals := 0 }
  | 70 => { frames := 0, cells := 0, slots := 0, locals := 0 }
  | 71 => { frames := 0, cells := 0, slots := 0, locals := 0 }
  | 72 => { frames := 0, cells := 0, slots := 0, locals := 0 }
  | 73 => { frames := 9, cells := 51, slots := 306, locals := 155 }
  | 74 => { frames := 8, cells := 2, slots := 12, locals := 124 }
  | 75 => { frames := 0, cells := 0, slots := 0, locals := 0 }
  | 76 => { frames := 1, cells := 0, slots := 0, locals := 22 }
  | 77 => { frames := 2, cells := 0, slots := 0, locals := 44 }
  | 78 => { frames := 1, cells := 0, slots := 0, locals := 24 }
  | 79 => { frames := 0, cells := 0, slots := 0, locals := 0 }
  | 80 => { frames := 2, cells := 0, slots := 0, locals := 48 }
  | 81 => { frames := 3, cells := 0, slots := 0, locals := 72 }
  | 82 => { frames := 4, cells := 0, slots := 0, locals := 95 }
  | 83 => { frames := 0, cells := 0, slots := 0, locals := 0 }
  | 84 => { frames := 0, cells := 0, slots := 0, locals := 0 }
  | 85 => { frames := 2, cells := 0, slots := 0, locals := 44 }
  | 86 => { frames := 2, cells := 0, slots := 0, locals := 44 }
  | 87 => { frames := 10, cells := 1500, slots := 9000, locals := 180 }
  | 88 => { frames := 10, cells := 204, slots := 1224, locals := 180 }
  | 89 => { frames := 5, cells := 0, slots := 0, locals := 121 }
  | 90 => { frames := 10, cells := 306, slots := 1836, locals := 180 }
  | 91 => { frames := 0, cells := 0, slots := 0, locals := 0 }
  | 92 => { frames := 4, cells := 0, slots := 0, locals := 95 }
  | 93 => { frames := 10, cells := 258, slots := 1548, locals := 180 }
  | _ => room_1
def cP : Nat → Nat
  | 0 => 0
  | 1 => 4
  | 2 => 1
  | 3 => 0
  | 4 => 0
  | 5 => 1
  | 6 => 1
  | 7 => 1
  | 8 => 2
  | 9 => 2
  | 10 => 2
  | 11 => 2
  | 12 => 0
  | 13 => 4
  | 14 => 1
  | 15 => 2
  | 16 => 3
  | 17 => 2
  | 18 => 2
  | 19 => 0
  | 20 => 0
  | 21 => 0
  | 22 => 2
  | 23 => 0
  | 24 => 3
  | 25 => 3
  | 26 => 3
  | 27 => 3
  | 28 => 2
  | 29 => 2
  | 30 => 1
  | 31 => 2
  | 32 => 2
  | 33 => 2
  | 34 => 2
  | 35 => 2
  | 36 => 1
  | 37 => 3
  | 38 => 1
  | 39 => 2
  | 40 => 1
  | 41 => 1
  | 42 => 2
  | 43 => 1
  | 44 => 2
  | 45 => 0
  | 46 => 1
  | 47 => 1
  | 48 => 2
  | 49 => 1
  | 50 => 3
  | 51 => 0
  | 52 => 2
  | 53 => 2
  | 54 => 1
  | 55 => 1
  | 56 => 1
  | 57 => 2
  | 58 => 3
  | 59 => 2
  | 60 => 2
  | 61 => 1
  | 62 => 2
  | 63 => 3
  | 64 => 1
  | 65 => 1
  | 66 => 2
  | 67 => 1
  | 68 => 1
  | 69 => 1
  | 70 => 1
  | 71 => 2
  | 72 => 3
  | 73 => 5
  | 74 => 2
  | 75 => 1
  | 76 => 3
  | 77 => 4
  | 78 => 5
  | 79 => 5
  | 80 => 4
  | 81 => 4
  | 82 => 7
  | 83 => 2
  | 84 => 2
  | 85 => 3
  | 86 => 6
  | 87 => 11
  | 88 => 14
  | 89 => 11
  | 90 => 11
  | 91 => 1
  | 92 => 6
  | 93 => 10
  | _ => 1
abbrev mX0_init : Nat := 0
abbrev mX0_add : Nat := 1
abbrev mX0_tellsKnown : Nat := 2
abbrev mX1_init : Nat := 3
abbrev mX2_init : Nat := 4
abbrev mX2_isFree : Nat := 5
abbrev mX2_isInformer : Nat := 6
abbrev mX2_isListed : Nat := 7
abbrev mX2_areAcquainted : Nat := 8
abbrev mX2_acquaint : Nat := 9
abbrev mX2_opensIn : Nat := 10
abbrev mX2_lowestUnknown : Nat := 11
abbrev mX3_init : Nat := 12
abbrev mX3_add : Nat := 13
abbrev mX3_anyOf : Nat := 14
abbrev mX3_couldBeParent : Nat := 15
abbrev mX3_canVote : Nat := 16
abbrev mX3_distance : Nat := 17
abbrev mX3_distanceAt : Nat := 18
abbrev mX4_init : Nat := 19
abbrev mX4_forget : Nat := 20
abbrev mX4_countPlaces : Nat := 21
abbrev mX4_apply : Nat := 22
abbrev mX5_init : Nat := 23
abbrev mX5_word : Nat := 24
abbrev mX5_write : Nat := 25
abbrev mX5_slip : Nat := 26
abbrev mX5_type : Nat := 27
abbrev mX5_reading : Nat := 28
abbrev mX5_unlikely : Nat := 29
abbrev mX5_likeliest : Nat := 30
abbrev mX5_restored : Nat := 31
abbrev mX5_sheetIs : Nat := 32
abbrev mX5_meet : Nat := 33
abbrev mX5_give : Nat := 34
abbrev mX5_hide : Nat := 35
abbrev mX5_burn : Nat := 36
abbrev mX5_whoHad : Nat := 37
abbrev mX5_knows : Nat := 38
abbrev mX5_lend : Nat := 39
abbrev mX5_file : Nat := 40
abbrev mX5_informer : Nat := 41
abbrev mX5_strong : Nat := 42
abbrev mX5_arrest : Nat := 43
abbrev mX5_search : Nat := 44
abbrev mX5_amnesty : Nat := 45
abbrev mX5_isKnown : Nat := 46
abbrev mX5_isKnownAnew : Nat := 47
abbrev mX5_risk : Nat := 48
abbrev mX5_pass : Nat := 49
abbrev mX5_life : Nat := 50
abbrev mX5_open : Nat := 51
abbrev mX5_line : Nat := 52
abbrev mX5_needIndex : Nat := 53
abbrev mX5_needArgument : Nat := 54
abbrev mX5_needState : Nat := 55
abbrev mX5_bit : Nat := 56
abbrev mX5_canType : Nat := 57
abbrev mX5_makeCopy : Nat := 58
abbrev mX5_bringTo : Nat := 59
abbrev mX5_castVotes : Nat := 60
abbrev mX5_countVotes : Nat := 61
abbrev mX5_tellOf : Nat := 62
abbrev mX5_noteKnown : Nat := 63
abbrev mX5_see : Nat := 64
abbrev mX5_compareLetters : Nat := 65
abbrev mX5_seizeSheets : Nat := 66
abbrev mX5_seizeMachines : Nat := 67
abbrev mX5_openOne : Nat := 68
abbrev mX5_nameInArchive : Nat := 69
abbrev mJ6_bitCount_0f7a4 : Nat := 70
abbrev mJ7_fill_53178 : Nat := 71
abbrev mL_part : Nat := 72
abbrev mL_does : Nat := 73
abbrev mL_burned : Nat := 74
abbrev mL_unit : Nat := 75
abbrev mL_reading : Nat := 76
abbrev mL_reads : Nat := 77
abbrev mL_known : Nat := 78
abbrev mL_lines : Nat := 79
abbrev mL_looks : Nat := 80
abbrev mL_sees : Nat := 81
abbrev mL_comes : Nat := 82
abbrev mL_with : Nat := 83
abbrev mL_isFree : Nat := 84
abbrev mL_unlikely : Nat := 85
abbrev mL_restored : Nat := 86
abbrev mL_isSo : Nat := 87
abbrev mL_isSheet : Nat := 88
abbrev mL_adds : Nat := 89
abbrev mL_isPerson : Nat := 90
abbrev mL_count : Nat := 91
abbrev mL_seizes : Nat := 92
abbrev mL_isPolice : Nat := 93
abbrev mL_law : Nat := 94
/-- where a method throws: the exception, the place, its pool entries, wide or not -/
def thT : Nat → Option (Nat × Nat × Nat × Nat × Nat × Bool)
  | 53 => some (0, 9, 247, 249, 251, false)
  | 54 => some (1, 4, 254, 256, 258, true)
  | 55 => some (2, 4, 259, 261, 263, true)
  | _ => none
def strL : List (Nat × String) := [(249, "there is no such one"), (256, "an argument is out of range"), (261, "this cannot be done now")]
