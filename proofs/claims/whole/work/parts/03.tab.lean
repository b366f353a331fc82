/-! printed by wip/whole/gen.py out of the listings: ids of the cells in the order of their making, field and method links, rooms -/
def AO : List Nat := [5, 7, 64, 65, 66, 4, 8, 9, 3, 10, 11, 12, 13, 14, 15, 16, 17, 18, 19, 67, 68, 69, 70, 71, 72, 73, 74, 75, 76, 77, 78, 79, 80, 81, 82, 83, 84, 85, 86, 87, 88, 89, 90, 91, 92, 93, 94, 95, 96, 97, 98, 99, 100, 101, 102, 103, 104, 105, 106, 2, 20, 21, 22, 23, 1, 24, 25, 26, 27, 0, 28, 29, 30, 31, 32, 6, 33, 34, 35, 36, 37, 38, 39, 40, 41, 42, 43, 44, 45, 46, 47, 48, 49, 50, 51, 52, 53, 54, 55, 56]
abbrev NB : Nat := 100
abbrev OUTI : Nat := 56
abbrev SCR : Nat := 63
abbrev ROWB : Nat := 64
abbrev ROWN : Nat := 43
def kinL : List Nat := [6, 6, 6, 6, 6, 6, 6, 4, 1, 1, 1, 1, 1, 1, 1, 1, 2, 1, 1, 4, 1, 1, 1, 2, 1, 1, 2, 2, 1, 1, 1, 1, 1, 1, 1, 1, 1, 1, 1, 1, 1, 2, 1, 1, 1, 1, 1, 1, 1, 1, 1, 2, 2, 1, 1, 1, 3, 0, 0, 0, 0, 0, 0, 0, 1, 1, 1, 1, 1, 1, 1, 1, 1, 1, 1, 1, 1, 1, 1, 1, 1, 1, 1, 1, 1, 1, 1, 1, 1, 1, 1, 1, 1, 1, 1, 1, 1, 1, 1, 1, 1, 1, 1, 1, 1, 1, 1]
def lnL : List Nat := [6, 4, 7, 12, 2, 8, 34, 3, 12, 12, 40, 40, 40, 40, 40, 40, 40, 40, 40, 40, 10, 10, 10, 10, 4, 4, 4, 4, 522, 522, 522, 522, 40, 36, 40, 480, 40, 40, 40, 40, 40, 40, 40, 40, 12, 12, 10, 10, 10, 4, 4, 4, 4, 8000, 100, 100, 1, 0, 0, 0, 0, 0, 0, 0, 12, 12, 12, 12, 12, 12, 12, 12, 12, 12, 12, 12, 12, 12, 12, 12, 12, 12, 12, 12, 12, 12, 12, 12, 12, 12, 12, 12, 12, 12, 12, 12, 12, 12, 12, 12, 12, 12, 12, 12, 12, 12, 12]
def bsL : List Nat := [0, 0, 0, 0, 0, 0, 0, 64, 0, 0, 0, 0, 0, 0, 0, 0, 0, 0, 0, 67, 0, 0, 0, 0, 0, 0, 0, 0, 0, 0, 0, 0, 0, 0, 0, 0, 0, 0, 0, 0, 0, 0, 0, 0, 0, 0, 0, 0, 0, 0, 0, 0, 0, 0, 0, 0, 0, 0, 0, 0, 0, 0, 0, 0, 0, 0, 0, 0, 0, 0, 0, 0, 0, 0, 0, 0, 0, 0, 0, 0, 0, 0, 0, 0, 0, 0, 0, 0, 0, 0, 0, 0, 0, 0, 0, 0, 0, 0, 0, 0, 0, 0, 0, 0, 0, 0, 0]
def isRL : List (List Nat) := [[0, 0, 1, 1, 1, 1], [1, 1, 1, 1], [0, 0, 0, 1, 1, 1, 1], [0, 0, 1, 1, 1, 1, 1, 1, 1, 1, 1, 1], [1, 1], [1, 1, 1, 1, 1, 1, 1, 0], [0, 1, 0, 0, 1, 1, 1, 1, 1, 1, 1, 1, 1, 1, 1, 1, 1, 0, 0, 0, 1, 1, 0, 0, 1, 1, 1, 1, 0, 1, 0, 1, 1, 0]]
def R0L : List (List Value) := [[.null, .null, .ref 28, .ref 29, .ref 30, .ref 31], [.ref 24, .ref 25, .ref 26, .ref 27], [.null, .null, .null, .ref 20, .ref 21, .ref 22, .ref 23], [.null, .null, .ref 10, .ref 11, .ref 12, .ref 13, .ref 14, .ref 15, .ref 16, .ref 17, .ref 18, .ref 19], [.ref 8, .ref 9], [.ref 7, .ref 4, .ref 3, .ref 2, .ref 1, .ref 0, .ref 32, .null], [.null, .ref 33, .null, .null, .ref 34, .ref 35, .ref 36, .ref 37, .ref 38, .ref 39, .ref 40, .ref 41, .ref 42, .ref 43, .ref 44, .ref 45, .ref 46, .null, .null, .null, .ref 47, .ref 48, .null, .null, .ref 49, .ref 50, .ref 51, .ref 52, .null, .ref 53, .null, .ref 54, .ref 55, .null]]
def fTL : List (Nat × Nat × Nat × Nat) := [(0, 9, 0, 0), (0, 15, 0, 1), (0, 19, 0, 2), (0, 23, 0, 3), (0, 26, 0, 4), (0, 29, 0, 5), (1, 9, 1, 0), (1, 15, 1, 1), (1, 18, 1, 2), (1, 22, 1, 3), (2, 9, 2, 0), (2, 15, 2, 1), (2, 18, 2, 2), (2, 21, 2, 3), (2, 25, 2, 4), (2, 28, 2, 5), (2, 31, 2, 6), (3, 9, 3, 0), (3, 15, 3, 1), (3, 18, 3, 2), (3, 22, 3, 3), (3, 25, 3, 4), (3, 28, 3, 5), (3, 31, 3, 6), (3, 34, 3, 7), (3, 37, 3, 8), (3, 41, 3, 9), (3, 44, 3, 10), (3, 49, 3, 11), (4, 9, 4, 0), (4, 15, 4, 1), (5, 11, 5, 0), (5, 17, 5, 1), (5, 24, 5, 2), (5, 31, 5, 3), (5, 38, 5, 4), (5, 45, 5, 5), (5, 49, 5, 6), (5, 53, 5, 7), (5, 76, 3, 0), (5, 79, 3, 1), (5, 86, 3, 11), (5, 92, 4, 0), (5, 95, 4, 1), (5, 101, 3, 7), (5, 111, 3, 2), (5, 128, 3, 3), (5, 131, 3, 4), (5, 134, 3, 5), (5, 137, 3, 6), (5, 139, 3, 8), (5, 143, 3, 9), (5, 158, 3, 10), (5, 161, 2, 3), (5, 164, 1, 0), (5, 165, 1, 3), (5, 166, 1, 1), (5, 176, 2, 2), (5, 184, 2, 1), (5, 193, 2, 4), (5, 199, 2, 0), (5, 202, 2, 5), (5, 226, 2, 6), (5, 229, 0, 0), (5, 233, 0, 1), (5, 234, 0, 2), (5, 237, 0, 3), (5, 238, 0, 4), (5, 244, 0, 5), (5, 281, 1, 2), (6, 7, 6, 1), (6, 13, 6, 4), (6, 16, 6, 5), (6, 19, 6, 6), (6, 22, 6, 7), (6, 25, 6, 8), (6, 28, 6, 9), (6, 31, 6, 10), (6, 34, 6, 11), (6, 38, 6, 12), (6, 41, 6, 13), (6, 44, 6, 14), (6, 47, 6, 15), (6, 50, 6, 16), (6, 53, 6, 20), (6, 56, 6, 21), (6, 59, 6, 22), (6, 63, 6, 24), (6, 66, 6, 25), (6, 69, 6, 26), (6, 72, 6, 27), (6, 75, 6, 29), (6, 78, 6, 31), (6, 81, 6, 32), (6, 84, 6, 33), (6, 91, 6, 2), (6, 94, 6, 17), (6, 101, 6, 28), (6, 104, 6, 0), (6, 107, 6, 19), (6, 121, 6, 18), (6, 140, 6, 3), (6, 196, 6, 23), (6, 199, 6, 30)]
def mTL : List (Nat × Nat × Nat × Nat) := [(1, 25, 128, 1), (2, 35, 128, 1), (2, 41, 56, 3), (2, 45, 5, 0), (3, 52, 18, 1), (4, 18, 128, 1), (5, 16, 19, 2), (5, 23, 12, 4), (5, 30, 4, 2), (5, 37, 3, 2), (5, 44, 0, 4), (5, 57, 53, 1), (5, 61, 54, 1), (5, 65, 14, 0), (5, 69, 55, 1), (5, 72, 57, 0), (5, 82, 13, 0), (5, 89, 59, 0), (5, 97, 21, 0), (5, 104, 58, 0), (5, 108, 20, 0), (5, 114, 17, 0), (5, 118, 15, 0), (5, 121, 60, 0), (5, 124, 61, 0), (5, 146, 5, 0), (5, 149, 8, 0), (5, 152, 9, 0), (5, 155, 62, 0), (5, 169, 65, 0), (5, 173, 6, 0), (5, 179, 127, 1), (5, 187, 56, 1), (5, 190, 64, 0), (5, 196, 7, 0), (5, 205, 1, 0), (5, 208, 66, 0), (5, 211, 67, 0), (5, 214, 2, 0), (5, 217, 11, 0), (5, 220, 10, 0), (5, 223, 68, 0), (5, 241, 69, 0), (5, 264, 22, 0), (5, 267, 128, 1), (5, 273, 16, 0), (5, 277, 63, 0), (6, 87, 73, 1), (6, 97, 79, 1), (6, 110, 81, 0), (6, 114, 82, 0), (6, 117, 83, 0), (6, 124, 84, 0), (6, 127, 74, 1), (6, 131, 75, 1), (6, 134, 86, 0), (6, 137, 72, 0), (6, 143, 85, 0), (6, 147, 76, 1), (6, 150, 77, 1), (6, 153, 80, 0), (6, 156, 88, 0), (6, 160, 78, 0), (6, 163, 92, 0), (6, 166, 91, 0), (6, 170, 95, 0), (6, 174, 100, 0), (6, 177, 103, 0), (6, 180, 110, 1), (6, 184, 113, 0), (6, 187, 117, 0), (6, 190, 119, 1), (6, 193, 121, 0), (6, 203, 125, 0), (7, 7, 24, 0), (7, 19, 25, 0), (7, 22, 26, 0), (7, 25, 27, 0), (7, 28, 28, 0), (7, 32, 29, 0), (7, 35, 30, 0), (7, 39, 31, 0), (7, 42, 32, 0), (7, 45, 33, 0), (7, 49, 34, 0), (7, 52, 35, 0), (7, 55, 36, 0), (7, 59, 37, 0), (7, 62, 38, 0), (7, 65, 39, 0), (7, 68, 40, 0), (7, 71, 41, 0), (7, 74, 42, 0), (7, 77, 43, 0), (7, 80, 44, 0), (7, 83, 46, 0), (7, 87, 47, 0), (7, 90, 48, 0), (7, 93, 49, 0), (7, 96, 50, 0), (7, 100, 52, 0), (7, 103, 23, 2), (7, 106, 70, 2), (7, 107, 129, 5), (7, 112, 87, 0), (7, 113, 71, 0), (7, 117, 130, 5), (7, 119, 89, 0), (7, 120, 131, 5), (7, 122, 90, 0), (7, 123, 132, 5), (7, 125, 93, 0), (7, 126, 133, 5), (7, 129, 94, 0), (7, 130, 134, 5), (7, 132, 96, 0), (7, 133, 135, 5), (7, 136, 97, 0), (7, 137, 136, 5), (7, 139, 98, 0), (7, 140, 137, 5), (7, 142, 99, 0), (7, 143, 138, 5), (7, 145, 101, 0), (7, 146, 139, 5), (7, 148, 102, 0), (7, 149, 140, 5), (7, 151, 104, 0), (7, 152, 141, 5), (7, 155, 105, 0), (7, 156, 142, 5), (7, 158, 106, 0), (7, 159, 143, 5), (7, 161, 107, 0), (7, 162, 144, 5), (7, 164, 108, 0), (7, 165, 145, 5), (7, 167, 109, 0), (7, 168, 146, 5), (7, 170, 111, 0), (7, 171, 147, 5), (7, 173, 112, 0), (7, 174, 148, 5), (7, 176, 114, 0), (7, 177, 149, 5), (7, 179, 115, 0), (7, 180, 45, 0), (7, 183, 116, 0), (7, 184, 150, 5), (7, 186, 117, 0), (7, 187, 151, 5), (7, 189, 118, 0), (7, 190, 152, 5), (7, 192, 120, 0), (7, 193, 153, 5), (7, 195, 122, 0), (7, 196, 154, 5), (7, 199, 123, 0), (7, 200, 51, 0), (7, 203, 124, 0), (7, 204, 155, 5), (7, 206, 126, 0)]
def cTL : List (Nat × Nat × Nat) := [(5, 14, 4), (5, 21, 3), (5, 28, 2), (5, 35, 1), (5, 42, 0), (7, 8, 5), (7, 104, 6)]
def oTL : List (Nat × Nat) := [(0, 3), (1, 3), (2, 3), (3, 3), (4, 3), (5, 3), (6, 1)]
def kTL : List (Nat × Nat × Int32) := [(8, 265, 1431655765), (8, 266, 858993459), (8, 267, 252645135)]
def xTL : List (Nat × Nat × Nat) := [(5, 247, 0), (5, 254, 1), (5, 259, 2), (7, 13, 0), (7, 15, 1), (7, 17, 2)]
def cNm : Nat → String
  | 0 => RX0
  | 1 => RX1
  | 2 => RX2
  | 3 => RX3
  | 4 => RX4
  | 5 => RX5
  | 6 => RX6
  | 7 => RL
  | 8 => RJ6
  | _ => RJ7
def cTt : Nat → u_T
  | 0 => TX0
  | 1 => TX1
  | 2 => TX2
  | 3 => TX3
  | 4 => TX4
  | 5 => TX5
  | _ => TX6
def cTy : Nat → Nat → FieldType
  | 0 => tyX0
  | 1 => tyX1
  | 2 => tyX2
  | 3 => tyX3
  | 4 => tyX4
  | 5 => tyX5
  | _ => tyX6
abbrev nMeth : Nat := 157
def cY : Nat → MethodName
  | 0 => yX0_init
  | 1 => yX0_add
  | 2 => yX0_tellsKnown
  | 3 => yX1_init
  | 4 => yX2_init
  | 5 => yX2_isFree
  | 6 => yX2_isInformer
  | 7 => yX2_isListed
  | 8 => yX2_areAcquainted
  | 9 => yX2_acquaint
  | 10 => yX2_opensIn
  | 11 => yX2_lowestUnknown
  | 12 => yX3_init
  | 13 => yX3_add
  | 14 => yX3_anyOf
  | 15 => yX3_couldBeParent
  | 16 => yX3_canVote
  | 17 => yX3_distance
  | 18 => yX3_distanceAt
  | 19 => yX4_init
  | 20 => yX4_forget
  | 21 => yX4_countPlaces
  | 22 => yX4_apply
  | 23 => yX5_init
  | 24 => yX5_word
  | 25 => yX5_write
  | 26 => yX5_slip
  | 27 => yX5_type
  | 28 => yX5_reading
  | 29 => yX5_unlikely
  | 30 => yX5_likeliest
  | 31 => yX5_restored
  | 32 => yX5_sheetIs
  | 33 => yX5_meet
  | 34 => yX5_give
  | 35 => yX5_hide
  | 36 => yX5_burn
  | 37 => yX5_whoHad
  | 38 => yX5_knows
  | 39 => yX5_lend
  | 40 => yX5_file
  | 41 => yX5_informer
  | 42 => yX5_strong
  | 43 => yX5_arrest
  | 44 => yX5_search
  | 45 => yX5_amnesty
  | 46 => yX5_isKnown
  | 47 => yX5_isKnownAnew
  | 48 => yX5_risk
  | 49 => yX5_pass
  | 50 => yX5_life
  | 51 => yX5_open
  | 52 => yX5_line
  | 53 => yX5_needIndex
  | 54 => yX5_needArgument
  | 55 => yX5_needState
  | 56 => yX5_bit
  | 57 => yX5_canType
  | 58 => yX5_makeCopy
  | 59 => yX5_bringTo
  | 60 => yX5_castVotes
  | 61 => yX5_countVotes
  | 62 => yX5_tellOf
  | 63 => yX5_noteKnown
  | 64 => yX5_see
  | 65 => yX5_compareLetters
  | 66 => yX5_seizeSheets
  | 67 => yX5_seizeMachines
  | 68 => yX5_openOne
  | 69 => yX5_nameInArchive
  | 70 => yX6_init
  | 71 => yX6_thrown
  | 72 => yX6_fails
  | 73 => yX6_isIn
  | 74 => yX6_isText
  | 75 => yX6_isPlace
  | 76 => yX6_isPerson
  | 77 => yX6_isMachine
  | 78 => yX6_isSheet
  | 79 => yX6_holds
  | 80 => yX6_isFree
  | 81 => yX6_writes
  | 82 => yX6_becomes
  | 83 => yX6_looks
  | 84 => yX6_sees
  | 85 => yX6_comes
  | 86 => yX6_hasSheets
  | 87 => yX6_word
  | 88 => yX6_adds
  | 89 => yX6_write
  | 90 => yX6_slip
  | 91 => yX6_copied
  | 92 => yX6_isThere
  | 93 => yX6_type
  | 94 => yX6_reading
  | 95 => yX6_unlike
  | 96 => yX6_unlikely
  | 97 => yX6_likeliest
  | 98 => yX6_restored
  | 99 => yX6_sheetIs
  | 100 => yX6_tells
  | 101 => yX6_meet
  | 102 => yX6_give
  | 103 => yX6_canTouch
  | 104 => yX6_hide
  | 105 => yX6_burn
  | 106 => yX6_whoHad
  | 107 => yX6_knows
  | 108 => yX6_lend
  | 109 => yX6_file
  | 110 => yX6_count
  | 111 => yX6_informer
  | 112 => yX6_strong
  | 113 => yX6_seizes
  | 114 => yX6_arrest
  | 115 => yX6_search
  | 116 => yX6_amnesty
  | 117 => yX6_isKnown
  | 118 => yX6_isKnownAnew
  | 119 => yX6_lowest
  | 120 => yX6_risk
  | 121 => yX6_passes
  | 122 => yX6_pass
  | 123 => yX6_life
  | 124 => yX6_open
  | 125 => yX6_named
  | 126 => yX6_line
  | 127 => yJ6_bitCount_0f7a4
  | 128 => yJ7_fill_53178
  | 129 => yL_word
  | 130 => yL_write
  | 131 => yL_slip
  | 132 => yL_type
  | 133 => yL_reading
  | 134 => yL_unlikely
  | 135 => yL_likeliest
  | 136 => yL_restored
  | 137 => yL_sheetIs
  | 138 => yL_meet
  | 139 => yL_give
  | 140 => yL_hide
  | 141 => yL_burn
  | 142 => yL_whoHad
  | 143 => yL_knows
  | 144 => yL_lend
  | 145 => yL_file
  | 146 => yL_informer
  | 147 => yL_strong
  | 148 => yL_arrest
  | 149 => yL_search
  | 150 => yL_isKnown
  | 151 => yL_isKnownAnew
  | 152 => yL_risk
  | 153 => yL_pass
  | 154 => yL_life
  | 155 => yL_line
  | _ => yL_law
def cB : Nat → ByteArray
  | 0 => cX0_init
  | 1 => cX0_add
  | 2 => cX0_tellsKnown
  | 3 => cX1_init
  | 4 => cX2_init
  | 5 => cX2_isFree
  | 6 => cX2_isInformer
  | 7 => cX2_isListed
  | 8 => cX2_areAcquainted
  | 9 => cX2_acquaint
  | 10 => cX2_opensIn
  | 11 => cX2_lowestUnknown
  | 12 => cX3_init
  | 13 => cX3_add
  | 14 => cX3_anyOf
  | 15 => cX3_couldBeParent
  | 16 => cX3_canVote
  | 17 => cX3_distance
  | 18 => cX3_distanceAt
  | 19 => cX4_init
  | 20 => cX4_forget
  | 21 => cX4_countPlaces
  | 22 => cX4_apply
  | 23 => cX5_init
  | 24 => cX5_word
  | 25 => cX5_write
  | 26 => cX5_slip
  | 27 => cX5_type
  | 28 => cX5_reading
  | 29 => cX5_unlikely
  | 30 => cX5_likeliest
  | 31 => cX5_restored
  | 32 => cX5_sheetIs
  | 33 => cX5_meet
  | 34 => cX5_give
  | 35 => cX5_hide
  | 36 => cX5_burn
  | 37 => cX5_whoHad
  | 38 => cX5_knows
  | 39 => cX5_lend
  | 40 => cX5_file
  | 41 => cX5_informer
  | 42 => cX5_strong
  | 43 => cX5_arrest
  | 44 => cX5_search
  | 45 => cX5_amnesty
  | 46 => cX5_isKnown
  | 47 => cX5_isKnownAnew
  | 48 => cX5_risk
  | 49 => cX5_pass
  | 50 => cX5_life
  | 51 => cX5_open
  | 52 => cX5_line
  | 53 => cX5_needIndex
  | 54 => cX5_needArgument
  | 55 => cX5_needState
  | 56 => cX5_bit
  | 57 => cX5_canType
  | 58 => cX5_makeCopy
  | 59 => cX5_bringTo
  | 60 => cX5_castVotes
  | 61 => cX5_countVotes
  | 62 => cX5_tellOf
  | 63 => cX5_noteKnown
  | 64 => cX5_see
  | 65 => cX5_compareLetters
  | 66 => cX5_seizeSheets
  | 67 => cX5_seizeMachines
  | 68 => cX5_openOne
  | 69 => cX5_nameInArchive
  | 70 => cX6_init
  | 71 => cX6_thrown
  | 72 => cX6_fails
  | 73 => cX6_isIn
  | 74 => cX6_isText
  | 75 => cX6_isPlace
  | 76 => cX6_isPerson
  | 77 => cX6_isMachine
  | 78 => cX6_isSheet
  | 79 => cX6_holds
  | 80 => cX6_isFree
  | 81 => cX6_writes
  | 82 => cX6_becomes
  | 83 => cX6_looks
  | 84 => cX6_sees
  | 85 => cX6_comes
  | 86 => cX6_hasSheets
  | 87 => cX6_word
  | 88 => cX6_adds
  | 89 => cX6_write
  | 90 => cX6_slip
  | 91 => cX6_copied
  | 92 => cX6_isThere
  | 93 => cX6_type
  | 94 => cX6_reading
  | 95 => cX6_unlike
  | 96 => cX6_unlikely
  | 97 => cX6_likeliest
  | 98 => cX6_restored
  | 99 => cX6_sheetIs
  | 100 => cX6_tells
  | 101 => cX6_meet
  | 102 => cX6_give
  | 103 => cX6_canTouch
  | 104 => cX6_hide
  | 105 => cX6_burn
  | 106 => cX6_whoHad
  | 107 => cX6_knows
  | 108 => cX6_lend
  | 109 => cX6_file
  | 110 => cX6_count
  | 111 => cX6_informer
  | 112 => cX6_strong
  | 113 => cX6_seizes
  | 114 => cX6_arrest
  | 115 => cX6_search
  | 116 => cX6_amnesty
  | 117 => cX6_isKnown
  | 118 => cX6_isKnownAnew
  | 119 => cX6_lowest
  | 120 => cX6_risk
  | 121 => cX6_passes
  | 122 => cX6_pass
  | 123 => cX6_life
  | 124 => cX6_open
  | 125 => cX6_named
  | 126 => cX6_line
  | 127 => cJ6_bitCount_0f7a4
  | 128 => cJ7_fill_53178
  | 129 => cL_word
  | 130 => cL_write
  | 131 => cL_slip
  | 132 => cL_type
  | 133 => cL_reading
  | 134 => cL_unlikely
  | 135 => cL_likeliest
  | 136 => cL_restored
  | 137 => cL_sheetIs
  | 138 => cL_meet
  | 139 => cL_give
  | 140 => cL_hide
  | 141 => cL_burn
  | 142 => cL_whoHad
  | 143 => cL_knows
  | 144 => cL_lend
  | 145 => cL_file
  | 146 => cL_informer
  | 147 => cL_strong
  | 148 => cL_arrest
  | 149 => cL_search
  | 150 => cL_isKnown
  | 151 => cL_isKnownAnew
  | 152 => cL_risk
  | 153 => cL_pass
  | 154 => cL_life
  | 155 => cL_line
  | _ => code
def cN : Nat → Nat
  | 0 => 1
  | 1 => 5
  | 2 => 3
  | 3 => 1
  | 4 => 1
  | 5 => 2
  | 6 => 2
  | 7 => 2
  | 8 => 3
  | 9 => 3
  | 10 => 3
  | 11 => 5
  | 12 => 1
  | 13 => 6
  | 14 => 3
  | 15 => 3
  | 16 => 4
  | 17 => 5
  | 18 => 2
  | 19 => 1
  | 20 => 1
  | 21 => 3
  | 22 => 3
  | 23 => 3
  | 24 => 5
  | 25 => 6
  | 26 => 4
  | 27 => 7
  | 28 => 3
  | 29 => 3
  | 30 => 6
  | 31 => 7
  | 32 => 3
  | 33 => 4
  | 34 => 4
  | 35 => 4
  | 36 => 2
  | 37 => 6
  | 38 => 2
  | 39 => 4
  | 40 => 3
  | 41 => 4
  | 42 => 4
  | 43 => 2
  | 44 => 4
  | 45 => 2
  | 46 => 2
  | 47 => 2
  | 48 => 6
  | 49 => 4
  | 50 => 4
  | 51 => 1
  | 52 => 3
  | 53 => 2
  | 54 => 1
  | 55 => 1
  | 56 => 1
  | 57 => 3
  | 58 => 8
  | 59 => 3
  | 60 => 5
  | 61 => 4
  | 62 => 3
  | 63 => 4
  | 64 => 3
  | 65 => 2
  | 66 => 5
  | 67 => 3
  | 68 => 3
  | 69 => 2
  | 70 => 2
  | 71 => 1
  | 72 => 2
  | 73 => 3
  | 74 => 1
  | 75 => 1
  | 76 => 1
  | 77 => 1
  | 78 => 2
  | 79 => 2
  | 80 => 2
  | 81 => 4
  | 82 => 4
  | 83 => 2
  | 84 => 2
  | 85 => 3
  | 86 => 4
  | 87 => 6
  | 88 => 7
  | 89 => 7
  | 90 => 7
  | 91 => 5
  | 92 => 2
  | 93 => 10
  | 94 => 3
  | 95 => 7
  | 96 => 4
  | 97 => 5
  | 98 => 7
  | 99 => 3
  | 100 => 3
  | 101 => 5
  | 102 => 6
  | 103 => 2
  | 104 => 4
  | 105 => 2
  | 106 => 7
  | 107 => 2
  | 108 => 6
  | 109 => 3
  | 110 => 3
  | 111 => 4
  | 112 => 4
  | 113 => 5
  | 114 => 2
  | 115 => 5
  | 116 => 2
  | 117 => 2
  | 118 => 2
  | 119 => 3
  | 120 => 7
  | 121 => 3
  | 122 => 3
  | 123 => 4
  | 124 => 1
  | 125 => 2
  | 126 => 4
  | 127 => 1
  | 128 => 4
  | 129 => 6
  | 130 => 6
  | 131 => 6
  | 132 => 6
  | 133 => 5
  | 134 => 5
  | 135 => 4
  | 136 => 5
  | 137 => 5
  | 138 => 5
  | 139 => 5
  | 140 => 5
  | 141 => 3
  | 142 => 6
  | 143 => 4
  | 144 => 5
  | 145 => 4
  | 146 => 4
  | 147 => 5
  | 148 => 4
  | 149 => 5
  | 150 => 4
  | 151 => 4
  | 152 => 5
  | 153 => 4
  | 154 => 5
  | 155 => 5
  | _ => 7
def cR : Nat → Option FieldType
  | 0 => none
  | 1 => none
  | 2 => (some .boolean)
  | 3 => none
  | 4 => none
  | 5 => (some .boolean)
  | 6 => (some .boolean)
  | 7 => (some .boolean)
  | 8 => (some .boolean)
  | 9 => none
  | 10 => (some .boolean)
  | 11 => (some .int)
  | 12 => none
  | 13 => (some .int)
  | 14 => (some .boolean)
  | 15 => (some .boolean)
  | 16 => (some .boolean)
  | 17 => (some .int)
  | 18 => (some .int)
  | 19 => none
  | 20 => none
  | 21 => (some .int)
  | 22 => (some .int)
  | 23 => none
  | 24 => (some .int)
  | 25 => (some .int)
  | 26 => (some .int)
  | 27 => (some .int)
  | 28 => (some .int)
  | 29 => (some .int)
  | 30 => (some .int)
  | 31 => (some .int)
  | 32 => (some .int)
  | 33 => (some .boolean)
  | 34 => (some .int)
  | 35 => (some .int)
  | 36 => none
  | 37 => (some .int)
  | 38 => (some .int)
  | 39 => (some .int)
  | 40 => (some .int)
  | 41 => (some .int)
  | 42 => (some .int)
  | 43 => (some .int)
  | 44 => (some .int)
  | 45 => (some .int)
  | 46 => (some .boolean)
  | 47 => (some .boolean)
  | 48 => (some .int)
  | 49 => (some .int)
  | 50 => none
  | 51 => (some .int)
  | 52 => (some .int)
  | 53 => none
  | 54 => none
  | 55 => none
  | 56 => (some .int)
  | 57 => (some .boolean)
  | 58 => (some .int)
  | 59 => none
  | 60 => none
  | 61 => (some .int)
  | 62 => none
  | 63 => none
  | 64 => none
  | 65 => none
  | 66 => (some .int)
  | 67 => none
  | 68 => none
  | 69 => (some .int)
  | 70 => none
  | 71 => (some .int)
  | 72 => (some .boolean)
  | 73 => (some .boolean)
  | 74 => (some .boolean)
  | 75 => (some .boolean)
  | 76 => (some .boolean)
  | 77 => (some .boolean)
  | 78 => (some .boolean)
  | 79 => (some .boolean)
  | 80 => (some .boolean)
  | 81 => none
  | 82 => none
  | 83 => none
  | 84 => none
  | 85 => none
  | 86 => (some .boolean)
  | 87 => (some .int)
  | 88 => (some .int)
  | 89 => (some .int)
  | 90 => (some .int)
  | 91 => (some .int)
  | 92 => (some .boolean)
  | 93 => (some .int)
  | 94 => (some .int)
  | 95 => (some .int)
  | 96 => (some .int)
  | 97 => (some .int)
  | 98 => (some .int)
  | 99 => (some .int)
  | 100 => none
  | 101 => (some .boolean)
  | 102 => (some .int)
  | 103 => (some .boolean)
  | 104 => (some .int)
  | 105 => none
  | 106 => (some .int)
  | 107 => (some .int)
  | 108 => (some .int)
  | 109 => (some .int)
  | 110 => (some .int)
  | 111 => (some .int)
  | 112 => (some .int)
  | 113 => (some .int)
  | 114 => (some .int)
  | 115 => (some .int)
  | 116 => (some .int)
  | 117 => (some .boolean)
  | 118 => (some .boolean)
  | 119 => (some .int)
  | 120 => (some .int)
  | 121 => none
  | 122 => (some .int)
  | 123 => none
  | 124 => (some .int)
  | 125 => (some .int)
  | 126 => (some .int)
  | 127 => (some .int)
  | 128 => none
  | 129 => (some .int)
  | 130 => (some .int)
  | 131 => (some .int)
  | 132 => (some .int)
  | 133 => (some .int)
  | 134 => (some .int)
  | 135 => (some .int)
  | 136 => (some .int)
  | 137 => (some .int)
  | 138 => (some .int)
  | 139 => (some .int)
  | 140 => (some .int)
  | 141 => (some .int)
  | 142 => (some .int)
  | 143 => (some .int)
  | 144 => (some .int)
  | 145 => (some .int)
  | 146 => (some .int)
  | 147 => (some .int)
  | 148 => (some .int)
  | 149 => (some .int)
  | 150 => (some .int)
  | 151 => (some .int)
  | 152 => (some .int)
  | 153 => (some .int)
  | 154 => (some .int)
  | 155 => (some .int)
  | _ => (some .boolean)
def cC : Nat → Nat
  | 0 => 0
  | 1 => 0
  | 2 => 0
  | 3 => 1
  | 4 => 2
  | 5 => 2
  | 6 => 2
  | 7 => 2
  | 8 => 2
  | 9 => 2
  | 10 => 2
  | 11 => 2
  | 12 => 3
  | 13 => 3
  | 14 => 3
  | 15 => 3
  | 16 => 3
  | 17 => 3
  | 18 => 3
  | 19 => 4
  | 20 => 4
  | 21 => 4
  | 22 => 4
  | 23 => 5
  | 24 => 5
  | 25 => 5
  | 26 => 5
  | 27 => 5
  | 28 => 5
  | 29 => 5
  | 30 => 5
  | 31 => 5
  | 32 => 5
  | 33 => 5
  | 34 => 5
  | 35 => 5
  | 36 => 5
  | 37 => 5
  | 38 => 5
  | 39 => 5
  | 40 => 5
  | 41 => 5
  | 42 => 5
  | 43 => 5
  | 44 => 5
  | 45 => 5
  | 46 => 5
  | 47 => 5
  | 48 => 5
  | 49 => 5
  | 50 => 5
  | 51 => 5
  | 52 => 5
  | 53 => 5
  | 54 => 5
  | 55 => 5
  | 56 => 5
  | 57 => 5
  | 58 => 5
  | 59 => 5
  | 60 => 5
  | 61 => 5
  | 62 => 5
  | 63 => 5
  | 64 => 5
  | 65 => 5
  | 66 => 5
  | 67 => 5
  | 68 => 5
  | 69 => 5
  | 70 => 6
  | 71 => 6
  | 72 => 6
  | 73 => 6
  | 74 => 6
  | 75 => 6
  | 76 => 6
  | 77 => 6
  | 78 => 6
  | 79 => 6
  | 80 => 6
  | 81 => 6
  | 82 => 6
  | 83 => 6
  | 84 => 6
  | 85 => 6
  | 86 => 6
  | 87 => 6
  | 88 => 6
  | 89 => 6
  | 90 => 6
  | 91 => 6
  | 92 => 6
  | 93 => 6
  | 94 => 6
  | 95 => 6
  | 96 => 6
  | 97 => 6
  | 98 => 6
  | 99 => 6
  | 100 => 6
  | 101 => 6
  | 102 => 6
  | 103 => 6
  | 104 => 6
  | 105 => 6
  | 106 => 6
  | 107 => 6
  | 108 => 6
  | 109 => 6
  | 110 => 6
  | 111 => 6
  | 112 => 6
  | 113 => 6
  | 114 => 6
  | 115 => 6
  | 116 => 6
  | 117 => 6
  | 118 => 6
  | 119 => 6
  | 120 => 6
  | 121 => 6
  | 122 => 6
  | 123 => 6
  | 124 => 6
  | 125 => 6
  | 126 => 6
  | 127 => 8
  | 128 => 9
  | 129 => 7
  | 130 => 7
  | 131 => 7
  | 132 => 7
  | 133 => 7
  | 134 => 7
  | 135 => 7
  | 136 => 7
  | 137 => 7
  | 138 => 7
  | 139 => 7
  | 140 => 7
  | 141 => 7
  | 142 => 7
  | 143 => 7
  | 144 => 7
  | 145 => 7
  | 146 => 7
  | 147 => 7
  | 148 => 7
  | 149 => 7
  | 150 => 7
  | 151 => 7
  | 152 => 7
  | 153 => 7
  | 154 => 7
  | 155 => 7
  | _ => 7
def cH : Nat → List (Nat × Nat × Nat × Nat)
  | 0 => []
  | 1 => []
  | 2 => []
  | 3 => []
  | 4 => []
  | 5 => []
  | 6 => []
  | 7 => []
  | 8 => []
  | 9 => []
  | 10 => []
  | 11 => []
  | 12 => []
  | 13 => []
  | 14 => []
  | 15 => []
  | 16 => []
  | 17 => []
  | 18 => []
  | 19 => []
  | 20 => []
  | 21 => []
  | 22 => []
  | 23 => []
  | 24 => []
  | 25 => []
  | 26 => []
  | 27 => []
  | 28 => []
  | 29 => []
  | 30 => []
  | 31 => []
  | 32 => []
  | 33 => []
  | 34 => []
  | 35 => []
  | 36 => []
  | 37 => []
  | 38 => []
  | 39 => []
  | 40 => []
  | 41 => []
  | 42 => []
  | 43 => []
  | 44 => []
  | 45 => []
  | 46 => []
  | 47 => []
  | 48 => []
  | 49 => []
  | 50 => []
  | 51 => []
  | 52 => []
  | 53 => []
  | 54 => []
  | 55 => []
  | 56 => []
  | 57 => []
  | 58 => []
  | 59 => []
  | 60 => []
  | 61 => []
  | 62 => []
  | 63 => []
  | 64 => []
  | 65 => []
  | 66 => []
  | 67 => []
  | 68 => []
  | 69 => []
  | 70 => []
  | 71 => []
  | 72 => []
  | 73 => []
  | 74 => []
  | 75 => []
  | 76 => []
  | 77 => []
  | 78 => []
  | 79 => []
  | 80 => []
  | 81 => []
  | 82 => []
  | 83 => []
  | 84 => []
  | 85 => []
  | 86 => []
  | 87 => []
  | 88 => []
  | 89 => []
  | 90 => []
  | 91 => []
  | 92 => []
  | 93 => []
  | 94 => []
  | 95 => []
  | 96 => []
  | 97 => []
  | 98 => []
  | 99 => []
  | 100 => []
  | 101 => []
  | 102 => []
  | 103 => []
  | 104 => []
  | 105 => []
  | 106 => []
  | 107 => []
  | 108 => []
  | 109 => []
  | 110 => []
  | 111 => []
  | 112 => []
  | 113 => []
  | 114 => []
  | 115 => []
  | 116 => []
  | 117 => []
  | 118 => []
  | 119 => []
  | 120 => []
  | 121 => []
  | 122 => []
  | 123 => []
  | 124 => []
  | 125 => []
  | 126 => []
  | 127 => []
  | 128 => []
  | 129 => [(0, 12, 15, 13), (0, 12, 19, 15), (0, 12, 23, 17)]
  | 130 => [(0, 12, 15, 13), (0, 12, 19, 17)]
  | 131 => [(0, 12, 15, 13), (0, 12, 19, 15)]
  | 132 => [(0, 12, 15, 13), (0, 12, 19, 15), (0, 12, 23, 17)]
  | 133 => [(0, 10, 13, 13)]
  | 134 => [(0, 10, 13, 13), (0, 10, 17, 15)]
  | 135 => [(0, 9, 12, 13)]
  | 136 => [(0, 10, 13, 13)]
  | 137 => [(0, 10, 13, 13), (0, 10, 17, 15)]
  | 138 => [(0, 17, 20, 13), (0, 17, 24, 15), (0, 17, 28, 17)]
  | 139 => [(0, 10, 13, 13), (0, 10, 17, 17)]
  | 140 => [(0, 10, 13, 13), (0, 10, 17, 15), (0, 10, 21, 17)]
  | 141 => [(0, 5, 8, 13), (0, 5, 11, 17)]
  | 142 => [(0, 12, 15, 13), (0, 12, 19, 15)]
  | 143 => [(0, 9, 12, 13)]
  | 144 => [(0, 10, 13, 13), (0, 10, 17, 17)]
  | 145 => [(0, 9, 12, 13), (0, 9, 15, 17)]
  | 146 => [(0, 9, 12, 13), (0, 9, 15, 17)]
  | 147 => [(0, 10, 13, 13), (0, 10, 17, 15)]
  | 148 => [(0, 9, 12, 13), (0, 9, 15, 17)]
  | 149 => [(0, 10, 13, 13), (0, 10, 17, 15), (0, 10, 21, 17)]
  | 150 => [(0, 16, 19, 13)]
  | 151 => [(0, 16, 19, 13)]
  | 152 => [(0, 10, 13, 13), (0, 10, 17, 15)]
  | 153 => [(0, 9, 12, 15), (0, 9, 15, 17)]
  | 154 => [(0, 7, 10, 13)]
  | 155 => [(0, 10, 13, 13), (0, 10, 17, 15), (0, 10, 21, 17)]
  | _ => []
def cI : Nat → Bool
  | 0 => true
  | 1 => false
  | 2 => false
  | 3 => true
  | 4 => true
  | 5 => false
  | 6 => false
  | 7 => false
  | 8 => false
  | 9 => false
  | 10 => false
  | 11 => false
  | 12 => true
  | 13 => false
  | 14 => false
  | 15 => false
  | 16 => false
  | 17 => false
  | 18 => false
  | 19 => true
  | 20 => false
  | 21 => false
  | 22 => false
  | 23 => true
  | 24 => false
  | 25 => false
  | 26 => false
  | 27 => false
  | 28 => false
  | 29 => false
  | 30 => false
  | 31 => false
  | 32 => false
  | 33 => false
  | 34 => false
  | 35 => false
  | 36 => false
  | 37 => false
  | 38 => false
  | 39 => false
  | 40 => false
  | 41 => false
  | 42 => false
  | 43 => false
  | 44 => false
  | 45 => false
  | 46 => false
  | 47 => false
  | 48 => false
  | 49 => false
  | 50 => false
  | 51 => false
  | 52 => false
  | 53 => false
  | 54 => false
  | 55 => false
  | 56 => false
  | 57 => false
  | 58 => false
  | 59 => false
  | 60 => false
  | 61 => false
  | 62 => false
  | 63 => false
  | 64 => false
  | 65 => false
  | 66 => false
  | 67 => false
  | 68 => false
  | 69 => false
  | 70 => true
  | 71 => false
  | 72 => false
  | 73 => false
  | 74 => false
  | 75 => false
  | 76 => false
  | 77 => false
  | 78 => false
  | 79 => false
  | 80 => false
  | 81 => false
  | 82 => false
  | 83 => false
  | 84 => false
  | 85 => false
  | 86 => false
  | 87 => false
  | 88 => false
  | 89 => false
  | 90 => false
  | 91 => false
  | 92 => false
  | 93 => false
  | 94 => false
  | 95 => false
  | 96 => false
  | 97 => false
  | 98 => false
  | 99 => false
  | 100 => false
  | 101 => false
  | 102 => false
  | 103 => false
  | 104 => false
  | 105 => false
  | 106 => false
  | 107 => false
  | 108 => false
  | 109 => false
  | 110 => false
  | 111 => false
  | 112 => false
  | 113 => false
  | 114 => false
  | 115 => false
  | 116 => false
  | 117 => false
  | 118 => false
  | 119 => false
  | 120 => false
  | 121 => false
  | 122 => false
  | 123 => false
  | 124 => false
  | 125 => false
  | 126 => false
  | 127 => false
  | 128 => false
  | 129 => false
  | 130 => false
  | 131 => false
  | 132 => false
  | 133 => false
  | 134 => false
  | 135 => false
  | 136 => false
  | 137 => false
  | 138 => false
  | 139 => false
  | 140 => false
  | 141 => false
  | 142 => false
  | 143 => false
  | 144 => false
  | 145 => false
  | 146 => false
  | 147 => false
  | 148 => false
  | 149 => false
  | 150 => false
  | 151 => false
  | 152 => false
  | 153 => false
  | 154 => false
  | 155 => false
  | _ => false
def rmM : Nat → Room
  | 0 => { frames := 1, cells := 4, slots := 2088, locals := 20 }
  | 1 => { frames := 0, cells := 0, slots := 0, locals := 0 }
  | 2 => { frames := 0, cells := 0, slots := 0, locals := 0 }
  | 3 => { frames := 1, cells := 4, slots := 16, locals := 23 }
  | 4 => { frames := 1, cells := 4, slots := 40, locals := 23 }
  | 5 => { frames := 1, cells := 0, slots := 0, locals := 20 }
  | 6 => { frames := 1, cells := 0, slots := 0, locals := 20 }
  | 7 => { frames := 1, cells := 0, slots := 0, locals := 20 }
  | 8 => { frames := 1, cells := 0, slots := 0, locals := 20 }
  | 9 => { frames := 1, cells := 0, slots := 0, locals := 20 }
  | 10 => { frames := 2, cells := 0, slots := 0, locals := 41 }
  | 11 => { frames := 1, cells := 0, slots := 0, locals := 20 }
  | 12 => { frames := 1, cells := 50, slots := 880, locals := 20 }
  | 13 => { frames := 0, cells := 0, slots := 0, locals := 0 }
  | 14 => { frames := 0, cells := 0, slots := 0, locals := 0 }
  | 15 => { frames := 0, cells := 0, slots := 0, locals := 0 }
  | 16 => { frames := 0, cells := 0, slots := 0, locals := 0 }
  | 17 => { frames := 1, cells := 0, slots := 0, locals := 21 }
  | 18 => { frames := 0, cells := 0, slots := 0, locals := 0 }
  | 19 => { frames := 1, cells := 2, slots := 24, locals := 23 }
  | 20 => { frames := 1, cells := 0, slots := 0, locals := 23 }
  | 21 => { frames := 0, cells := 0, slots := 0, locals := 0 }
  | 22 => { frames := 0, cells := 0, slots := 0, locals := 0 }
  | 23 => { frames := 2, cells := 74, slots := 3158, locals := 43 }
  | 24 => { frames := 7, cells := 4, slots := 24, locals := 103 }
  | 25 => { frames := 7, cells := 4, slots := 24, locals := 129 }
  | 26 => { frames := 7, cells := 3, slots := 18, locals := 103 }
  | 27 => { frames := 7, cells := 4, slots := 24, locals := 129 }
  | 28 => { frames := 7, cells := 2, slots := 12, locals := 103 }
  | 29 => { frames := 7, cells := 3, slots := 18, locals := 103 }
  | 30 => { frames := 7, cells := 1, slots := 6, locals := 103 }
  | 31 => { frames := 7, cells := 2, slots := 12, locals := 103 }
  | 32 => { frames := 7, cells := 2, slots := 12, locals := 103 }
  | 33 => { frames := 7, cells := 4, slots := 24, locals := 103 }
  | 34 => { frames := 7, cells := 3, slots := 18, locals := 129 }
  | 35 => { frames := 7, cells := 3, slots := 18, locals := 103 }
  | 36 => { frames := 7, cells := 2, slots := 12, locals := 103 }
  | 37 => { frames := 7, cells := 3, slots := 18, locals := 103 }
  | 38 => { frames := 7, cells := 1, slots := 6, locals := 103 }
  | 39 => { frames := 7, cells := 3, slots := 18, locals := 103 }
  | 40 => { frames := 7, cells := 2, slots := 12, locals := 103 }
  | 41 => { frames := 7, cells := 2, slots := 12, locals := 107 }
  | 42 => { frames := 7, cells := 2, slots := 12, locals := 103 }
  | 43 => { frames := 7, cells := 2, slots := 12, locals := 131 }
  | 44 => { frames := 7, cells := 3, slots := 18, locals := 131 }
  | 45 => { frames := 1, cells := 0, slots := 0, locals := 20 }
  | 46 => { frames := 7, cells := 1, slots := 6, locals := 103 }
  | 47 => { frames := 7, cells := 1, slots := 6, locals := 103 }
  | 48 => { frames := 7, cells := 2, slots := 12, locals := 103 }
  | 49 => { frames := 7, cells := 2, slots := 12, locals := 102 }
  | 50 => { frames := 7, cells := 1, slots := 6, locals := 103 }
  | 51 => { frames := 0, cells := 0, slots := 0, locals := 0 }
  | 52 => { frames := 7, cells := 3, slots := 18, locals := 103 }
  | 53 => { frames := 6, cells := 1, slots := 6, locals := 82 }
  | 54 => { frames := 6, cells := 1, slots := 6, locals := 82 }
  | 55 => { frames := 6, cells := 1, slots := 6, locals := 82 }
  | 56 => { frames := 0, cells := 0, slots := 0, locals := 0 }
  | 57 => { frames := 2, cells := 0, slots := 0, locals := 41 }
  | 58 => { frames := 1, cells := 0, slots := 0, locals := 25 }
  | 59 => { frames := 5, cells := 0, slots := 0, locals := 107 }
  | 60 => { frames := 1, cells := 0, slots := 0, locals := 23 }
  | 61 => { frames := 0, cells := 0, slots := 0, locals := 0 }
  | 62 => { frames := 3, cells := 0, slots := 0, locals := 64 }
  | 63 => { frames := 2, cells := 0, slots := 0, locals := 41 }
  | 64 => { frames := 4, cells := 0, slots := 0, locals := 85 }
  | 65 => { frames := 3, cells := 0, slots := 0, locals := 64 }
  | 66 => { frames := 5, cells := 0, slots := 0, locals := 107 }
  | 67 => { frames := 4, cells := 0, slots := 0, locals := 85 }
  | 68 => { frames := 3, cells := 0, slots := 0, locals := 64 }
  | 69 => { frames := 0, cells := 0, slots := 0, locals := 0 }
  | 70 => { frames := 1, cells := 23, slots := 9146, locals := 20 }
  | 71 => { frames := 0, cells := 0, slots := 0, locals := 0 }
  | 72 => { frames := 0, cells := 0, slots := 0, locals := 0 }
  | 73 => { frames := 0, cells := 0, slots := 0, locals := 0 }
  | 74 => { frames := 1, cells := 0, slots := 0, locals := 22 }
  | 75 => { frames := 1, cells := 0, slots := 0, locals := 22 }
  | 76 => { frames := 1, cells := 0, slots := 0, locals := 22 }
  | 77 => { frames := 1, cells := 0, slots := 0, locals := 22 }
  | 78 => { frames := 1, cells := 0, slots := 0, locals := 22 }
  | 79 => { frames := 0, cells := 0, slots := 0, locals := 0 }
  | 80 => { frames := 1, cells := 0, slots := 0, locals := 21 }
  | 81 => { frames := 0, cells := 0, slots := 0, locals := 0 }
  | 82 => { frames := 1, cells := 0, slots := 0, locals := 23 }
  | 83 => { frames := 2, cells := 0, slots := 0, locals := 46 }
  | 84 => { frames := 3, cells := 0, slots := 0, locals := 67 }
  | 85 => { frames := 4, cells := 0, slots := 0, locals := 88 }
  | 86 => { frames := 0, cells := 0, slots := 0, locals := 0 }
  | 87 => { frames := 2, cells := 0, slots := 0, locals := 42 }
  | 88 => { frames := 5, cells := 0, slots := 0, locals := 110 }
  | 89 => { frames := 6, cells := 0, slots := 0, locals := 136 }
  | 90 => { frames := 2, cells := 0, slots := 0, locals := 42 }
  | 91 => { frames := 0, cells := 0, slots := 0, locals := 0 }
  | 92 => { frames := 0, cells := 0, slots := 0, locals := 0 }
  | 93 => { frames := 6, cells := 0, slots := 0, locals := 136 }
  | 94 => { frames := 2, cells := 0, slots := 0, locals := 43 }
  | 95 => { frames := 0, cells := 0, slots := 0, locals := 0 }
  | 96 => { frames := 2, cells := 0, slots := 0, locals := 43 }
  | 97 => { frames := 2, cells := 0, slots := 0, locals := 43 }
  | 98 => { frames := 2, cells := 0, slots := 0, locals := 42 }
  | 99 => { frames := 2, cells := 0, slots := 0, locals := 43 }
  | 100 => { frames := 2, cells := 0, slots := 0, locals := 46 }
  | 101 => { frames := 3, cells := 0, slots := 0, locals := 68 }
  | 102 => { frames := 5, cells := 0, slots := 0, locals := 110 }
  | 103 => { frames := 2, cells := 0, slots := 0, locals := 42 }
  | 104 => { frames := 3, cells := 0, slots := 0, locals := 63 }
  | 105 => { frames := 3, cells := 0, slots := 0, locals := 63 }
  | 106 => { frames := 2, cells := 0, slots := 0, locals := 42 }
  | 107 => { frames := 2, cells := 0, slots := 0, locals := 42 }
  | 108 => { frames := 2, cells := 0, slots := 0, locals := 42 }
  | 109 => { frames := 3, cells := 0, slots := 0, locals := 67 }
  | 110 => { frames := 0, cells := 0, slots := 0, locals := 0 }
  | 111 => { frames := 4, cells := 0, slots := 0, locals := 88 }
  | 112 => { frames := 2, cells := 0, slots := 0, locals := 42 }
  | 113 => { frames := 4, cells := 0, slots := 0, locals := 88 }
  | 114 => { frames := 5, cells := 0, slots := 0, locals := 112 }
  | 115 => { frames := 5, cells := 0, slots := 0, locals := 112 }
  | 116 => { frames := 1, cells := 0, slots := 0, locals := 22 }
  | 117 => { frames := 2, cells := 0, slots := 0, locals := 42 }
  | 118 => { frames := 3, cells := 0, slots := 0, locals := 63 }
  | 119 => { frames := 1, cells := 0, slots := 0, locals := 21 }
  | 120 => { frames := 2, cells := 0, slots := 0, locals := 43 }
  | 121 => { frames := 2, cells := 0, slots := 0, locals := 46 }
  | 122 => { frames := 3, cells := 0, slots := 0, locals := 68 }
  | 123 => { frames := 2, cells := 0, slots := 0, locals := 42 }
  | 124 => { frames := 0, cells := 0, slots := 0, locals := 0 }
  | 125 => { frames := 1, cells := 0, slots := 0, locals := 21 }
  | 126 => { frames := 2, cells := 0, slots := 0, locals := 42 }
  | 127 => { frames := 0, cells := 0, slots := 0, locals := 0 }
  | 128 => { frames := 0, cells := 0, slots := 0, locals := 0 }
  | 129 => { frames := 8, cells := 4, slots := 24, locals := 127 }
  | 130 => { frames := 8, cells := 4, slots := 24, locals := 154 }
  | 131 => { frames := 8, cells := 3, slots := 18, locals := 126 }
  | 132 => { frames := 8, cells := 4, slots := 24, locals := 155 }
  | 133 => { frames := 8, cells := 2, slots := 12, locals := 125 }
  | 134 => { frames := 8, cells := 3, slots := 18, locals := 125 }
  | 135 => { frames := 8, cells := 1, slots := 6, locals := 128 }
  | 136 => { frames := 8, cells := 2, slots := 12, locals := 129 }
  | 137 => { frames := 8, cells := 2, slots := 12, locals := 125 }
  | 138 => { frames := 8, cells := 4, slots := 24, locals := 126 }
  | 139 => { frames := 8, cells := 3, slots := 18, locals := 152 }
  | 140 => { frames := 8, cells := 3, slots := 18, locals := 126 }
  | 141 => { frames := 8, cells := 2, slots := 12, locals := 124 }
  | 142 => { frames := 8, cells := 3, slots := 18, locals := 128 }
  | 143 => { frames := 8, cells := 1, slots := 6, locals := 124 }
  | 144 => { frames := 8, cells := 3, slots := 18, locals := 126 }
  | 145 => { frames := 8, cells := 2, slots := 12, locals := 125 }
  | 146 => { frames := 8, cells := 2, slots := 12, locals := 130 }
  | 147 => { frames := 8, cells := 2, slots := 12, locals := 126 }
  | 148 => { frames := 8, cells := 2, slots := 12, locals := 152 }
  | 149 => { frames := 8, cells := 3, slots := 18, locals := 154 }
  | 150 => { frames := 8, cells := 1, slots := 6, locals := 124 }
  | 151 => { frames := 8, cells := 1, slots := 6, locals := 124 }
  | 152 => { frames := 8, cells := 2, slots := 12, locals := 128 }
  | 153 => { frames := 8, cells := 2, slots := 12, locals := 125 }
  | 154 => { frames := 8, cells := 1, slots := 6, locals := 126 }
  | 155 => { frames := 8, cells := 3, slots := 18, locals := 125 }
  | _ => room_1
def cP : Nat → Nat
  | 0 => 0
  | 1 => 4
  | 2 => 1
  | 3 => 0
  | 4 => 0
  | 5 => 1
  | 6 => 1
  | 7 => 1
  | 8 => 2
  | 9 => 2
  | 10 => 2
  | 11 => 2
  | 12 => 0
  | 13 => 4
  | 14 => 1
  | 15 => 2
  | 16 => 3
  | 17 => 2
  | 18 => 2
  | 19 => 0
  | 20 => 0
  | 21 => 0
  | 22 => 2
  | 23 => 0
  | 24 => 3
  | 25 => 3
  | 26 => 3
  | 27 => 3
  | 28 => 2
  | 29 => 2
  | 30 => 1
  | 31 => 2
  | 32 => 2
  | 33 => 2
  | 34 => 2
  | 35 => 2
  | 36 => 1
  | 37 => 3
  | 38 => 1
  | 39 => 2
  | 40 => 1
  | 41 => 1
  | 42 => 2
  | 43 => 1
  | 44 => 2
  | 45 => 0
  | 46 => 1
  | 47 => 1
  | 48 => 2
  | 49 => 1
  | 50 => 3
  | 51 => 0
  | 52 => 2
  | 53 => 2
  | 54 => 1
  | 55 => 1
  | 56 => 1
  | 57 => 2
  | 58 => 3
  | 59 => 2
  | 60 => 2
  | 61 => 1
  | 62 => 2
  | 63 => 3
  | 64 => 1
  | 65 => 1
  | 66 => 2
  | 67 => 1
  | 68 => 1
  | 69 => 1
  | 70 => 0
  | 71 => 0
  | 72 => 1
  | 73 => 3
  | 74 => 1
  | 75 => 1
  | 76 => 1
  | 77 => 1
  | 78 => 1
  | 79 => 2
  | 80 => 1
  | 81 => 3
  | 82 => 3
  | 83 => 1
  | 84 => 1
  | 85 => 2
  | 86 => 1
  | 87 => 3
  | 88 => 5
  | 89 => 3
  | 90 => 3
  | 91 => 3
  | 92 => 1
  | 93 => 3
  | 94 => 2
  | 95 => 2
  | 96 => 2
  | 97 => 1
  | 98 => 2
  | 99 => 2
  | 100 => 2
  | 101 => 2
  | 102 => 2
  | 103 => 1
  | 104 => 2
  | 105 => 1
  | 106 => 3
  | 107 => 1
  | 108 => 2
  | 109 => 1
  | 110 => 1
  | 111 => 1
  | 112 => 2
  | 113 => 2
  | 114 => 1
  | 115 => 2
  | 116 => 0
  | 117 => 1
  | 118 => 1
  | 119 => 1
  | 120 => 2
  | 121 => 0
  | 122 => 1
  | 123 => 3
  | 124 => 0
  | 125 => 1
  | 126 => 2
  | 127 => 1
  | 128 => 2
  | 129 => 5
  | 130 => 5
  | 131 => 5
  | 132 => 5
  | 133 => 4
  | 134 => 4
  | 135 => 3
  | 136 => 4
  | 137 => 4
  | 138 => 4
  | 139 => 4
  | 140 => 4
  | 141 => 2
  | 142 => 5
  | 143 => 3
  | 144 => 4
  | 145 => 3
  | 146 => 3
  | 147 => 4
  | 148 => 3
  | 149 => 4
  | 150 => 3
  | 151 => 3
  | 152 => 4
  | 153 => 3
  | 154 => 4
  | 155 => 4
  | _ => 1
abbrev mX0_init : Nat := 0
abbrev mX0_add : Nat := 1
abbrev mX0_tellsKnown : Nat := 2
abbrev mX1_init : Nat := 3
abbrev mX2_init : Nat := 4
abbrev mX2_isFree : Nat := 5
abbrev mX2_isInformer : Nat := 6
abbrev mX2_isListed : Nat := 7
abbrev mX2_areAcquainted : Nat := 8
abbrev mX2_acquaint : Nat := 9
abbrev mX2_opensIn : Nat := 10
abbrev mX2_lowestUnknown : Nat := 11
abbrev mX3_init : Nat := 12
abbrev mX3_add : Nat := 13
abbrev mX3_anyOf : Nat := 14
abbrev mX3_couldBeParent : Nat := 15
abbrev mX3_canVote : Nat := 16
abbrev mX3_distance : Nat := 17
abbrev mX3_distanceAt : Nat := 18
abbrev mX4_init : Nat := 19
abbrev mX4_forget : Nat := 20
abbrev mX4_countPlaces : Nat := 21
abbrev mX4_apply : Nat := 22
abbrev mX5_init : Nat := 23
abbrev mX5_word : Nat := 24
abbrev mX5_write : Nat := 25
abbrev mX5_slip : Nat := 26
abbrev mX5_type : Nat := 27
abbrev mX5_reading : Nat := 28
abbrev mX5_unlikely : Nat := 29
abbrev mX5_likeliest : Nat := 30
abbrev mX5_restored : Nat := 31
abbrev mX5_sheetIs : Nat := 32
abbrev mX5_meet : Nat := 33
abbrev mX5_give : Nat := 34
abbrev mX5_hide : Nat := 35
abbrev mX5_burn : Nat := 36
abbrev mX5_whoHad : Nat := 37
abbrev mX5_knows : Nat := 38
abbrev mX5_lend : Nat := 39
abbrev mX5_file : Nat := 40
abbrev mX5_informer : Nat := 41
abbrev mX5_strong : Nat := 42
abbrev mX5_arrest : Nat := 43
abbrev mX5_search : Nat := 44
abbrev mX5_amnesty : Nat := 45
abbrev mX5_isKnown : Nat := 46
abbrev mX5_isKnownAnew : Nat := 47
abbrev mX5_risk : Nat := 48
abbrev mX5_pass : Nat := 49
abbrev mX5_life : Nat := 50
abbrev mX5_open : Nat := 51
abbrev mX5_line : Nat := 52
abbrev mX5_needIndex : Nat := 53
abbrev mX5_needArgument : Nat := 54
abbrev mX5_needState : Nat := 55
abbrev mX5_bit : Nat := 56
abbrev mX5_canType : Nat := 57
abbrev mX5_makeCopy : Nat := 58
abbrev mX5_bringTo : Nat := 59
abbrev mX5_castVotes : Nat := 60
abbrev mX5_countVotes : Nat := 61
abbrev mX5_tellOf : Nat := 62
abbrev mX5_noteKnown : Nat := 63
abbrev mX5_see : Nat := 64
abbrev mX5_compareLetters : Nat := 65
abbrev mX5_seizeSheets : Nat := 66
abbrev mX5_seizeMachines : Nat := 67
abbrev mX5_openOne : Nat := 68
abbrev mX5_nameInArchive : Nat := 69
abbrev mX6_init : Nat := 70
abbrev mX6_thrown : Nat := 71
abbrev mX6_fails : Nat := 72
abbrev mX6_isIn : Nat := 73
abbrev mX6_isText : Nat := 74
abbrev mX6_isPlace : Nat := 75
abbrev mX6_isPerson : Nat := 76
abbrev mX6_isMachine : Nat := 77
abbrev mX6_isSheet : Nat := 78
abbrev mX6_holds : Nat := 79
abbrev mX6_isFree : Nat := 80
abbrev mX6_writes : Nat := 81
abbrev mX6_becomes : Nat := 82
abbrev mX6_looks : Nat := 83
abbrev mX6_sees : Nat := 84
abbrev mX6_comes : Nat := 85
abbrev mX6_hasSheets : Nat := 86
abbrev mX6_word : Nat := 87
abbrev mX6_adds : Nat := 88
abbrev mX6_write : Nat := 89
abbrev mX6_slip : Nat := 90
abbrev mX6_copied : Nat := 91
abbrev mX6_isThere : Nat := 92
abbrev mX6_type : Nat := 93
abbrev mX6_reading : Nat := 94
abbrev mX6_unlike : Nat := 95
abbrev mX6_unlikely : Nat := 96
abbrev mX6_likeliest : Nat := 97
abbrev mX6_restored : Nat := 98
abbrev mX6_sheetIs : Nat := 99
abbrev mX6_tells : Nat := 100
abbrev mX6_meet : Nat := 101
abbrev mX6_give : Nat := 102
abbrev mX6_canTouch : Nat := 103
abbrev mX6_hide : Nat := 104
abbrev mX6_burn : Nat := 105
abbrev mX6_whoHad : Nat := 106
abbrev mX6_knows : Nat := 107
abbrev mX6_lend : Nat := 108
abbrev mX6_file : Nat := 109
abbrev mX6_count : Nat := 110
abbrev mX6_informer : Nat := 111
abbrev mX6_strong : Nat := 112
abbrev mX6_seizes : Nat := 113
abbrev mX6_arrest : Nat := 114
abbrev mX6_search : Nat := 115
abbrev mX6_amnesty : Nat := 116
abbrev mX6_isKnown : Nat := 117
abbrev mX6_isKnownAnew : Nat := 118
abbrev mX6_lowest : Nat := 119
abbrev mX6_risk : Nat := 120
abbrev mX6_passes : Nat := 121
abbrev mX6_pass : Nat := 122
abbrev mX6_life : Nat := 123
abbrev mX6_open : Nat := 124
abbrev mX6_named : Nat := 125
abbrev mX6_line : Nat := 126
abbrev mJ6_bitCount_0f7a4 : Nat := 127
abbrev mJ7_fill_53178 : Nat := 128
abbrev mL_word : Nat := 129
abbrev mL_write : Nat := 130
abbrev mL_slip : Nat := 131
abbrev mL_type : Nat := 132
abbrev mL_reading : Nat := 133
abbrev mL_unlikely : Nat := 134
abbrev mL_likeliest : Nat := 135
abbrev mL_restored : Nat := 136
abbrev mL_sheetIs : Nat := 137
abbrev mL_meet : Nat := 138
abbrev mL_give : Nat := 139
abbrev mL_hide : Nat := 140
abbrev mL_burn : Nat := 141
abbrev mL_whoHad : Nat := 142
abbrev mL_knows : Nat := 143
abbrev mL_lend : Nat := 144
abbrev mL_file : Nat := 145
abbrev mL_informer : Nat := 146
abbrev mL_strong : Nat := 147
abbrev mL_arrest : Nat := 148
abbrev mL_search : Nat := 149
abbrev mL_isKnown : Nat := 150
abbrev mL_isKnownAnew : Nat := 151
abbrev mL_risk : Nat := 152
abbrev mL_pass : Nat := 153
abbrev mL_life : Nat := 154
abbrev mL_line : Nat := 155
abbrev mL_law : Nat := 156
/-- where a method throws: the exception, the place, its pool entries, wide or not -/
def thT : Nat → Option (Nat × Nat × Nat × Nat × Nat × Bool)
  | 53 => some (0, 9, 247, 249, 251, false)
  | 54 => some (1, 4, 254, 256, 258, true)
  | 55 => some (2, 4, 259, 261, 263, true)
  | _ => none
def strL : List (Nat × String) := [(249, "there is no such one"), (256, "an argument is out of range"), (261, "this cannot be done now")]
