def gLs : List (Nat × Nat × List Nat) := [(0, 10, [4, 6, 8, 20, 21, 35, 38, 39, 44, 50, 58, 74, 75]),
  (0, 7, [5, 0]),
  (1, 80, [2]),
  (0, 5, [7, 0]),
  (2, 12, [1]),
  (0, 1, [9, 17, 18, 19, 0, 0, 0, 1, 0]),
  (3, 7, 5 :: [7, 8, 9, 10, 11, 12, 13]),
  (1, 12, [0]),
  (1, 12, [0]),
  (1, 12, [0]),
  (1, 12, [0]),
  (1, 12, [0]),
  (1, 12, [0]),
  (1, 12, [0]),
  (1, 12, [0]),
  (1, 12, [0]),
  (2, 12, [1]),
  (3, 2, 7 :: [73, 85]),
  (0, 4, [22, 23, 24]),
  (1, 12, [0]),
  (1, 12, [0]),
  (3, 10, 5 :: [22, 23, 24, 25, 26, 27, 28, 29, 30, 31]),
  (1, 10, [0]),
  (1, 10, [0]),
  (1, 10, [0]),
  (1, 10, [0]),
  (1, 10, [0]),
  (1, 10, [0]),
  (1, 10, [0]),
  (1, 10, [0]),
  (1, 10, [0]),
  (1, 10, [0]),
  (0, 0, [36, 37, 0, 0]),
  (2, 420, [1]),
  (2, 420, [1]),
  (0, 9, [0, 0, 0]),
  (0, 6, [40, 41, 42, 43, 0, 0, 0]),
  (1, 6, [0]),
  (1, 40, [0]),
  (1, 40, [0]),
  (1, 40, [0]),
  (0, 2, [45, 46, 47, 0, 48, 0, 49, 0]),
  (1, 6, [0]),
  (1, 6, [0]),
  (1, 6, [0]),
  (1, 6, [0]),
  (1, 6, [0]),
  (0, 3, [51, 0, 0, 1, 0]),
  (3, 6, 6 :: [49, 50, 51, 52, 53, 54]),
  (2, 6, [1]),
  (2, 6, [1]),
  (2, 6, [1]),
  (2, 6, [1]),
  (2, 6, [1]),
  (2, 6, [1]),
  (0, 8, [59, 72, 73, 0, 0, 0, 0]),
  (3, 12, 5 :: [57, 58, 59, 60, 61, 62, 63, 64, 65, 66, 67, 68]),
  (1, 100, [0]),
  (1, 100, [0]),
  (1, 100, [0]),
  (1, 100, [0]),
  (1, 100, [0]),
  (1, 100, [0]),
  (1, 100, [0]),
  (1, 100, [0]),
  (1, 100, [0]),
  (1, 100, [0]),
  (1, 100, [0]),
  (1, 100, [0]),
  (1, 7, [0]),
  (1, 7, [0]),
  (1, 12, [0]),
  (1, 129, [0]),
  (0, 1, [77, 85, 86, 87, 0, 0, 0, 1, 0]),
  (3, 7, 5 :: [75, 76, 77, 78, 79, 80, 81]),
  (1, 12, [0]),
  (1, 12, [0]),
  (1, 12, [0]),
  (1, 12, [0]),
  (1, 12, [0]),
  (1, 12, [0]),
  (1, 12, [0]),
  (1, 12, [0]),
  (1, 12, [0]),
  (2, 12, [1]),
  (0, 1, [89, 97, 98, 99, 0, 0, 0, 1, 0]),
  (3, 7, 5 :: [87, 88, 89, 90, 91, 92, 93]),
  (1, 12, [0]),
  (1, 12, [0]),
  (1, 12, [0]),
  (1, 12, [0]),
  (1, 12, [0]),
  (1, 12, [0]),
  (1, 12, [0]),
  (1, 12, [0]),
  (1, 12, [0]),
  (2, 12, [1]),
  (0, 11, [0, 101, 102, 103, 0, 104, 1, 0, 105, 106, 0, 107, 108, 109, 110, 0, 111, 0, 0, 2, 0, 0, 0, 0, 112, 113, 0, 114, 1, 0, 0, 115, 116, 0, 117, 118, 119, 0, 120, 121, 0, 0, 122, 0, 0, 0, 0, 1, 123, 0, 0, 124, 125, 126, 127]),
  (1, 12, [0]),
  (1, 12, [0]),
  (1, 12, [0]),
  (1, 84, [0]),
  (1, 12, [0]),
  (2, 12, [1]),
  (1, 6, [0]),
  (1, 6, [0]),
  (1, 6, [0]),
  (1, 80, [3]),
  (2, 16, [1]),
  (1, 100, [0]),
  (1, 5052, [0]),
  (1, 12, [0]),
  (1, 12, [0]),
  (1, 4320, [0]),
  (1, 6, [0]),
  (1, 12, [0]),
  (1, 12, [0]),
  (1, 12, [0]),
  (1, 12, [0]),
  (1, 40, [3]),
  (1, 720, [0]),
  (1, 220, [0]),
  (2, 26, [1]),
  (1, 2, [4]),
  (1, 2, [0]),
  (2, 1, [1])]
def gL : eL := fun k => gLs.getD k (9, 0, [])
abbrev NN : Nat := 126
def gT (κ : Nat → ClassId) : List (ClassId × FieldType) := [(κ 0, .int), (κ 1, .long), (κ 2, .char), (κ 3, .byte), (κ 4, .boolean), (κ 5, .array .int), (κ 6, .array .long), (κ 7, .object "StreetsStepOn$Book")]
theorem gl_0 : gL 0 = (0, 10, [4, 6, 8, 20, 21, 35, 38, 39, 44, 50, 58, 74, 75]) := rfl
theorem gl_1 : gL 1 = (0, 7, [5, 0]) := rfl
theorem gl_2 : gL 2 = (1, 80, [2]) := rfl
theorem gl_3 : gL 3 = (0, 5, [7, 0]) := rfl
theorem gl_4 : gL 4 = (2, 12, [1]) := rfl
theorem gl_5 : gL 5 = (0, 1, [9, 17, 18, 19, 0, 0, 0, 1, 0]) := rfl
theorem gl_6 : gL 6 = (3, 7, 5 :: [7, 8, 9, 10, 11, 12, 13]) := rfl
theorem gl_7 : gL 7 = (1, 12, [0]) := rfl
theorem gl_8 : gL 8 = (1, 12, [0]) := rfl
theorem gl_9 : gL 9 = (1, 12, [0]) := rfl
theorem gl_10 : gL 10 = (1, 12, [0]) := rfl
theorem gl_11 : gL 11 = (1, 12, [0]) := rfl
theorem gl_12 : gL 12 = (1, 12, [0]) := rfl
theorem gl_13 : gL 13 = (1, 12, [0]) := rfl
theorem gl_14 : gL 14 = (1, 12, [0]) := rfl
theorem gl_15 : gL 15 = (1, 12, [0]) := rfl
theorem gl_16 : gL 16 = (2, 12, [1]) := rfl
theorem gl_17 : gL 17 = (3, 2, 7 :: [73, 85]) := rfl
theorem gl_18 : gL 18 = (0, 4, [22, 23, 24]) := rfl
theorem gl_19 : gL 19 = (1, 12, [0]) := rfl
theorem gl_20 : gL 20 = (1, 12, [0]) := rfl
theorem gl_21 : gL 21 = (3, 10, 5 :: [22, 23, 24, 25, 26, 27, 28, 29, 30, 31]) := rfl
theorem gl_22 : gL 22 = (1, 10, [0]) := rfl
theorem gl_23 : gL 23 = (1, 10, [0]) := rfl
theorem gl_24 : gL 24 = (1, 10, [0]) := rfl
theorem gl_25 : gL 25 = (1, 10, [0]) := rfl
theorem gl_26 : gL 26 = (1, 10, [0]) := rfl
theorem gl_27 : gL 27 = (1, 10, [0]) := rfl
theorem gl_28 : gL 28 = (1, 10, [0]) := rfl
theorem gl_29 : gL 29 = (1, 10, [0]) := rfl
theorem gl_30 : gL 30 = (1, 10, [0]) := rfl
theorem gl_31 : gL 31 = (1, 10, [0]) := rfl
theorem gl_32 : gL 32 = (0, 0, [36, 37, 0, 0]) := rfl
theorem gl_33 : gL 33 = (2, 420, [1]) := rfl
theorem gl_34 : gL 34 = (2, 420, [1]) := rfl
theorem gl_35 : gL 35 = (0, 9, [0, 0, 0]) := rfl
theorem gl_36 : gL 36 = (0, 6, [40, 41, 42, 43, 0, 0, 0]) := rfl
theorem gl_37 : gL 37 = (1, 6, [0]) := rfl
theorem gl_38 : gL 38 = (1, 40, [0]) := rfl
theorem gl_39 : gL 39 = (1, 40, [0]) := rfl
theorem gl_40 : gL 40 = (1, 40, [0]) := rfl
theorem gl_41 : gL 41 = (0, 2, [45, 46, 47, 0, 48, 0, 49, 0]) := rfl
theorem gl_42 : gL 42 = (1, 6, [0]) := rfl
theorem gl_43 : gL 43 = (1, 6, [0]) := rfl
theorem gl_44 : gL 44 = (1, 6, [0]) := rfl
theorem gl_45 : gL 45 = (1, 6, [0]) := rfl
theorem gl_46 : gL 46 = (1, 6, [0]) := rfl
theorem gl_47 : gL 47 = (0, 3, [51, 0, 0, 1, 0]) := rfl
theorem gl_48 : gL 48 = (3, 6, 6 :: [49, 50, 51, 52, 53, 54]) := rfl
theorem gl_49 : gL 49 = (2, 6, [1]) := rfl
theorem gl_50 : gL 50 = (2, 6, [1]) := rfl
theorem gl_51 : gL 51 = (2, 6, [1]) := rfl
theorem gl_52 : gL 52 = (2, 6, [1]) := rfl
theorem gl_53 : gL 53 = (2, 6, [1]) := rfl
theorem gl_54 : gL 54 = (2, 6, [1]) := rfl
theorem gl_55 : gL 55 = (0, 8, [59, 72, 73, 0, 0, 0, 0]) := rfl
theorem gl_56 : gL 56 = (3, 12, 5 :: [57, 58, 59, 60, 61, 62, 63, 64, 65, 66, 67, 68]) := rfl
theorem gl_57 : gL 57 = (1, 100, [0]) := rfl
theorem gl_58 : gL 58 = (1, 100, [0]) := rfl
theorem gl_59 : gL 59 = (1, 100, [0]) := rfl
theorem gl_60 : gL 60 = (1, 100, [0]) := rfl
theorem gl_61 : gL 61 = (1, 100, [0]) := rfl
theorem gl_62 : gL 62 = (1, 100, [0]) := rfl
theorem gl_63 : gL 63 = (1, 100, [0]) := rfl
theorem gl_64 : gL 64 = (1, 100, [0]) := rfl
theorem gl_65 : gL 65 = (1, 100, [0]) := rfl
theorem gl_66 : gL 66 = (1, 100, [0]) := rfl
theorem gl_67 : gL 67 = (1, 100, [0]) := rfl
theorem gl_68 : gL 68 = (1, 100, [0]) := rfl
theorem gl_69 : gL 69 = (1, 7, [0]) := rfl
theorem gl_70 : gL 70 = (1, 7, [0]) := rfl
theorem gl_71 : gL 71 = (1, 12, [0]) := rfl
theorem gl_72 : gL 72 = (1, 129, [0]) := rfl
theorem gl_73 : gL 73 = (0, 1, [77, 85, 86, 87, 0, 0, 0, 1, 0]) := rfl
theorem gl_74 : gL 74 = (3, 7, 5 :: [75, 76, 77, 78, 79, 80, 81]) := rfl
theorem gl_75 : gL 75 = (1, 12, [0]) := rfl
theorem gl_76 : gL 76 = (1, 12, [0]) := rfl
theorem gl_77 : gL 77 = (1, 12, [0]) := rfl
theorem gl_78 : gL 78 = (1, 12, [0]) := rfl
theorem gl_79 : gL 79 = (1, 12, [0]) := rfl
theorem gl_80 : gL 80 = (1, 12, [0]) := rfl
theorem gl_81 : gL 81 = (1, 12, [0]) := rfl
theorem gl_82 : gL 82 = (1, 12, [0]) := rfl
theorem gl_83 : gL 83 = (1, 12, [0]) := rfl
theorem gl_84 : gL 84 = (2, 12, [1]) := rfl
theorem gl_85 : gL 85 = (0, 1, [89, 97, 98, 99, 0, 0, 0, 1, 0]) := rfl
theorem gl_86 : gL 86 = (3, 7, 5 :: [87, 88, 89, 90, 91, 92, 93]) := rfl
theorem gl_87 : gL 87 = (1, 12, [0]) := rfl
theorem gl_88 : gL 88 = (1, 12, [0]) := rfl
theorem gl_89 : gL 89 = (1, 12, [0]) := rfl
theorem gl_90 : gL 90 = (1, 12, [0]) := rfl
theorem gl_91 : gL 91 = (1, 12, [0]) := rfl
theorem gl_92 : gL 92 = (1, 12, [0]) := rfl
theorem gl_93 : gL 93 = (1, 12, [0]) := rfl
theorem gl_94 : gL 94 = (1, 12, [0]) := rfl
theorem gl_95 : gL 95 = (1, 12, [0]) := rfl
theorem gl_96 : gL 96 = (2, 12, [1]) := rfl
theorem gl_97 : gL 97 = (0, 11, [0, 101, 102, 103, 0, 104, 1, 0, 105, 106, 0, 107, 108, 109, 110, 0, 111, 0, 0, 2, 0, 0, 0, 0, 112, 113, 0, 114, 1, 0, 0, 115, 116, 0, 117, 118, 119, 0, 120, 121, 0, 0, 122, 0, 0, 0, 0, 1, 123, 0, 0, 124, 125, 126, 127]) := rfl
theorem gl_98 : gL 98 = (1, 12, [0]) := rfl
theorem gl_99 : gL 99 = (1, 12, [0]) := rfl
theorem gl_100 : gL 100 = (1, 12, [0]) := rfl
theorem gl_101 : gL 101 = (1, 84, [0]) := rfl
theorem gl_102 : gL 102 = (1, 12, [0]) := rfl
theorem gl_103 : gL 103 = (2, 12, [1]) := rfl
theorem gl_104 : gL 104 = (1, 6, [0]) := rfl
theorem gl_105 : gL 105 = (1, 6, [0]) := rfl
theorem gl_106 : gL 106 = (1, 6, [0]) := rfl
theorem gl_107 : gL 107 = (1, 80, [3]) := rfl
theorem gl_108 : gL 108 = (2, 16, [1]) := rfl
theorem gl_109 : gL 109 = (1, 100, [0]) := rfl
theorem gl_110 : gL 110 = (1, 5052, [0]) := rfl
theorem gl_111 : gL 111 = (1, 12, [0]) := rfl
theorem gl_112 : gL 112 = (1, 12, [0]) := rfl
theorem gl_113 : gL 113 = (1, 4320, [0]) := rfl
theorem gl_114 : gL 114 = (1, 6, [0]) := rfl
theorem gl_115 : gL 115 = (1, 12, [0]) := rfl
theorem gl_116 : gL 116 = (1, 12, [0]) := rfl
theorem gl_117 : gL 117 = (1, 12, [0]) := rfl
theorem gl_118 : gL 118 = (1, 12, [0]) := rfl
theorem gl_119 : gL 119 = (1, 40, [3]) := rfl
theorem gl_120 : gL 120 = (1, 720, [0]) := rfl
theorem gl_121 : gL 121 = (1, 220, [0]) := rfl
theorem gl_122 : gL 122 = (2, 26, [1]) := rfl
theorem gl_123 : gL 123 = (1, 2, [4]) := rfl
theorem gl_124 : gL 124 = (1, 2, [0]) := rfl
theorem gl_125 : gL 125 = (2, 1, [1]) := rfl
theorem gr_6 : ∀ j, j < 7 → ([7, 8, 9, 10, 11, 12, 13] : List Nat)[j]? = some (7 + j) ∧ gL (7 + j) = (1, 12, [0]) ∧ 7 + j < NN := by decide +kernel
theorem gr_21 : ∀ j, j < 10 → ([22, 23, 24, 25, 26, 27, 28, 29, 30, 31] : List Nat)[j]? = some (22 + j) ∧ gL (22 + j) = (1, 10, [0]) ∧ 22 + j < NN := by decide +kernel
theorem gr_48 : ∀ j, j < 6 → ([49, 50, 51, 52, 53, 54] : List Nat)[j]? = some (49 + j) ∧ gL (49 + j) = (2, 6, [1]) ∧ 49 + j < NN := by decide +kernel
theorem gr_56 : ∀ j, j < 12 → ([57, 58, 59, 60, 61, 62, 63, 64, 65, 66, 67, 68] : List Nat)[j]? = some (57 + j) ∧ gL (57 + j) = (1, 100, [0]) ∧ 57 + j < NN := by decide +kernel
theorem gr_74 : ∀ j, j < 7 → ([75, 76, 77, 78, 79, 80, 81] : List Nat)[j]? = some (75 + j) ∧ gL (75 + j) = (1, 12, [0]) ∧ 75 + j < NN := by decide +kernel
theorem gr_86 : ∀ j, j < 7 → ([87, 88, 89, 90, 91, 92, 93] : List Nat)[j]? = some (87 + j) ∧ gL (87 + j) = (1, 12, [0]) ∧ 87 + j < NN := by decide +kernel
def gNw : eN := [("StreetsStepOn$TownReader", 9, "StreetsStepOn$Text", "size", "I", "StreetsStepOn"),
  ("StreetsStepOn$Rule", 22, "StreetsStepOn$Text", "size", "I", "StreetsStepOn"),
  ("StreetsStepOn", 354, "StreetsStepOn$Text", "size", "I", "StreetsStepOn"),
  ("StreetsStepOn", 355, "StreetsStepOn$Row", "numbers", "[J", "StreetsStepOn"),
  ("StreetsStepOn", 353, "StreetsStepOn$Row", "size", "I", "StreetsStepOn"),
  ("StreetsStepOn$Council", 46, "StreetsStepOn$Book", "nexts", "[[I", "StreetsStepOn"),
  ("StreetsStepOn$TownReader", 65, "StreetsStepOn$Book", "nexts", "[[I", "StreetsStepOn"),
  ("StreetsStepOn", 131, "StreetsStepOn$Book", "nexts", "[[I", "StreetsStepOn"),
  ("StreetsStepOn$Almanac", 56, "StreetsStepOn$Book", "nexts", "[[I", "StreetsStepOn"),
  ("StreetsStepOn$TownReader", 62, "StreetsStepOn$Book", "lengths", "[I", "StreetsStepOn"),
  ("StreetsStepOn$Roads", 32, "StreetsStepOn$Book", "lengths", "[I", "StreetsStepOn"),
  ("StreetsStepOn", 117, "StreetsStepOn$Book", "lengths", "[I", "StreetsStepOn"),
  ("StreetsStepOn", 194, "StreetsStepOn$Book", "letterNames", "[I", "StreetsStepOn"),
  ("StreetsStepOn", 197, "StreetsStepOn$Book", "letterDays", "[J", "StreetsStepOn"),
  ("StreetsStepOn$TownReader", 26, "StreetsStepOn$Book", "streets", "I", "StreetsStepOn"),
  ("StreetsStepOn$Council", 65, "StreetsStepOn$Book", "streets", "I", "StreetsStepOn"),
  ("StreetsStepOn$Roads", 26, "StreetsStepOn$Book", "streets", "I", "StreetsStepOn"),
  ("StreetsStepOn$Almanac", 46, "StreetsStepOn$Book", "streets", "I", "StreetsStepOn"),
  ("StreetsStepOn", 135, "StreetsStepOn$Book", "streets", "I", "StreetsStepOn"),
  ("StreetsStepOn$TownReader", 32, "StreetsStepOn$Book", "orders", "I", "StreetsStepOn"),
  ("StreetsStepOn$Council", 41, "StreetsStepOn$Book", "orders", "I", "StreetsStepOn"),
  ("StreetsStepOn$Almanac", 37, "StreetsStepOn$Book", "orders", "I", "StreetsStepOn"),
  ("StreetsStepOn", 218, "StreetsStepOn$Book", "orders", "I", "StreetsStepOn"),
  ("StreetsStepOn", 191, "StreetsStepOn$Book", "letters", "I", "StreetsStepOn"),
  ("StreetsStepOn", 120, "StreetsStepOn$Book", "today", "J", "StreetsStepOn"),
  ("StreetsStepOn", 349, "StreetsStepOn$Book", "written", "Z", "StreetsStepOn"),
  ("StreetsStepOn$TownReader", 53, "StreetsStepOn$Roads", "firsts", "[I", "StreetsStepOn"),
  ("StreetsStepOn$TownReader", 59, "StreetsStepOn$Roads", "others", "[I", "StreetsStepOn"),
  ("StreetsStepOn", 175, "StreetsStepOn$Almanac", "turn", "I", "StreetsStepOn"),
  ("StreetsStepOn", 178, "StreetsStepOn$Almanac", "firstOwn", "I", "StreetsStepOn"),
  ("StreetsStepOn", 386, "StreetsStepOn$Rule", "values", "[I", "StreetsStepOn"),
  ("StreetsStepOn", 312, "StreetsStepOn$Council", "size", "I", "StreetsStepOn"),
  ("StreetsStepOn", 328, "StreetsStepOn$Council", "found", "[I", "StreetsStepOn"),
  ("StreetsStepOn", 331, "StreetsStepOn$Council", "foundSize", "I", "StreetsStepOn"),
  ("StreetsStepOn", 232, "StreetsStepOn$Inquiry", "firstAsked", "I", "StreetsStepOn"),
  ("StreetsStepOn", 288, "StreetsStepOn$Tour", "houses", "[[I", "StreetsStepOn"),
  ("StreetsStepOn", 380, "StreetsStepOn$Tour", "bestStops", "[I", "StreetsStepOn"),
  ("StreetsStepOn", 377, "StreetsStepOn$Tour", "bestSize", "I", "StreetsStepOn")]
abbrev gK (D : va_G) (ρ : Nat → Nat) (κ : Nat → ClassId) (base : Nat) (s : State) : Prop := eK NN vwCl (gT κ) D ρ base gNw s
abbrev gG (D : va_G) (ρ : Nat → Nat) (κ : Nat → ClassId) (base : Nat) (s : State) (σ : eS) (H : Heap) (locs : List Loc) : Prop := eG gL NN vwCl D ρ κ base s σ H locs
abbrev gMi (l : Launch) (y : MethodName) (ws : List Cond) (rm : Room) (D : va_G) (ρ : Nat → Nat) (κ : Nat → ClassId) (base : Nat) (av : List Value) (σ : eS) (post : Int32 → eS → Prop) : Prop := eMi l y ws rm gL NN vwCl (gT κ) D ρ κ base gNw av σ post
abbrev gQi (below : List Frame) (args : Array Value) (s : State) (D : va_G) (ρ : Nat → Nat) (κ : Nat → ClassId) (base : Nat) (post : Int32 → eS → Prop) : State → Prop := MQ below (va_Qi post (e_Bw gL NN vwCl D ρ κ) (eA base)) args s 0 0 (eA base)
abbrev gMl (l : Launch) (y : MethodName) (ws : List Cond) (rm : Room) (D : va_G) (ρ : Nat → Nat) (κ : Nat → ClassId) (base : Nat) (av : List Value) (σ : eS) (post : Int64 → eS → Prop) : Prop := eMl l y ws rm gL NN vwCl (gT κ) D ρ κ base gNw av σ post
abbrev gQl (below : List Frame) (args : Array Value) (s : State) (D : va_G) (ρ : Nat → Nat) (κ : Nat → ClassId) (base : Nat) (post : Int64 → eS → Prop) : State → Prop := MQ below (va_Ql post (e_Bw gL NN vwCl D ρ κ) (eA base)) args s 0 0 (eA base)
abbrev gMv (l : Launch) (y : MethodName) (ws : List Cond) (rm : Room) (D : va_G) (ρ : Nat → Nat) (κ : Nat → ClassId) (base : Nat) (av : List Value) (σ : eS) (post : eS → Prop) : Prop := eMv l y ws rm gL NN vwCl (gT κ) D ρ κ base gNw av σ post
abbrev gQv (below : List Frame) (args : Array Value) (s : State) (D : va_G) (ρ : Nat → Nat) (κ : Nat → ClassId) (base : Nat) (post : eS → Prop) : State → Prop := MQ below (va_Qv post (e_Bw gL NN vwCl D ρ κ) (eA base)) args s 0 0 (eA base)
theorem e_lt {i : Int32} {n : Nat} (h : vp_in i n) : i.toNatClampNeg < n := Nat.not_le.mp fun q => h (Or.inr q)
theorem e_ne {x v : Int32} (h : ¬ x = v) : x.toInt ≠ v.toInt := fun q => h (Int32.toInt_inj.mp q)
def mLs : List (Nat × Nat × List Nat) := [(0, 10, [2, 2, 2, 2, 2, 2, 2, 2, 2, 2, 2, 2, 2]),
  (0, 7, [2, 0]),
  (1, 80, [2]),
  (0, 5, [2, 0]),
  (2, 12, [1]),
  (0, 1, [2, 2, 2, 2, 0, 0, 0, 1, 0]),
  (3, 7, 5 :: [7, 8, 9, 10, 11, 12, 13]),
  (1, 12, [0]),
  (1, 12, [0]),
  (1, 12, [0]),
  (1, 12, [0]),
  (1, 12, [0]),
  (1, 12, [0]),
  (1, 12, [0]),
  (1, 12, [0]),
  (1, 12, [0]),
  (2, 12, [1]),
  (4, 2, [7]),
  (0, 4, [2, 2, 2]),
  (1, 12, [0]),
  (1, 12, [0]),
  (3, 10, 5 :: [22, 23, 24, 25, 26, 27, 28, 29, 30, 31]),
  (1, 10, [0]),
  (1, 10, [0]),
  (1, 10, [0]),
  (1, 10, [0]),
  (1, 10, [0]),
  (1, 10, [0]),
  (1, 10, [0]),
  (1, 10, [0]),
  (1, 10, [0]),
  (1, 10, [0]),
  (0, 0, [2, 2, 0, 0]),
  (2, 420, [1]),
  (2, 420, [1]),
  (0, 9, [0, 0, 0]),
  (0, 6, [2, 2, 2, 2, 0, 0, 0]),
  (1, 6, [0]),
  (1, 40, [0]),
  (1, 40, [0]),
  (1, 40, [0]),
  (0, 2, [2, 2, 2, 0, 2, 0, 2, 0]),
  (1, 6, [0]),
  (1, 6, [0]),
  (1, 6, [0]),
  (1, 6, [0]),
  (1, 6, [0]),
  (0, 3, [2, 0, 0, 1, 0]),
  (3, 6, 6 :: [49, 50, 51, 52, 53, 54]),
  (2, 6, [1]),
  (2, 6, [1]),
  (2, 6, [1]),
  (2, 6, [1]),
  (2, 6, [1]),
  (2, 6, [1]),
  (0, 8, [2, 2, 2, 0, 0, 0, 0]),
  (3, 12, 5 :: [57, 58, 59, 60, 61, 62, 63, 64, 65, 66, 67, 68]),
  (1, 100, [0]),
  (1, 100, [0]),
  (1, 100, [0]),
  (1, 100, [0]),
  (1, 100, [0]),
  (1, 100, [0]),
  (1, 100, [0]),
  (1, 100, [0]),
  (1, 100, [0]),
  (1, 100, [0]),
  (1, 100, [0]),
  (1, 100, [0]),
  (1, 7, [0]),
  (1, 7, [0]),
  (1, 12, [0]),
  (1, 129, [0]),
  (0, 1, [2, 2, 2, 2, 0, 0, 0, 1, 0]),
  (3, 7, 5 :: [75, 76, 77, 78, 79, 80, 81]),
  (1, 12, [0]),
  (1, 12, [0]),
  (1, 12, [0]),
  (1, 12, [0]),
  (1, 12, [0]),
  (1, 12, [0]),
  (1, 12, [0]),
  (1, 12, [0]),
  (1, 12, [0]),
  (2, 12, [1]),
  (0, 1, [2, 2, 2, 2, 0, 0, 0, 1, 0]),
  (3, 7, 5 :: [87, 88, 89, 90, 91, 92, 93]),
  (1, 12, [0]),
  (1, 12, [0]),
  (1, 12, [0]),
  (1, 12, [0]),
  (1, 12, [0]),
  (1, 12, [0]),
  (1, 12, [0]),
  (1, 12, [0]),
  (1, 12, [0]),
  (2, 12, [1]),
  (0, 11, [0, 2, 2, 2, 0, 2, 1, 0, 2, 2, 0, 2, 2, 2, 2, 0, 2, 0, 0, 2, 0, 0, 0, 0, 2, 2, 0, 2, 1, 0, 0, 2, 2, 0, 2, 2, 2, 0, 2, 2, 0, 0, 2, 0, 0, 0, 0, 1, 2, 0, 0, 2, 2, 2, 2]),
  (1, 12, [0]),
  (1, 12, [0]),
  (1, 12, [0]),
  (1, 84, [0]),
  (1, 12, [0]),
  (2, 12, [1]),
  (1, 6, [0]),
  (1, 6, [0]),
  (1, 6, [0]),
  (1, 80, [3]),
  (2, 16, [1]),
  (1, 100, [0]),
  (1, 5052, [0]),
  (1, 12, [0]),
  (1, 12, [0]),
  (1, 4320, [0]),
  (1, 6, [0]),
  (1, 12, [0]),
  (1, 12, [0]),
  (1, 12, [0]),
  (1, 12, [0]),
  (1, 40, [3]),
  (1, 720, [0]),
  (1, 220, [0]),
  (2, 26, [1]),
  (1, 2, [4]),
  (1, 2, [0]),
  (2, 1, [1])]
def mL : eL := fun k => mLs.getD k (9, 0, [])
theorem ml_0 : mL 0 = (0, 10, [2, 2, 2, 2, 2, 2, 2, 2, 2, 2, 2, 2, 2]) := rfl
theorem ml_1 : mL 1 = (0, 7, [2, 0]) := rfl
theorem ml_2 : mL 2 = (1, 80, [2]) := rfl
theorem ml_3 : mL 3 = (0, 5, [2, 0]) := rfl
theorem ml_4 : mL 4 = (2, 12, [1]) := rfl
theorem ml_5 : mL 5 = (0, 1, [2, 2, 2, 2, 0, 0, 0, 1, 0]) := rfl
theorem ml_6 : mL 6 = (3, 7, 5 :: [7, 8, 9, 10, 11, 12, 13]) := rfl
theorem ml_7 : mL 7 = (1, 12, [0]) := rfl
theorem ml_8 : mL 8 = (1, 12, [0]) := rfl
theorem ml_9 : mL 9 = (1, 12, [0]) := rfl
theorem ml_10 : mL 10 = (1, 12, [0]) := rfl
theorem ml_11 : mL 11 = (1, 12, [0]) := rfl
theorem ml_12 : mL 12 = (1, 12, [0]) := rfl
theorem ml_13 : mL 13 = (1, 12, [0]) := rfl
theorem ml_14 : mL 14 = (1, 12, [0]) := rfl
theorem ml_15 : mL 15 = (1, 12, [0]) := rfl
theorem ml_16 : mL 16 = (2, 12, [1]) := rfl
theorem ml_17 : mL 17 = (4, 2, [7]) := rfl
theorem ml_18 : mL 18 = (0, 4, [2, 2, 2]) := rfl
theorem ml_19 : mL 19 = (1, 12, [0]) := rfl
theorem ml_20 : mL 20 = (1, 12, [0]) := rfl
theorem ml_21 : mL 21 = (3, 10, 5 :: [22, 23, 24, 25, 26, 27, 28, 29, 30, 31]) := rfl
theorem ml_22 : mL 22 = (1, 10, [0]) := rfl
theorem ml_23 : mL 23 = (1, 10, [0]) := rfl
theorem ml_24 : mL 24 = (1, 10, [0]) := rfl
theorem ml_25 : mL 25 = (1, 10, [0]) := rfl
theorem ml_26 : mL 26 = (1, 10, [0]) := rfl
theorem ml_27 : mL 27 = (1, 10, [0]) := rfl
theorem ml_28 : mL 28 = (1, 10, [0]) := rfl
theorem ml_29 : mL 29 = (1, 10, [0]) := rfl
theorem ml_30 : mL 30 = (1, 10, [0]) := rfl
theorem ml_31 : mL 31 = (1, 10, [0]) := rfl
theorem ml_32 : mL 32 = (0, 0, [2, 2, 0, 0]) := rfl
theorem ml_33 : mL 33 = (2, 420, [1]) := rfl
theorem ml_34 : mL 34 = (2, 420, [1]) := rfl
theorem ml_35 : mL 35 = (0, 9, [0, 0, 0]) := rfl
theorem ml_36 : mL 36 = (0, 6, [2, 2, 2, 2, 0, 0, 0]) := rfl
theorem ml_37 : mL 37 = (1, 6, [0]) := rfl
theorem ml_38 : mL 38 = (1, 40, [0]) := rfl
theorem ml_39 : mL 39 = (1, 40, [0]) := rfl
theorem ml_40 : mL 40 = (1, 40, [0]) := rfl
theorem ml_41 : mL 41 = (0, 2, [2, 2, 2, 0, 2, 0, 2, 0]) := rfl
theorem ml_42 : mL 42 = (1, 6, [0]) := rfl
theorem ml_43 : mL 43 = (1, 6, [0]) := rfl
theorem ml_44 : mL 44 = (1, 6, [0]) := rfl
theorem ml_45 : mL 45 = (1, 6, [0]) := rfl
theorem ml_46 : mL 46 = (1, 6, [0]) := rfl
theorem ml_47 : mL 47 = (0, 3, [2, 0, 0, 1, 0]) := rfl
theorem ml_48 : mL 48 = (3, 6, 6 :: [49, 50, 51, 52, 53, 54]) := rfl
theorem ml_49 : mL 49 = (2, 6, [1]) := rfl
theorem ml_50 : mL 50 = (2, 6, [1]) := rfl
theorem ml_51 : mL 51 = (2, 6, [1]) := rfl
theorem ml_52 : mL 52 = (2, 6, [1]) := rfl
theorem ml_53 : mL 53 = (2, 6, [1]) := rfl
theorem ml_54 : mL 54 = (2, 6, [1]) := rfl
theorem ml_55 : mL 55 = (0, 8, [2, 2, 2, 0, 0, 0, 0]) := rfl
theorem ml_56 : mL 56 = (3, 12, 5 :: [57, 58, 59, 60, 61, 62, 63, 64, 65, 66, 67, 68]) := rfl
theorem ml_57 : mL 57 = (1, 100, [0]) := rfl
theorem ml_58 : mL 58 = (1, 100, [0]) := rfl
theorem ml_59 : mL 59 = (1, 100, [0]) := rfl
theorem ml_60 : mL 60 = (1, 100, [0]) := rfl
theorem ml_61 : mL 61 = (1, 100, [0]) := rfl
theorem ml_62 : mL 62 = (1, 100, [0]) := rfl
theorem ml_63 : mL 63 = (1, 100, [0]) := rfl
theorem ml_64 : mL 64 = (1, 100, [0]) := rfl
theorem ml_65 : mL 65 = (1, 100, [0]) := rfl
theorem ml_66 : mL 66 = (1, 100, [0]) := rfl
theorem ml_67 : mL 67 = (1, 100, [0]) := rfl
theorem ml_68 : mL 68 = (1, 100, [0]) := rfl
theorem ml_69 : mL 69 = (1, 7, [0]) := rfl
theorem ml_70 : mL 70 = (1, 7, [0]) := rfl
theorem ml_71 : mL 71 = (1, 12, [0]) := rfl
theorem ml_72 : mL 72 = (1, 129, [0]) := rfl
theorem ml_73 : mL 73 = (0, 1, [2, 2, 2, 2, 0, 0, 0, 1, 0]) := rfl
theorem ml_74 : mL 74 = (3, 7, 5 :: [75, 76, 77, 78, 79, 80, 81]) := rfl
theorem ml_75 : mL 75 = (1, 12, [0]) := rfl
theorem ml_76 : mL 76 = (1, 12, [0]) := rfl
theorem ml_77 : mL 77 = (1, 12, [0]) := rfl
theorem ml_78 : mL 78 = (1, 12, [0]) := rfl
theorem ml_79 : mL 79 = (1, 12, [0]) := rfl
theorem ml_80 : mL 80 = (1, 12, [0]) := rfl
theorem ml_81 : mL 81 = (1, 12, [0]) := rfl
theorem ml_82 : mL 82 = (1, 12, [0]) := rfl
theorem ml_83 : mL 83 = (1, 12, [0]) := rfl
theorem ml_84 : mL 84 = (2, 12, [1]) := rfl
theorem ml_85 : mL 85 = (0, 1, [2, 2, 2, 2, 0, 0, 0, 1, 0]) := rfl
theorem ml_86 : mL 86 = (3, 7, 5 :: [87, 88, 89, 90, 91, 92, 93]) := rfl
theorem ml_87 : mL 87 = (1, 12, [0]) := rfl
theorem ml_88 : mL 88 = (1, 12, [0]) := rfl
theorem ml_89 : mL 89 = (1, 12, [0]) := rfl
theorem ml_90 : mL 90 = (1, 12, [0]) := rfl
theorem ml_91 : mL 91 = (1, 12, [0]) := rfl
theorem ml_92 : mL 92 = (1, 12, [0]) := rfl
theorem ml_93 : mL 93 = (1, 12, [0]) := rfl
theorem ml_94 : mL 94 = (1, 12, [0]) := rfl
theorem ml_95 : mL 95 = (1, 12, [0]) := rfl
theorem ml_96 : mL 96 = (2, 12, [1]) := rfl
theorem ml_97 : mL 97 = (0, 11, [0, 2, 2, 2, 0, 2, 1, 0, 2, 2, 0, 2, 2, 2, 2, 0, 2, 0, 0, 2, 0, 0, 0, 0, 2, 2, 0, 2, 1, 0, 0, 2, 2, 0, 2, 2, 2, 0, 2, 2, 0, 0, 2, 0, 0, 0, 0, 1, 2, 0, 0, 2, 2, 2, 2]) := rfl
theorem ml_98 : mL 98 = (1, 12, [0]) := rfl
theorem ml_99 : mL 99 = (1, 12, [0]) := rfl
theorem ml_100 : mL 100 = (1, 12, [0]) := rfl
theorem ml_101 : mL 101 = (1, 84, [0]) := rfl
theorem ml_102 : mL 102 = (1, 12, [0]) := rfl
theorem ml_103 : mL 103 = (2, 12, [1]) := rfl
theorem ml_104 : mL 104 = (1, 6, [0]) := rfl
theorem ml_105 : mL 105 = (1, 6, [0]) := rfl
theorem ml_106 : mL 106 = (1, 6, [0]) := rfl
theorem ml_107 : mL 107 = (1, 80, [3]) := rfl
theorem ml_108 : mL 108 = (2, 16, [1]) := rfl
theorem ml_109 : mL 109 = (1, 100, [0]) := rfl
theorem ml_110 : mL 110 = (1, 5052, [0]) := rfl
theorem ml_111 : mL 111 = (1, 12, [0]) := rfl
theorem ml_112 : mL 112 = (1, 12, [0]) := rfl
theorem ml_113 : mL 113 = (1, 4320, [0]) := rfl
theorem ml_114 : mL 114 = (1, 6, [0]) := rfl
theorem ml_115 : mL 115 = (1, 12, [0]) := rfl
theorem ml_116 : mL 116 = (1, 12, [0]) := rfl
theorem ml_117 : mL 117 = (1, 12, [0]) := rfl
theorem ml_118 : mL 118 = (1, 12, [0]) := rfl
theorem ml_119 : mL 119 = (1, 40, [3]) := rfl
theorem ml_120 : mL 120 = (1, 720, [0]) := rfl
theorem ml_121 : mL 121 = (1, 220, [0]) := rfl
theorem ml_122 : mL 122 = (2, 26, [1]) := rfl
theorem ml_123 : mL 123 = (1, 2, [4]) := rfl
theorem ml_124 : mL 124 = (1, 2, [0]) := rfl
theorem ml_125 : mL 125 = (2, 1, [1]) := rfl
theorem mr_6 : ∀ j, j < 7 → ([7, 8, 9, 10, 11, 12, 13] : List Nat)[j]? = some (7 + j) ∧ mL (7 + j) = (1, 12, [0]) ∧ 7 + j < 14 := by decide +kernel
theorem mr_21 : ∀ j, j < 10 → ([22, 23, 24, 25, 26, 27, 28, 29, 30, 31] : List Nat)[j]? = some (22 + j) ∧ mL (22 + j) = (1, 10, [0]) ∧ 22 + j < 32 := by decide +kernel
theorem mr_48 : ∀ j, j < 6 → ([49, 50, 51, 52, 53, 54] : List Nat)[j]? = some (49 + j) ∧ mL (49 + j) = (2, 6, [1]) ∧ 49 + j < 55 := by decide +kernel
theorem mr_56 : ∀ j, j < 12 → ([57, 58, 59, 60, 61, 62, 63, 64, 65, 66, 67, 68] : List Nat)[j]? = some (57 + j) ∧ mL (57 + j) = (1, 100, [0]) ∧ 57 + j < 69 := by decide +kernel
theorem mr_74 : ∀ j, j < 7 → ([75, 76, 77, 78, 79, 80, 81] : List Nat)[j]? = some (75 + j) ∧ mL (75 + j) = (1, 12, [0]) ∧ 75 + j < 82 := by decide +kernel
theorem mr_86 : ∀ j, j < 7 → ([87, 88, 89, 90, 91, 92, 93] : List Nat)[j]? = some (87 + j) ∧ mL (87 + j) = (1, 12, [0]) ∧ 87 + j < 94 := by decide +kernel
def gMw : eMW := [("StreetsStepOn", 9, ⟨"StreetsStepOn$Text", "<init>", "()V"⟩, "StreetsStepOn"),
  ("StreetsStepOn", 18, ⟨"StreetsStepOn$Row", "<init>", "()V"⟩, "StreetsStepOn"),
  ("StreetsStepOn", 25, ⟨"StreetsStepOn$Book", "<init>", "()V"⟩, "StreetsStepOn"),
  ("StreetsStepOn", 43, ⟨"StreetsStepOn$Almanac", "<init>", "()V"⟩, "StreetsStepOn"),
  ("StreetsStepOn", 50, ⟨"StreetsStepOn$TownReader", "<init>", "()V"⟩, "StreetsStepOn"),
  ("StreetsStepOn", 57, ⟨"StreetsStepOn$Rule", "<init>", "()V"⟩, "StreetsStepOn"),
  ("StreetsStepOn", 64, ⟨"StreetsStepOn$Council", "<init>", "()V"⟩, "StreetsStepOn"),
  ("StreetsStepOn", 71, ⟨"StreetsStepOn$Inquiry", "<init>", "()V"⟩, "StreetsStepOn"),
  ("StreetsStepOn", 78, ⟨"StreetsStepOn$Tour", "<init>", "()V"⟩, "StreetsStepOn")]
def e_nthm : eMW → Nat → Option (String × Nat × MethodName × String)
  | [], _ => none
  | a :: _, 0 => some a
  | _ :: r, n + 1 => e_nthm r n
theorem e_memm : ∀ {l : eMW} {n : Nat} {w : String × Nat × MethodName × String}, e_nthm l n = some w → w ∈ l
  | [], _, _, h => by cases h
  | a :: r, 0, w, h => by
    cases h
    exact List.mem_cons_self
  | a :: r, n + 1, w, h => List.mem_cons_of_mem _ (e_memm (l := r) (n := n) h)
