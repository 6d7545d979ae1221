/-! The abstract machine: places for addresses; M the ints, N the longs, P the references of every place's slots. -/
abbrev Yt : Type := MethodName × ByteArray × Nat × Option FieldType × Nat
abbrev Mt : Type := Nat → Nat → Int32
abbrev Nt : Type := Nat → Nat → Int64
abbrev Pt' : Type := Nat → Nat → Nat
abbrev Qt : Type := Option Value → Mt → Nt → Pt' → Prop
def GW : List Cond := lw_tbl.filter goodWord
def inT (w : Cond) : Prop := w ∈ GW
def sh0 : List (Nat × Nat) := [(11, 0), (5, 0), (6, 0), (1, 0), (3, 0), (10, 0), (0, 0), (8, 0), (9, 0), (4, 0), (7, 0), (2, 0), (2, 0), (100, 100), (100, 24), (100, 24), (100, 24), (100, 24), (102, 24), (104, 24), (100, 8), (100, 8), (100, 60), (100, 60), (100, 60), (100, 60), (100, 60), (100, 60), (100, 60), (100, 60), (100, 60), (100, 30), (100, 9), (101, 600), (101, 601), (103, 601), (100, 601), (100, 64), (100, 8), (100, 256), (100, 600), (100, 16), (100, 16), (100, 16), (100, 32), (100, 600), (100, 16), (100, 16), (100, 16), (100, 32), (12, 0), (100, 24), (100, 24), (100, 24), (100, 8), (100, 8), (100, 100), (100, 60), (100, 60), (100, 60), (100, 60), (100, 60), (100, 60), (100, 60), (100, 60), (100, 60), (102, 60), (101, 620), (101, 600), (100, 2), (100, 32), (100, 32), (100, 32), (100, 32), (100, 1200), (100, 1200), (100, 60), (100, 100), (100, 9), (100, 30), (104, 24), (104, 24), (102, 24), (100, 64), (100, 2304)]
def shk (o : Nat) : Nat × Nat := sh0.getD o (999, 0)
def kt0 : List (List Nat) := [[1, 1, 0], [1, 1, 0], [1, 1, 1, 1, 1, 0, 0], [1, 1, 1, 1, 1, 1, 1, 1, 1, 0], [1, 1, 0, 0, 0, 0, 0, 0], [1, 1, 1, 0], [1, 1, 1, 1, 2], [1, 1, 1, 0, 0, 0], [1, 0], [1, 1, 1, 0], [1, 1, 0, 0, 0, 0], [1, 1, 1, 1, 1, 1, 1, 1, 1, 1, 1, 1, 0], [1, 1, 1, 1, 1, 1, 0, 0, 0, 1, 1, 1, 1, 1, 1, 1, 1, 1, 1, 0, 0, 1, 1, 0, 0, 0, 0, 0, 0, 0, 0, 2, 1, 1, 1, 1, 1, 1, 1, 0, 0, 0, 0, 1, 0, 0, 1, 1, 1, 0, 1, 1, 1, 1, 1, 0]]
def clsN (k : Nat) : String := match k with
  | 0 => RX0
  | 1 => RX1
  | 2 => RX2
  | 3 => RX3
  | 4 => RX4
  | 5 => RX5
  | 6 => RX6
  | 7 => RX7
  | 8 => RX8
  | 9 => RX9
  | 10 => RX10
  | 11 => RX11
  | 12 => RX12
  | 13 => RJ6
  | 14 => RJ9
  | 15 => RJ0
  | _ => ""
def mX0_has : Yt := (yX0_has, cX0_has, 2, (some .boolean), 0)
def mX0_add : Yt := (yX0_add, cX0_add, 2, (some .int), 0)
def mX0_isClaimed : Yt := (yX0_isClaimed, cX0_isClaimed, 3, (some .boolean), 0)
def mX1_has : Yt := (yX1_has, cX1_has, 2, (some .boolean), 1)
def mX1_add : Yt := (yX1_add, cX1_add, 3, (some .int), 1)
def mX2_clear : Yt := (yX2_clear, cX2_clear, 1, none, 2)
def mX2_write : Yt := (yX2_write, cX2_write, 3, none, 2)
def mX2_closeLine : Yt := (yX2_closeLine, cX2_closeLine, 3, none, 2)
def mX2_firstLineThatHolds : Yt := (yX2_firstLineThatHolds, cX2_firstLineThatHolds, 4, (some .int), 2)
def mX2_valueOf : Yt := (yX2_valueOf, cX2_valueOf, 8, (some .int), 2)
def mX2_join : Yt := (yX2_join, cX2_join, 3, (some .int), 2)
def mX3_has : Yt := (yX3_has, cX3_has, 2, (some .boolean), 3)
def mX3_add : Yt := (yX3_add, cX3_add, 6, (some .int), 3)
def mX3_putInOrder : Yt := (yX3_putInOrder, cX3_putInOrder, 4, none, 3)
def mX3_describe : Yt := (yX3_describe, cX3_describe, 5, none, 3)
def mX3_revoke : Yt := (yX3_revoke, cX3_revoke, 3, (some .boolean), 3)
def mX3_countsOn : Yt := (yX3_countsOn, cX3_countsOn, 3, (some .boolean), 3)
def mX4_parse : Yt := (yX4_parse, cX4_parse, 2, (some .boolean), 4)
def mX4_moveTo : Yt := (yX4_moveTo, cX4_moveTo, 3, none, 4)
def mX4_take : Yt := (yX4_take, cX4_take, 2, (some .boolean), 4)
def mX4_refuse : Yt := (yX4_refuse, cX4_refuse, 1, (some .boolean), 4)
def mX4_parseLine : Yt := (yX4_parseLine, cX4_parseLine, 1, (some .boolean), 4)
def mX4_parseRuling : Yt := (yX4_parseRuling, cX4_parseRuling, 2, (some .boolean), 4)
def mX4_parseEither : Yt := (yX4_parseEither, cX4_parseEither, 3, (some .boolean), 4)
def mX4_parseBoth : Yt := (yX4_parseBoth, cX4_parseBoth, 3, (some .boolean), 4)
def mX4_parseOne : Yt := (yX4_parseOne, cX4_parseOne, 4, (some .boolean), 4)
def mX4_parseSum : Yt := (yX4_parseSum, cX4_parseSum, 5, (some .boolean), 4)
def mX5_has : Yt := (yX5_has, cX5_has, 2, (some .boolean), 5)
def mX5_add : Yt := (yX5_add, cX5_add, 3, (some .int), 5)
def mX5_canBeParent : Yt := (yX5_canBeParent, cX5_canBeParent, 2, (some .boolean), 5)
def mX5_tellDeath : Yt := (yX5_tellDeath, cX5_tellDeath, 3, (some .boolean), 5)
def mX5_isDeadOn : Yt := (yX5_isDeadOn, cX5_isDeadOn, 3, (some .boolean), 5)
def mX5_isChildOf : Yt := (yX5_isChildOf, cX5_isChildOf, 3, (some .boolean), 5)
def mX6_divide : Yt := (yX6_divide, cX6_divide, 4, none, 6)
def mX6_findHeirs : Yt := (yX6_findHeirs, cX6_findHeirs, 4, none, 6)
def mX6_isHeir : Yt := (yX6_isHeir, cX6_isHeir, 3, (some .boolean), 6)
def mX6_handOn : Yt := (yX6_handOn, cX6_handOn, 5, none, 6)
def mX6_numerator : Yt := (yX6_numerator, cX6_numerator, 4, (some .long), 6)
def mX6_denominator : Yt := (yX6_denominator, cX6_denominator, 4, (some .long), 6)
def mX6_commonDivisor : Yt := (yX6_commonDivisor, cX6_commonDivisor, 11, (some .long), 6)
def mX7_reachTo : Yt := (yX7_reachTo, cX7_reachTo, 2, none, 7)
def mX7_tell : Yt := (yX7_tell, cX7_tell, 4, (some .int), 7)
def mX7_settle : Yt := (yX7_settle, cX7_settle, 3, none, 7)
def mX7_greatestBehind : Yt := (yX7_greatestBehind, cX7_greatestBehind, 4, (some .int), 7)
def mX7_joyWith : Yt := (yX7_joyWith, cX7_joyWith, 6, (some .int), 7)
def mX7_choose : Yt := (yX7_choose, cX7_choose, 4, none, 7)
def mX8_hasRoomFor : Yt := (yX8_hasRoomFor, cX8_hasRoomFor, 2, (some .boolean), 8)
def mX8_put : Yt := (yX8_put, cX8_put, 2, none, 8)
def mX8_cut : Yt := (yX8_cut, cX8_cut, 2, (some .boolean), 8)
def mX9_scan : Yt := (yX9_scan, cX9_scan, 6, none, 9)
def mX9_scanToken : Yt := (yX9_scanToken, cX9_scanToken, 5, (some .int), 9)
def mX9_scanWord : Yt := (yX9_scanWord, cX9_scanWord, 8, (some .int), 9)
def mX9_scanNumber : Yt := (yX9_scanNumber, cX9_scanNumber, 7, (some .int), 9)
def mX9_rowOf : Yt := (yX9_rowOf, cX9_rowOf, 5, (some .int), 9)
def mX9_isWord : Yt := (yX9_isWord, cX9_isWord, 7, (some .boolean), 9)
def mX9_add : Yt := (yX9_add, cX9_add, 4, none, 9)
def mX9_isBlank : Yt := (yX9_isBlank, cX9_isBlank, 1, (some .boolean), 9)
def mX9_isLetter : Yt := (yX9_isLetter, cX9_isLetter, 1, (some .boolean), 9)
def mX9_isDigit : Yt := (yX9_isDigit, cX9_isDigit, 1, (some .boolean), 9)
def mX10_follow : Yt := (yX10_follow, cX10_follow, 8, none, 10)
def mX10_movesHouse : Yt := (yX10_movesHouse, cX10_movesHouse, 3, (some .boolean), 10)
def mX11_person : Yt := (yX11_person, cX11_person, 3, (some .int), 11)
def mX11_dead : Yt := (yX11_dead, cX11_dead, 3, (some .boolean), 11)
def mX11_house : Yt := (yX11_house, cX11_house, 4, (some .int), 11)
def mX11_level : Yt := (yX11_level, cX11_level, 3, (some .boolean), 11)
def mX11_money : Yt := (yX11_money, cX11_money, 4, (some .long), 11)
def mX11_paper : Yt := (yX11_paper, cX11_paper, 8, (some .int), 11)
def mX11_isFalse : Yt := (yX11_isFalse, cX11_isFalse, 2, (some .boolean), 11)
def mX11_later : Yt := (yX11_later, cX11_later, 2, (some .int), 11)
def mX11_holder : Yt := (yX11_holder, cX11_holder, 4, (some .int), 11)
def mX11_loose : Yt := (yX11_loose, cX11_loose, 3, (some .int), 11)
def mX11_feed : Yt := (yX11_feed, cX11_feed, 6, (some .int), 11)
def mX11_end : Yt := (yX11_end, cX11_end, 2, (some .int), 11)
def mX11_law : Yt := (yX11_law, cX11_law, 2, (some .int), 11)
def mX11_fault : Yt := (yX11_fault, cX11_fault, 2, (some .int), 11)
def mX11_claim : Yt := (yX11_claim, cX11_claim, 2, (some .int), 11)
def mX11_ruling : Yt := (yX11_ruling, cX11_ruling, 4, (some .int), 11)
def mX11_sum : Yt := (yX11_sum, cX11_sum, 4, (some .int), 11)
def mX11_term : Yt := (yX11_term, cX11_term, 4, (some .int), 11)
def mX11_share : Yt := (yX11_share, cX11_share, 5, (some .long), 11)
def mX11_want : Yt := (yX11_want, cX11_want, 4, (some .int), 11)
def mX11_joy : Yt := (yX11_joy, cX11_joy, 1, (some .int), 11)
def mX11_swap : Yt := (yX11_swap, cX11_swap, 2, (some .int), 11)
def mX11_about : Yt := (yX11_about, cX11_about, 2, (some .int), 11)
def mX11_isDay : Yt := (yX11_isDay, cX11_isDay, 1, (some .boolean), 11)
def mX11_isYear : Yt := (yX11_isYear, cX11_isYear, 1, (some .boolean), 11)
def mX11_isMoney : Yt := (yX11_isMoney, cX11_isMoney, 1, (some .boolean), 11)
def mX11_truth : Yt := (yX11_truth, cX11_truth, 1, (some .int), 11)
def mX11_convert : Yt := (yX11_convert, cX11_convert, 4, (some .long), 11)
def mX11_weigh : Yt := (yX11_weigh, cX11_weigh, 7, (some .boolean), 11)
def mX11_priceOfLastYear : Yt := (yX11_priceOfLastYear, cX11_priceOfLastYear, 3, (some .int), 11)
def mX12_isPerson : Yt := (yX12_isPerson, cX12_isPerson, 2, (some .boolean), 12)
def mX12_isHouse : Yt := (yX12_isHouse, cX12_isHouse, 2, (some .boolean), 12)
def mX12_isDay : Yt := (yX12_isDay, cX12_isDay, 1, (some .boolean), 12)
def mX12_isSum : Yt := (yX12_isSum, cX12_isSum, 1, (some .boolean), 12)
def mX12_person : Yt := (yX12_person, cX12_person, 3, (some .int), 12)
def mX12_dead : Yt := (yX12_dead, cX12_dead, 3, (some .boolean), 12)
def mX12_isDead : Yt := (yX12_isDead, cX12_isDead, 3, (some .boolean), 12)
def mX12_house : Yt := (yX12_house, cX12_house, 3, (some .int), 12)
def mX12_isYear : Yt := (yX12_isYear, cX12_isYear, 1, (some .boolean), 12)
def mX12_level : Yt := (yX12_level, cX12_level, 3, (some .boolean), 12)
def mX12_turned : Yt := (yX12_turned, cX12_turned, 4, (some .long), 12)
def mX12_money : Yt := (yX12_money, cX12_money, 4, (some .long), 12)
def mX12_paper : Yt := (yX12_paper, cX12_paper, 7, (some .int), 12)
def mX12_isPaper : Yt := (yX12_isPaper, cX12_isPaper, 2, (some .boolean), 12)
def mX12_isFalse : Yt := (yX12_isFalse, cX12_isFalse, 2, (some .boolean), 12)
def mX12_later : Yt := (yX12_later, cX12_later, 2, (some .int), 12)
def mX12_counts : Yt := (yX12_counts, cX12_counts, 3, (some .boolean), 12)
def mX12_follow : Yt := (yX12_follow, cX12_follow, 8, (some .int), 12)
def mX12_holder : Yt := (yX12_holder, cX12_holder, 4, (some .int), 12)
def mX12_loose : Yt := (yX12_loose, cX12_loose, 3, (some .int), 12)
def mX12_sign : Yt := (yX12_sign, cX12_sign, 2, (some .int), 12)
def mX12_isLetter : Yt := (yX12_isLetter, cX12_isLetter, 1, (some .boolean), 12)
def mX12_isDigit : Yt := (yX12_isDigit, cX12_isDigit, 1, (some .boolean), 12)
def mX12_fails : Yt := (yX12_fails, cX12_fails, 3, none, 12)
def mX12_isGood : Yt := (yX12_isGood, cX12_isGood, 1, (some .boolean), 12)
def mX12_next : Yt := (yX12_next, cX12_next, 3, none, 12)
def mX12_is : Yt := (yX12_is, cX12_is, 2, (some .boolean), 12)
def mX12_isWord : Yt := (yX12_isWord, cX12_isWord, 3, (some .boolean), 12)
def mX12_wrong : Yt := (yX12_wrong, cX12_wrong, 1, none, 12)
def mX12_must : Yt := (yX12_must, cX12_must, 2, none, 12)
def mX12_termHere : Yt := (yX12_termHere, cX12_termHere, 2, (some .int), 12)
def mX12_law : Yt := (yX12_law, cX12_law, 2, (some .int), 12)
def mX12_readLine : Yt := (yX12_readLine, cX12_readLine, 2, none, 12)
def mX12_step : Yt := (yX12_step, cX12_step, 3, none, 12)
def mX12_pile : Yt := (yX12_pile, cX12_pile, 2, none, 12)
def mX12_e : Yt := (yX12_e, cX12_e, 2, none, 12)
def mX12_one : Yt := (yX12_one, cX12_one, 2, (some .boolean), 12)
def mX12_readSum : Yt := (yX12_readSum, cX12_readSum, 2, none, 12)
def mX12_readTerm : Yt := (yX12_readTerm, cX12_readTerm, 2, none, 12)
def mX12_behind : Yt := (yX12_behind, cX12_behind, 2, (some .boolean), 12)
def mX12_fault : Yt := (yX12_fault, cX12_fault, 2, (some .int), 12)
def mX12_two : Yt := (yX12_two, cX12_two, 3, (some .int), 12)
def mX12_holds : Yt := (yX12_holds, cX12_holds, 5, (some .boolean), 12)
def mX12_claim : Yt := (yX12_claim, cX12_claim, 3, (some .int), 12)
def mX12_look : Yt := (yX12_look, cX12_look, 11, (some .boolean), 12)
def mX12_lineFor : Yt := (yX12_lineFor, cX12_lineFor, 2, (some .int), 12)
def mX12_ruling : Yt := (yX12_ruling, cX12_ruling, 4, (some .int), 12)
def mX12_sum : Yt := (yX12_sum, cX12_sum, 4, (some .int), 12)
def mX12_term : Yt := (yX12_term, cX12_term, 4, (some .int), 12)
def mX12_divisor : Yt := (yX12_divisor, cX12_divisor, 10, (some .long), 12)
def mX12_isChild : Yt := (yX12_isChild, cX12_isChild, 3, (some .boolean), 12)
def mX12_gets : Yt := (yX12_gets, cX12_gets, 12, none, 12)
def mX12_handDown : Yt := (yX12_handDown, cX12_handDown, 6, none, 12)
def mX12_share : Yt := (yX12_share, cX12_share, 5, (some .long), 12)
def mX12_want : Yt := (yX12_want, cX12_want, 4, (some .int), 12)
def mX12_mayGet : Yt := (yX12_mayGet, cX12_mayGet, 3, (some .boolean), 12)
def mX12_solve : Yt := (yX12_solve, cX12_solve, 6, (some .int), 12)
def mX12_joy : Yt := (yX12_joy, cX12_joy, 1, (some .int), 12)
def mX12_swap : Yt := (yX12_swap, cX12_swap, 6, (some .int), 12)
def mX12_about : Yt := (yX12_about, cX12_about, 2, (some .int), 12)
def mX12_feed : Yt := (yX12_feed, cX12_feed, 8, (some .int), 12)
def mX12_end : Yt := (yX12_end, cX12_end, 2, (some .int), 12)
def mJ6_bitCount_0f7a4 : Yt := (yJ6_bitCount_0f7a4, cJ6_bitCount_0f7a4, 1, (some .int), 13)
def mJ0_length_8abf5 : Yt := (yJ0_length_8abf5, cJ0_length_8abf5, 1, (some .int), 15)
def mJ0_charAt_5068e : Yt := (yJ0_charAt_5068e, cJ0_charAt_5068e, 2, (some .char), 15)
def mJ0_indexOf_0f7a4 : Yt := (yJ0_indexOf_0f7a4, cJ0_indexOf_0f7a4, 2, (some .int), 15)
def fT (k idx : Nat) : Option (Nat × Nat) := match k with
  | 0 => List.lookup idx [(11, (0, 0)), (18, (0, 2))]
  | 1 => List.lookup idx [(11, (1, 0)), (15, (1, 1)), (18, (1, 2))]
  | 2 => List.lookup idx [(11, (2, 0)), (17, (2, 1)), (20, (2, 2)), (23, (2, 3)), (26, (2, 4)), (29, (2, 5)), (33, (2, 6))]
  | 3 => List.lookup idx [(11, (3, 0)), (15, (3, 1)), (18, (3, 2)), (21, (3, 3)), (24, (3, 4)), (27, (3, 5)), (30, (3, 6)), (33, (3, 7)), (36, (3, 8)), (39, (3, 9))]
  | 4 => List.lookup idx [(12, (4, 1)), (18, (4, 2)), (22, (4, 3)), (25, (4, 4)), (30, (4, 5)), (33, (4, 6)), (36, (4, 7)), (39, (4, 0)), (57, (9, 3)), (60, (9, 0)), (64, (9, 2)), (68, (9, 1))]
  | 5 => List.lookup idx [(11, (5, 0)), (15, (5, 1)), (18, (5, 2)), (21, (5, 3))]
  | 6 => List.lookup idx [(9, (6, 1)), (15, (6, 2)), (19, (6, 3)), (23, (6, 4)), (27, (6, 0)), (35, (5, 3))]
  | 7 => List.lookup idx [(11, (7, 0)), (17, (7, 1)), (20, (7, 2)), (23, (7, 3)), (27, (7, 4)), (30, (7, 5))]
  | 8 => List.lookup idx [(9, (8, 0)), (13, (8, 1))]
  | 9 => List.lookup idx [(11, (9, 0)), (17, (9, 1)), (21, (9, 2)), (25, (9, 3))]
  | 10 => List.lookup idx [(9, (10, 2)), (15, (10, 3)), (19, (10, 4)), (22, (10, 5)), (25, (10, 0)), (29, (10, 1)), (39, (1, 0)), (43, (3, 9)), (48, (3, 8)), (51, (3, 0)), (53, (3, 3)), (60, (3, 2)), (66, (3, 1))]
  | 11 => List.lookup idx [(10, (11, 0)), (21, (11, 1)), (28, (11, 2)), (32, (11, 3)), (39, (11, 4)), (48, (11, 5)), (55, (11, 6)), (62, (11, 7)), (69, (11, 8)), (78, (11, 9)), (85, (11, 10)), (92, (11, 11)), (96, (11, 12)), (119, (1, 2)), (150, (10, 2)), (156, (3, 0)), (158, (10, 3)), (168, (8, 1)), (174, (8, 0)), (186, (4, 1)), (189, (2, 6)), (192, (4, 2)), (195, (4, 3)), (205, (0, 1)), (212, (2, 2)), (215, (2, 3)), (236, (7, 2)), (239, (7, 1)), (242, (5, 3)), (243, (3, 9)), (244, (0, 2)), (245, (7, 4)), (250, (0, 0)), (252, (3, 3)), (255, (3, 4)), (265, (1, 1)), (268, (10, 4)), (271, (10, 5)), (274, (3, 2)), (277, (3, 1)), (283, (3, 5))]
  | 12 => List.lookup idx [(7, (12, 0)), (13, (12, 1)), (16, (12, 2)), (19, (12, 3)), (22, (12, 4)), (25, (12, 5)), (28, (12, 9)), (31, (12, 10)), (34, (12, 11)), (37, (12, 12)), (40, (12, 13)), (43, (12, 14)), (46, (12, 15)), (49, (12, 16)), (52, (12, 17)), (55, (12, 18)), (59, (12, 21)), (63, (12, 22)), (66, (12, 26)), (70, (12, 32)), (73, (12, 33)), (76, (12, 34)), (79, (12, 35)), (82, (12, 36)), (85, (12, 37)), (88, (12, 38)), (91, (12, 43)), (94, (12, 46)), (97, (12, 47)), (100, (12, 48)), (103, (12, 50)), (107, (12, 51)), (110, (12, 52)), (113, (12, 53)), (116, (12, 54)), (119, (12, 6)), (122, (12, 7)), (149, (12, 8)), (152, (12, 19)), (158, (12, 20)), (169, (12, 24)), (172, (12, 25)), (175, (12, 28)), (178, (12, 27)), (185, (12, 29)), (191, (12, 31)), (198, (12, 30)), (233, (12, 23)), (236, (12, 39)), (239, (12, 40)), (242, (12, 41)), (245, (12, 42)), (277, (12, 44)), (280, (12, 45)), (315, (12, 49)), (353, (12, 55))]
  | _ => none
def vT (k idx : Nat) : Option Yt := match k with
  | 0 => List.lookup idx [(22, mX0_isClaimed)]
  | 2 => List.lookup idx [(36, mX2_valueOf)]
  | 3 => List.lookup idx [(43, mX3_putInOrder), (47, mX3_has)]
  | 4 => List.lookup idx [(43, mX2_clear), (46, mX4_moveTo), (50, mX4_parseLine), (54, mX4_refuse), (72, mX4_take), (76, mX4_parseEither), (79, mX4_parseRuling), (82, mX2_closeLine), (86, mX4_parseBoth), (89, mX2_write), (92, mX4_parseOne), (95, mX4_parseSum)]
  | 5 => List.lookup idx [(25, mX5_canBeParent), (29, mX5_has)]
  | 6 => List.lookup idx [(31, mX6_findHeirs), (39, mX5_isDeadOn), (43, mX6_handOn), (46, mX6_isHeir), (49, mX5_isChildOf)]
  | 7 => List.lookup idx [(34, mX7_greatestBehind), (38, mX7_choose), (41, mX7_joyWith)]
  | 8 => List.lookup idx [(17, mX8_hasRoomFor)]
  | 9 => List.lookup idx [(33, mX9_scanToken), (37, mX9_add), (44, mX9_scanWord), (50, mX9_scanNumber), (55, mJ0_indexOf_0f7a4), (69, mJ0_length_8abf5), (77, mJ0_charAt_5068e)]
  | 10 => List.lookup idx [(33, mX1_has), (56, mX10_movesHouse), (63, mX3_countsOn)]
  | 11 => List.lookup idx [(100, mX5_add), (108, mX5_tellDeath), (112, mX5_has), (118, mX1_add), (122, mX7_reachTo), (129, mX11_convert), (135, mX1_has), (136, mX3_add), (139, mX3_describe), (143, mX3_revoke), (147, mX10_follow), (153, mX3_countsOn), (162, mX8_hasRoomFor), (165, mX8_put), (171, mX8_cut), (178, mX9_scan), (182, mX4_parse), (198, mX3_has), (199, mX0_add), (202, mX11_weigh), (208, mX2_firstLineThatHolds), (218, mX6_divide), (222, mX6_numerator), (226, mX6_denominator), (229, mX7_tell), (233, mX7_settle), (249, mX0_has), (262, mX11_priceOfLastYear), (280, mX5_isDeadOn)]
  | 12 => List.lookup idx [(127, mX12_isPerson), (140, mX12_turned), (146, mX12_isHouse), (155, mX12_isPaper), (161, mX12_counts), (165, mX12_follow), (181, mX12_sign), (201, mX12_fails), (205, mX12_isGood), (209, mX12_next), (212, mX12_wrong), (248, mX12_readLine), (253, mX12_isWord), (257, mX12_e), (262, mX12_must), (274, mX12_is), (283, mX12_pile), (287, mX12_one), (290, mX12_behind), (295, mX12_readSum), (298, mX12_step), (301, mX12_readTerm), (304, mX12_termHere), (318, mX12_loose), (325, mX12_isDead), (328, mX12_holds), (331, mX12_look), (334, mX12_lineFor), (343, mX12_isChild), (346, mX12_gets), (350, mX12_handDown), (356, mX12_mayGet), (359, mX12_solve)]
  | _ => none
def sT (k idx : Nat) : Option Yt := match k with
  | 2 => List.lookup idx [(40, mX11_truth), (44, mX2_join)]
  | 6 => List.lookup idx [(52, mX6_commonDivisor)]
  | 7 => List.lookup idx [(50, mJ6_bitCount_0f7a4)]
  | 9 => List.lookup idx [(29, mX9_isBlank), (41, mX9_isLetter), (47, mX9_isDigit), (63, mX9_rowOf), (73, mX9_isWord)]
  | 11 => List.lookup idx [(104, mX11_isDay), (115, mX11_isMoney), (126, mX11_isYear), (258, mX11_truth)]
  | 12 => List.lookup idx [(131, mX12_isDay), (134, mX12_isSum), (137, mX12_isYear), (188, mX12_isLetter), (195, mX12_isDigit), (312, mX12_two), (339, mX12_divisor)]
  | _ => none
def kT (k idx : Nat) : Option Value := match k with
  | 9 => List.lookup idx [(53, .ref 200), (61, .ref 201), (67, .ref 202)]
  | 11 => List.lookup idx [(146, .int (36499)), (248, .int (1000000))]
  | 12 => List.lookup idx [(125, .int (36499)), (126, .int (1000000)), (324, .int (2147483647))]
  | 13 => List.lookup idx [(265, .int (1431655765)), (266, .int (858993459)), (267, .int (252645135))]
  | _ => none
def lT (k idx : Nat) : Option Int64 := match k with
  | 11 => List.lookup idx [(133, -1), (286, 2147483647)]
  | 12 => List.lookup idx [(144, -1), (215, 112628846519652), (217, 444150998382), (219, 482955846501), (221, 512970880104), (223, 2036687218), (225, 1751477348), (227, 448311223411), (229, 465625834867), (231, 1684365668), (251, 2003330414), (260, 25711), (266, 1650549611), (268, 478694368626), (270, 470020941177), (272, 1852796517), (293, 7237492), (308, 6385252), (310, 28530), (322, 2147483647), (337, 100)]
  | _ => none
def fknd (c k : Nat) : Nat := (kt0.getD c []).getD k 0
def up2 {α : Type} (M : Nat → Nat → α) (o k : Nat) (x : α) : Nat → Nat → α := fun o' => if o' = o then fun k' => if k' = k then x else M o k' else M o'
def fval (q o k : Nat) (M : Mt) (N : Nt) (P : Pt') : Value := if q = 2 then .long (N o k) else if q = 1 then .ref (P o k) else .int (M o k)
def putv (q o k : Nat) (v : Value) (M : Mt) (N : Nt) (P : Pt') (M' : Mt) (N' : Nt) (P' : Pt') : Prop :=
  (q = 0 ∧ ∃ x, v = .int x ∧ M' = up2 M o k x ∧ N' = N ∧ P' = P) ∨ (q = 1 ∧ ∃ r, v = .ref r ∧ M' = M ∧ N' = N ∧ P' = up2 P o k r) ∨ (q = 2 ∧ ∃ x, v = .long x ∧ M' = M ∧ N' = up2 N o k x ∧ P' = P)
/-- a store at i doesn't cut a long that stands before it -/
def okst (L : List Value) (i : Nat) : Bool := match i with
  | 0 => true
  | j + 1 => match L[j]? with
    | some (.long _) => false
    | some (.double _) => false
    | _ => true
def stk : List Value → Nat
  | [] => 0
  | v :: r => v.category + stk r
def strB : Nat → List Nat := fun i => match i with
  | 0 => [59, 40, 41, 60, 62, 61, 43, 45]
  | 1 => [102, 111, 114, 99, 101, 100, 32, 32, 103, 105, 118, 101, 110, 32, 32, 32, 112, 114, 105, 99, 101, 32, 32, 32, 119, 111, 114, 116, 104, 32, 32, 32, 121, 101, 97, 114, 32, 32, 32, 32, 104, 101, 108, 100, 32, 32, 32, 32, 104, 97, 110, 100, 115, 32, 32, 32, 108, 105, 118, 101, 115, 32, 32, 32, 100, 101, 97, 100, 32, 32, 32, 32]
  | 2 => [119, 104, 101, 110, 32, 32, 32, 32, 100, 111, 32, 32, 32, 32, 32, 32, 98, 97, 99, 107, 32, 32, 32, 32, 111, 116, 104, 101, 114, 32, 32, 32, 109, 111, 110, 101, 121, 32, 32, 32, 110, 111, 110, 101, 32, 32, 32, 32, 111, 114, 32, 32, 32, 32, 32, 32, 97, 110, 100, 32, 32, 32, 32, 32, 110, 111, 116, 32, 32, 32, 32, 32]
  | _ => []
def strOf (ch : Nat) : List Nat → Nat → Int32
  | [], _ => -1
  | b :: r, k => if b = ch then nI k else strOf ch r (k + 1)
/-- what String's own methods answer on the text constants -/
def primR (y : Yt) (L : List Value) (r : Value) : Prop :=
  (y = mJ0_charAt_5068e ∧ ∃ i j b, L = [.ref (200 + i), .int (nI j)] ∧ i < 3 ∧ (strB i)[j]? = some b ∧ r = .int (nI b)) ∨
  (y = mJ0_length_8abf5 ∧ ∃ i, L = [.ref (200 + i)] ∧ i < 3 ∧ r = .int (nI (strB i).length)) ∨
  (y = mJ0_indexOf_0f7a4 ∧ ∃ i j, L = [.ref (200 + i), .int (nI j)] ∧ i < 3 ∧ j < 128 ∧ r = .int (strOf j (strB i) 0))
def entL : List Value → List Value
  | [] => []
  | .long v :: r => .long v :: .float 0 :: entL r
  | v :: r => v :: entL r
def padL (n : Nat) (l : List Value) : List Value := l ++ List.replicate (n - l.length) (.float 0)
def nargs (y : Yt) (n : Nat) : Prop := (parseMethodDescriptor y.1.desc).map (fun d => d.parameters.length) = some n
def okv : Value → Bool
  | .int _ => true
  | .long _ => true
  | .ref _ => true
  | _ => false
def argsOk (y : Yt) (As : List Value) : Prop := As.all okv = true ∧ (entL As).length ≤ y.2.2.1 ∧ y.2.2.1 ≤ 40
def notH (y : Yt) : Prop := (y.1.cls ≠ "java/lang/invoke/MethodHandle" ∧ y.1.cls ≠ "java/lang/invoke/VarHandle") ∧ plainName y.1.cls = true
/-- the receiver is of the callee's own kind -/
def recvOk (o : Nat) (C : String) : Prop := (∃ c T n, shk o = (c, 0) ∧ vwCl[c]? = some (C, T, n)) ∨ (∃ i, i < 3 ∧ o = 200 + i ∧ C = "java/lang/String")
def linkV (y : Yt) (idx : Nat) (y' : Yt) (o : Nat) : Prop := y.1.cls = clsN y.2.2.2.2 ∧ vT y.2.2.2.2 idx = some y' ∧ recvOk o y'.1.cls
def linkS (y : Yt) (idx : Nat) (y' : Yt) : Prop := y.1.cls = clsN y.2.2.2.2 ∧ sT y.2.2.2.2 idx = some y'
def fldOk (y : Yt) (idx o c k : Nat) : Prop := y.1.cls = clsN y.2.2.2.2 ∧ shk o = (c, 0) ∧ fT y.2.2.2.2 idx = some (c, k)
def putOk (c k : Nat) (v : Value) : Prop := ∃ C T n ty, vwCl[c]? = some (C, T, n) ∧ k < n ∧ (T k).2.2.2 = false ∧ parseFieldDescriptor (T k).2.2.1 = some ty ∧ narrow ty v = v ∧ fits ty v = true
def arrc (c : Nat) (x : Int32) (z : Int32) : Prop := (c = 101 ∧ z = x.toInt8.toInt32) ∨ (c = 102 ∧ z = x &&& 1)
/-- one instruction: K goes on, C calls, R returns -/
def onei (i : Instr) (len d : Nat) (y : Yt) (pc : Nat) (L S : List Value) (M : Mt) (N : Nt) (P : Pt')
    (K : Nat → List Value → List Value → Mt → Nt → Pt' → Prop) (C : Yt → List Value → Qt → Prop) (R : Option Value → Prop) : Prop :=
  match i with
  | .iconst n => len = 1 ∧ K (pc + 1) L (.int (Int32.ofInt n) :: S) M N P
  | .bipush n => len = 2 ∧ K (pc + 2) L (.int ((Int8.ofInt n).toInt32) :: S) M N P
  | .sipush n => len = 3 ∧ K (pc + 3) L (.int ((Int16.ofInt n).toInt32) :: S) M N P
  | .lconst n => len = 1 ∧ K (pc + 1) L (.long (Int64.ofNat (n : Nat)) :: S) M N P
  | .iload_n k => ∃ x, len = 1 ∧ L[(k : Nat)]? = some (.int x) ∧ K (pc + 1) L (.int x :: S) M N P
  | .iload k => ∃ x, len = 2 ∧ L[k]? = some (.int x) ∧ K (pc + 2) L (.int x :: S) M N P
  | .lload_n k => ∃ x, len = 1 ∧ L[(k : Nat)]? = some (.long x) ∧ K (pc + 1) L (.long x :: S) M N P
  | .lload k => ∃ x, len = 2 ∧ L[k]? = some (.long x) ∧ K (pc + 2) L (.long x :: S) M N P
  | .aload_n k => ∃ x, len = 1 ∧ L[(k : Nat)]? = some (.ref x) ∧ K (pc + 1) L (.ref x :: S) M N P
  | .aload k => ∃ x, len = 2 ∧ L[k]? = some (.ref x) ∧ K (pc + 2) L (.ref x :: S) M N P
  | .istore_n k => ∃ x S', len = 1 ∧ S = .int x :: S' ∧ (k : Nat) < L.length ∧ okst L k = true ∧ K (pc + 1) (L.set k (.int x)) S' M N P
  | .istore k => ∃ x S', len = 2 ∧ S = .int x :: S' ∧ k < L.length ∧ okst L k = true ∧ K (pc + 2) (L.set k (.int x)) S' M N P
  | .astore_n k => ∃ x S', len = 1 ∧ S = .ref x :: S' ∧ (k : Nat) < L.length ∧ okst L k = true ∧ K (pc + 1) (L.set k (.ref x)) S' M N P
  | .astore k => ∃ x S', len = 2 ∧ S = .ref x :: S' ∧ k < L.length ∧ okst L k = true ∧ K (pc + 2) (L.set k (.ref x)) S' M N P
  | .lstore_n k => ∃ x S', len = 1 ∧ S = .long x :: S' ∧ (k : Nat) + 1 < L.length ∧ okst L k = true ∧ K (pc + 1) ((L.set k (.long x)).set (k + 1) (.float 0)) S' M N P
  | .lstore k => ∃ x S', len = 2 ∧ S = .long x :: S' ∧ k + 1 < L.length ∧ okst L k = true ∧ K (pc + 2) ((L.set k (.long x)).set (k + 1) (.float 0)) S' M N P
  | .iinc k n => ∃ x, len = 3 ∧ L[k]? = some (.int x) ∧ okst L k = true ∧ K (pc + 3) (L.set k (.int (x + Int32.ofInt n))) S M N P
  | .iadd => ∃ x z S', len = 1 ∧ S = .int z :: .int x :: S' ∧ K (pc + 1) L (.int (x + z) :: S') M N P
  | .isub => ∃ x z S', len = 1 ∧ S = .int z :: .int x :: S' ∧ K (pc + 1) L (.int (x - z) :: S') M N P
  | .imul => ∃ x z S', len = 1 ∧ S = .int z :: .int x :: S' ∧ K (pc + 1) L (.int (x * z) :: S') M N P
  | .iand => ∃ x z S', len = 1 ∧ S = .int z :: .int x :: S' ∧ K (pc + 1) L (.int (x &&& z) :: S') M N P
  | .ior => ∃ x z S', len = 1 ∧ S = .int z :: .int x :: S' ∧ K (pc + 1) L (.int (x ||| z) :: S') M N P
  | .idiv => ∃ x z S', len = 1 ∧ S = .int z :: .int x :: S' ∧ ¬ z = 0 ∧ K (pc + 1) L (.int (x / z) :: S') M N P
  | .irem => ∃ x z S', len = 1 ∧ S = .int z :: .int x :: S' ∧ ¬ z = 0 ∧ K (pc + 1) L (.int (x - x / z * z) :: S') M N P
  | .ishl => ∃ x z S', len = 1 ∧ S = .int z :: .int x :: S' ∧ K (pc + 1) L (.int (x <<< (z &&& 31)) :: S') M N P
  | .ishr => ∃ x z S', len = 1 ∧ S = .int z :: .int x :: S' ∧ K (pc + 1) L (.int (x >>> (z &&& 31)) :: S') M N P
  | .iushr => ∃ x z S', len = 1 ∧ S = .int z :: .int x :: S' ∧ K (pc + 1) L (.int ((x.toUInt32 >>> (z.toUInt32 &&& Int32.toUInt32 31)).toInt32) :: S') M N P
  | .ladd => ∃ x z S', len = 1 ∧ S = .long z :: .long x :: S' ∧ K (pc + 1) L (.long (x + z) :: S') M N P
  | .lsub => ∃ x z S', len = 1 ∧ S = .long z :: .long x :: S' ∧ K (pc + 1) L (.long (x - z) :: S') M N P
  | .lmul => ∃ x z S', len = 1 ∧ S = .long z :: .long x :: S' ∧ K (pc + 1) L (.long (x * z) :: S') M N P
  | .lor => ∃ x z S', len = 1 ∧ S = .long z :: .long x :: S' ∧ K (pc + 1) L (.long (x ||| z) :: S') M N P
  | .ldiv => ∃ x z S', len = 1 ∧ S = .long z :: .long x :: S' ∧ ¬ z = 0 ∧ K (pc + 1) L (.long (x / z) :: S') M N P
  | .lrem => ∃ x z S', len = 1 ∧ S = .long z :: .long x :: S' ∧ ¬ z = 0 ∧ K (pc + 1) L (.long (x - x / z * z) :: S') M N P
  | .lshl => ∃ x z S', len = 1 ∧ S = .int z :: .long x :: S' ∧ K (pc + 1) L (.long (x <<< (z.toInt64 &&& 63)) :: S') M N P
  | .lcmp => ∃ x z S', len = 1 ∧ S = .long z :: .long x :: S' ∧ K (pc + 1) L (.int (lg_cmp x z) :: S') M N P
  | .i2l => ∃ x S', len = 1 ∧ S = .int x :: S' ∧ K (pc + 1) L (.long x.toInt64 :: S') M N P
  | .l2i => ∃ x S', len = 1 ∧ S = .long x :: S' ∧ K (pc + 1) L (.int x.toInt32 :: S') M N P
  | .i2b => ∃ x S', len = 1 ∧ S = .int x :: S' ∧ K (pc + 1) L (.int x.toInt8.toInt32 :: S') M N P
  | .i2s => ∃ x S', len = 1 ∧ S = .int x :: S' ∧ K (pc + 1) L (.int x.toInt16.toInt32 :: S') M N P
  | .i2c => ∃ x S', len = 1 ∧ S = .int x :: S' ∧ K (pc + 1) L (.int (x.toUInt32 % 65536).toInt32 :: S') M N P
  | .dup => ∃ v S', len = 1 ∧ S = v :: S' ∧ v.category = 1 ∧ K (pc + 1) L (v :: v :: S') M N P
  | .dup2 => ∃ v u S', len = 1 ∧ S = v :: u :: S' ∧ v.category = 1 ∧ u.category = 1 ∧ K (pc + 1) L (v :: u :: v :: u :: S') M N P
  | .pop => ∃ v S', len = 1 ∧ S = v :: S' ∧ v.category = 1 ∧ K (pc + 1) L S' M N P
  | .ifCond .eq off => ∃ x S' t, len = 3 ∧ S = .int x :: S' ∧ (pc : Int) + off = ((t : Nat) : Int) ∧ K (if x = 0 then t else pc + 3) L S' M N P
  | .ifCond .ne off => ∃ x S' t, len = 3 ∧ S = .int x :: S' ∧ (pc : Int) + off = ((t : Nat) : Int) ∧ K (if x = 0 then pc + 3 else t) L S' M N P
  | .ifCond .lt off => ∃ x S' t, len = 3 ∧ S = .int x :: S' ∧ (pc : Int) + off = ((t : Nat) : Int) ∧ K (if x < 0 then t else pc + 3) L S' M N P
  | .ifCond .ge off => ∃ x S' t, len = 3 ∧ S = .int x :: S' ∧ (pc : Int) + off = ((t : Nat) : Int) ∧ K (if 0 ≤ x then t else pc + 3) L S' M N P
  | .ifCond .gt off => ∃ x S' t, len = 3 ∧ S = .int x :: S' ∧ (pc : Int) + off = ((t : Nat) : Int) ∧ K (if 0 < x then t else pc + 3) L S' M N P
  | .ifCond .le off => ∃ x S' t, len = 3 ∧ S = .int x :: S' ∧ (pc : Int) + off = ((t : Nat) : Int) ∧ K (if x ≤ 0 then t else pc + 3) L S' M N P
  | .if_icmp .eq off => ∃ x z S' t, len = 3 ∧ S = .int z :: .int x :: S' ∧ (pc : Int) + off = ((t : Nat) : Int) ∧ K (if x = z then t else pc + 3) L S' M N P
  | .if_icmp .ne off => ∃ x z S' t, len = 3 ∧ S = .int z :: .int x :: S' ∧ (pc : Int) + off = ((t : Nat) : Int) ∧ K (if x = z then pc + 3 else t) L S' M N P
  | .if_icmp .lt off => ∃ x z S' t, len = 3 ∧ S = .int z :: .int x :: S' ∧ (pc : Int) + off = ((t : Nat) : Int) ∧ K (if x < z then t else pc + 3) L S' M N P
  | .if_icmp .ge off => ∃ x z S' t, len = 3 ∧ S = .int z :: .int x :: S' ∧ (pc : Int) + off = ((t : Nat) : Int) ∧ K (if z ≤ x then t else pc + 3) L S' M N P
  | .if_icmp .gt off => ∃ x z S' t, len = 3 ∧ S = .int z :: .int x :: S' ∧ (pc : Int) + off = ((t : Nat) : Int) ∧ K (if z < x then t else pc + 3) L S' M N P
  | .if_icmp .le off => ∃ x z S' t, len = 3 ∧ S = .int z :: .int x :: S' ∧ (pc : Int) + off = ((t : Nat) : Int) ∧ K (if x ≤ z then t else pc + 3) L S' M N P
  | .goto off => ∃ t, len = 3 ∧ (pc : Int) + off = ((t : Nat) : Int) ∧ K t L S M N P
  | .tableswitch dflt lo hi offs => ∃ x S' t, S = .int x :: S' ∧ (((x.toInt < lo ∨ hi < x.toInt) ∧ (pc : Int) + dflt = ((t : Nat) : Int)) ∨ (¬ x.toInt < lo ∧ ¬ hi < x.toInt ∧ ∃ off, offs[(x.toInt - lo).toNat]? = some off ∧ (pc : Int) + off = ((t : Nat) : Int))) ∧ K t L S' M N P
  | .lookupswitch dflt ps => ∃ x S' t, S = .int x :: S' ∧ (ps.toList.zip (ps.toList.drop 1)).all (fun (a, next) => a.1 < next.1) = true ∧ (pc : Int) + Op.lookupswitch.offset ps.toList dflt x.toInt = ((t : Nat) : Int) ∧ K t L S' M N P
  | .ldc idx => ∃ v, len = 2 ∧ (y.1.cls = clsN y.2.2.2.2 ∧ kT y.2.2.2.2 idx = some v) ∧ K (pc + 2) L (v :: S) M N P
  | .ldc_w idx => ∃ x, len = 3 ∧ y.1.cls = clsN y.2.2.2.2 ∧ kT y.2.2.2.2 idx = some (.int x) ∧ K (pc + 3) L (.int x :: S) M N P
  | .ldc2_w idx => ∃ x, len = 3 ∧ y.1.cls = clsN y.2.2.2.2 ∧ lT y.2.2.2.2 idx = some x ∧ K (pc + 3) L (.long x :: S) M N P
  | .getfield idx => ∃ r c k S', len = 3 ∧ S = .ref r :: S' ∧ fldOk y idx r c k ∧ K (pc + 3) L (fval (fknd c k) r k M N P :: S') M N P
  | .putfield idx => ∃ r c k v S' M' N' P', len = 3 ∧ S = v :: .ref r :: S' ∧ fldOk y idx r c k ∧ putOk c k v ∧ putv (fknd c k) r k v M N P M' N' P' ∧ K (pc + 3) L S' M' N' P'
  | .iaload => ∃ j r n S', len = 1 ∧ S = .int j :: .ref r :: S' ∧ shk r = (100, n) ∧ vp_in j n ∧ K (pc + 1) L (.int (M r j.toNatClampNeg) :: S') M N P
  | .saload => ∃ j r n S', len = 1 ∧ S = .int j :: .ref r :: S' ∧ shk r = (103, n) ∧ vp_in j n ∧ K (pc + 1) L (.int (M r j.toNatClampNeg) :: S') M N P
  | .baload => ∃ j r c n S', len = 1 ∧ S = .int j :: .ref r :: S' ∧ (c = 101 ∨ c = 102) ∧ shk r = (c, n) ∧ vp_in j n ∧ K (pc + 1) L (.int (M r j.toNatClampNeg) :: S') M N P
  | .laload => ∃ j r n S', len = 1 ∧ S = .int j :: .ref r :: S' ∧ shk r = (104, n) ∧ vp_in j n ∧ K (pc + 1) L (.long (N r j.toNatClampNeg) :: S') M N P
  | .iastore => ∃ x j r n S', len = 1 ∧ S = .int x :: .int j :: .ref r :: S' ∧ shk r = (100, n) ∧ vp_in j n ∧ K (pc + 1) L S' (up2 M r j.toNatClampNeg x) N P
  | .sastore => ∃ x j r n S', len = 1 ∧ S = .int x :: .int j :: .ref r :: S' ∧ shk r = (103, n) ∧ vp_in j n ∧ K (pc + 1) L S' (up2 M r j.toNatClampNeg x.toInt16.toInt32) N P
  | .bastore => ∃ x j r c n z S', len = 1 ∧ S = .int x :: .int j :: .ref r :: S' ∧ shk r = (c, n) ∧ arrc c x z ∧ vp_in j n ∧ K (pc + 1) L S' (up2 M r j.toNatClampNeg z) N P
  | .lastore => ∃ x j r n S', len = 1 ∧ S = .long x :: .int j :: .ref r :: S' ∧ shk r = (104, n) ∧ vp_in j n ∧ K (pc + 1) L S' M (up2 N r j.toNatClampNeg x) P
  | .arraylength => ∃ r c n S', len = 1 ∧ S = .ref r :: S' ∧ shk r = (c, n) ∧ 100 ≤ c ∧ c ≤ 104 ∧ K (pc + 1) L (.int (Int32.ofNat n) :: S') M N P
  | .invokevirtual idx => ∃ y' r As S', len = 3 ∧ S = As.reverse ++ .ref r :: S' ∧ nargs y' As.length ∧ argsOk y' (.ref r :: As) ∧ linkV y idx y' r ∧ stk S' ≤ 8 ∧ C y' (.ref r :: As) (fun v M' N' P' => K (pc + 3) L (v.toList ++ S') M' N' P')
  | .invokestatic idx => (∃ x z S', len = 3 ∧ S = .int z :: .int x :: S' ∧ y.1.cls = RX7 ∧ y.2.2.2.2 = 7 ∧ idx = 45 ∧ stk S' ≤ 8 ∧ 1 ≤ d ∧ K (pc + 3) L (.int (if x < z then z else x) :: S') M N P) ∨ (∃ x z S', len = 3 ∧ S = .long z :: .long x :: S' ∧ y.1.cls = RX11 ∧ y.2.2.2.2 = 11 ∧ idx = 288 ∧ stk S' ≤ 8 ∧ 1 ≤ d ∧ K (pc + 3) L (.long (if z < x then z else x) :: S') M N P) ∨ (∃ y' As S', len = 3 ∧ S = As.reverse ++ S' ∧ nargs y' As.length ∧ argsOk y' As ∧ linkS y idx y' ∧ stk S' ≤ 8 ∧ C y' As (fun v M' N' P' => K (pc + 3) L (v.toList ++ S') M' N' P'))
  | .ireturn => ∃ x ty, len = 1 ∧ S = [.int x] ∧ y.2.2.2.1 = some ty ∧ narrow ty (.int x) = .int x ∧ R (some (.int x))
  | .lreturn => ∃ x, len = 1 ∧ S = [.long x] ∧ y.2.2.2.1 = some .long ∧ R (some (.long x))
  | .return_ => len = 1 ∧ S = [] ∧ y.2.2.2.1 = none ∧ R none
  | _ => False
/-- one instruction of a method, or the answer of one of String's own -/
def onew (Z : Yt → Nat → Nat → List Value → List Value → Mt → Nt → Pt' → Qt → Prop) (y : Yt) (d pc : Nat) (L S : List Value) (M : Mt) (N : Nt) (P : Pt') (Q : Qt) : Prop :=
  (∃ i len, decode y.2.1 pc = .ok (i, len) ∧ onei i len d y pc L S M N P (fun pc' L' S' M' N' P' => Z y d pc' L' S' M' N' P' Q) (fun y' As k => ∃ d', d = d' + 1 ∧ Z y' d' 0 (padL y'.2.2.1 (entL As)) [] M N P k) (fun v => Q v M N P)) ∨
  (∃ r, pc = 0 ∧ S = [] ∧ 5 ≤ d ∧ primR y L r ∧ Q (some r) M N P)
/-- the least relation that is closed under it: the method comes to its end with Q -/
def Wp (y : Yt) (d pc : Nat) (L S : List Value) (M : Mt) (N : Nt) (P : Pt') (Q : Qt) : Prop :=
  ∀ Z : Yt → Nat → Nat → List Value → List Value → Mt → Nt → Pt' → Qt → Prop, (∀ y d pc L S M N P Q, onew Z y d pc L S M N P Q → Z y d pc L S M N P Q) → Z y d pc L S M N P Q
set_option maxHeartbeats 4000000 in
theorem onei_mono {i : Instr} {len d : Nat} {y : Yt} {pc : Nat} {L S : List Value} {M : Mt} {N : Nt} {P : Pt'} {K K' : Nat → List Value → List Value → Mt → Nt → Pt' → Prop} {C C' : Yt → List Value → Qt → Prop} {R R' : Option Value → Prop}
    (hK : ∀ a b c d e f, K a b c d e f → K' a b c d e f) (hC : ∀ y As (k k' : Qt), (∀ v M N P, k v M N P → k' v M N P) → C y As k → C' y As k') (hR : ∀ v, R v → R' v) (h : onei i len d y pc L S M N P K C R) : onei i len d y pc L S M N P K' C' R' := by
  unfold onei at h ⊢
  split at h <;> (try dsimp only at h) <;> (try dsimp only) <;> first
    | exact h.elim
    | (repeat (first | exact hK _ _ _ _ _ _ h | exact hR _ h | exact hC _ _ _ _ (fun _ _ _ _ q => hK _ _ _ _ _ _ q) h | (rcases h with h | h; left; rotate_left; right; rotate_left) | (obtain ⟨u, h⟩ := h; refine ⟨u, ?_⟩)))
theorem onew_mono {Z Z' : Yt → Nat → Nat → List Value → List Value → Mt → Nt → Pt' → Qt → Prop} (hZ : ∀ y d pc L S M N P (Q Q' : Qt), (∀ v M N P, Q v M N P → Q' v M N P) → Z y d pc L S M N P Q → Z' y d pc L S M N P Q') {y : Yt} {d pc : Nat} {L S : List Value} {M : Mt} {N : Nt} {P : Pt'} {Q Q' : Qt} (hQ : ∀ v M N P, Q v M N P → Q' v M N P) (h : onew Z y d pc L S M N P Q) : onew Z' y d pc L S M N P Q' := by
  rcases h with ⟨i, len, hd, h⟩ | ⟨r, h1, h2, h3, h4, h5⟩
  · exact Or.inl ⟨i, len, hd, onei_mono (fun _ _ _ _ _ _ q => hZ _ _ _ _ _ _ _ _ _ _ hQ q) (fun _ _ _ _ hk ⟨d', e, q⟩ => ⟨d', e, hZ _ _ _ _ _ _ _ _ _ _ hk q⟩) (fun _ q => hQ _ _ _ _ q) h⟩
  · exact Or.inr ⟨r, h1, h2, h3, h4, hQ _ _ _ _ h5⟩
theorem Wp.cons {y : Yt} {d pc : Nat} {L S : List Value} {M : Mt} {N : Nt} {P : Pt'} {Q Q' : Qt} (h : Wp y d pc L S M N P Q) (hQ : ∀ v M N P, Q v M N P → Q' v M N P) : Wp y d pc L S M N P Q' := by
  intro Z hZ
  exact h (fun y d pc L S M N P Q => ∀ Q', (∀ v M N P, Q v M N P → Q' v M N P) → Z y d pc L S M N P Q') (fun y d pc L S M N P Q h Q' hQ => hZ _ _ _ _ _ _ _ _ _ (onew_mono (fun _ _ _ _ _ _ _ _ _ _ hq z => z _ hq) hQ h)) Q' hQ
theorem Wp.fold {y : Yt} {d pc : Nat} {L S : List Value} {M : Mt} {N : Nt} {P : Pt'} {Q : Qt} (h : onew Wp y d pc L S M N P Q) : Wp y d pc L S M N P Q := by
  intro Z hZ
  exact hZ _ _ _ _ _ _ _ _ _ (onew_mono (fun _ _ _ _ _ _ _ _ _ _ hq z => z.cons hq Z hZ) (fun _ _ _ _ q => q) h)
theorem Wp.fix {y : Yt} {d pc : Nat} {L S : List Value} {M : Mt} {N : Nt} {P : Pt'} {Q : Qt} : Wp y d pc L S M N P Q ↔ onew Wp y d pc L S M N P Q :=
  ⟨fun h => by
    refine h (onew Wp) ?_
    intro y d pc L S M N P Q q
    exact onew_mono (Z := onew Wp) (Z' := Wp) (fun _ _ _ _ _ _ _ _ _ _ hq z => Wp.cons (Wp.fold z) hq) (fun _ _ _ _ q => q) q, Wp.fold⟩
