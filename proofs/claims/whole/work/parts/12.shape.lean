/-- three rules from a cell on; two images -/
def rf3 (b : Nat) : Int → Option Nat := updA (updA (updA (fun _ => none) 0 (some b)) 1 (some (b + 3))) 2 (some (b + 6))
def rf2 : Int → Option Nat := updA (updA (fun _ => none) 0 (some 56)) 1 (some 72)
def shp : List SE := [
  .inr (10, [.inr (rv 1), .inr (rv 17), .inr (rv 33), .inr (rv 34), .inr (rv 35), .inr (rv 37), .inr (rv 39), .inr (rv 43), .inr (rv 47), .inr (rv 49), .inr (rv 53), .inr (rv 55)]),
  .inr (8, [.inr (rv 2), .inr (rv 3), .inr (rv 4), .inr (rv 5), .inr (rv 6), .inr (rv 7), .inl 0, .inl 0, .inl 0, .inl 0, .inl 0, .inl 0]),
  .inl (0, 5, none),
  .inl (0, 3, none),
  .inl (0, 15, none),
  .inl (0, 15, none),
  .inl (0, 15, none),
  .inl (3, 3, some (rf3 8)),
  .inr (7, [.inr (rv 9), .inr (rv 10), .inl 0, .inl 0, .inl 0]),
  .inl (0, 40, none),
  .inl (0, 40, none),
  .inr (7, [.inr (rv 12), .inr (rv 13), .inl 0, .inl 0, .inl 0]),
  .inl (0, 40, none),
  .inl (0, 40, none),
  .inr (7, [.inr (rv 15), .inr (rv 16), .inl 0, .inl 0, .inl 0]),
  .inl (0, 40, none),
  .inl (0, 40, none),
  .inr (8, [.inr (rv 18), .inr (rv 19), .inr (rv 20), .inr (rv 21), .inr (rv 22), .inr (rv 23), .inl 0, .inl 0, .inl 0, .inl 0, .inl 0, .inl 0]),
  .inl (0, 5, none),
  .inl (0, 3, none),
  .inl (0, 15, none),
  .inl (0, 15, none),
  .inl (0, 15, none),
  .inl (3, 3, some (rf3 24)),
  .inr (7, [.inr (rv 25), .inr (rv 26), .inl 0, .inl 0, .inl 0]),
  .inl (0, 40, none),
  .inl (0, 40, none),
  .inr (7, [.inr (rv 28), .inr (rv 29), .inl 0, .inl 0, .inl 0]),
  .inl (0, 40, none),
  .inl (0, 40, none),
  .inr (7, [.inr (rv 31), .inr (rv 32), .inl 0, .inl 0, .inl 0]),
  .inl (0, 40, none),
  .inl (0, 40, none),
  .inl (4, 2, some rf2),
  .inl (2, 2, none),
  .inr (5, [.inr (rv 36), .inl 0, .inl 0, .inl 0, .inl 0]),
  .inl (0, 40, none),
  .inr (9, [.inr (rv 38), .inl 0, .inl 0, .inl 0, .inl 0, .inl 0, .inl 1]),
  .inl (1, 40, none),
  .inr (3, [.inr (rv 37), .inr (rv 40), .inr (rv 41), .inr (rv 42), .inl 0]),
  .inl (0, 3, none),
  .inl (0, 3, none),
  .inl (0, 3, none),
  .inr (0, [.inr (rv 39), .inr (rv 44), .inr (rv 45), .inr (rv 46), .inl 0, .inl 0]),
  .inl (0, 39, none),
  .inl (0, 3, none),
  .inl (0, 3, none),
  .inr (6, [.inr (rv 43), .inr (rv 48)]),
  .inl (1, 41, none),
  .inr (1, [.inr (rv 50), .inr (rv 51), .inr (rv 52), .inl 0]),
  .inl (0, 183, none),
  .inl (0, 1044, none),
  .inl (0, 3, none),
  .inr (4, [.inr (rv 39), .inr (rv 54), .inl 0]),
  .inl (0, 5, none),
  .inr (2, [.inr (rv 37)]),
  .inr (8, [.inr (rv 57), .inr (rv 58), .inr (rv 59), .inr (rv 60), .inr (rv 61), .inr (rv 62), .inl 0, .inl 0, .inl 0, .inl 0, .inl 0, .inl 0]),
  .inl (0, 5, none),
  .inl (0, 3, none),
  .inl (0, 15, none),
  .inl (0, 15, none),
  .inl (0, 15, none),
  .inl (3, 3, some (rf3 63)),
  .inr (7, [.inr (rv 64), .inr (rv 65), .inl 0, .inl 0, .inl 0]),
  .inl (0, 40, none),
  .inl (0, 40, none),
  .inr (7, [.inr (rv 67), .inr (rv 68), .inl 0, .inl 0, .inl 0]),
  .inl (0, 40, none),
  .inl (0, 40, none),
  .inr (7, [.inr (rv 70), .inr (rv 71), .inl 0, .inl 0, .inl 0]),
  .inl (0, 40, none),
  .inl (0, 40, none),
  .inr (8, [.inr (rv 73), .inr (rv 74), .inr (rv 75), .inr (rv 76), .inr (rv 77), .inr (rv 78), .inl 0, .inl 0, .inl 0, .inl 0, .inl 0, .inl 0]),
  .inl (0, 5, none),
  .inl (0, 3, none),
  .inl (0, 15, none),
  .inl (0, 15, none),
  .inl (0, 15, none),
  .inl (3, 3, some (rf3 79)),
  .inr (7, [.inr (rv 80), .inr (rv 81), .inl 0, .inl 0, .inl 0]),
  .inl (0, 40, none),
  .inl (0, 40, none),
  .inr (7, [.inr (rv 83), .inr (rv 84), .inl 0, .inl 0, .inl 0]),
  .inl (0, 40, none),
  .inl (0, 40, none),
  .inr (7, [.inr (rv 86), .inr (rv 87), .inl 0, .inl 0, .inl 0]),
  .inl (0, 40, none),
  .inl (0, 40, none),
  .inr (11, [.inr (rv 89), .inr (rv 90), .inr (rv 91), .inl 0, .inl 0, .inl 0, .inr (rv 92), .inl 0, .inr (rv 93), .inl 0, .inr (rv 94), .inl 1, .inr (rv 95), .inl 0, .inr (rv 96), .inr (rv 97), .inr (rv 98), .inr (rv 99), .inl 0, .inl 0, .inl 0, .inr (rv 100), .inr (rv 101), .inr (rv 102), .inr (rv 103), .inr (rv 104), .inr (rv 105), .inr (rv 106), .inr (rv 107)]),
  .inl (0, 182, none),
  .inl (0, 364, none),
  .inl (2, 2, none),
  .inl (1, 64, none),
  .inl (0, 128, none),
  .inl (1, 5, none),
  .inl (0, 16, none),
  .inl (1, 13, none),
  .inl (0, 3, none),
  .inl (0, 3, none),
  .inl (0, 3, none),
  .inl (0, 4, none),
  .inl (0, 3, none),
  .inl (0, 3, none),
  .inl (0, 615, none),
  .inl (0, 183, none),
  .inl (0, 3, none),
  .inl (0, 5, none),
  .inl (0, 15, none)]
def mem (σ : SG) : AM := memS shp σ
theorem h_0 : shp[0]? = some (.inr (10, [.inr (rv 1), .inr (rv 17), .inr (rv 33), .inr (rv 34), .inr (rv 35), .inr (rv 37), .inr (rv 39), .inr (rv 43), .inr (rv 47), .inr (rv 49), .inr (rv 53), .inr (rv 55)])) := rfl
theorem h_1 : shp[1]? = some (.inr (8, [.inr (rv 2), .inr (rv 3), .inr (rv 4), .inr (rv 5), .inr (rv 6), .inr (rv 7), .inl 0, .inl 0, .inl 0, .inl 0, .inl 0, .inl 0])) := rfl
theorem h_2 : shp[2]? = some (.inl (0, 5, none)) := rfl
theorem h_3 : shp[3]? = some (.inl (0, 3, none)) := rfl
theorem h_4 : shp[4]? = some (.inl (0, 15, none)) := rfl
theorem h_5 : shp[5]? = some (.inl (0, 15, none)) := rfl
theorem h_6 : shp[6]? = some (.inl (0, 15, none)) := rfl
theorem h_7 : shp[7]? = some (.inl (3, 3, some (rf3 8))) := rfl
theorem h_8 : shp[8]? = some (.inr (7, [.inr (rv 9), .inr (rv 10), .inl 0, .inl 0, .inl 0])) := rfl
theorem h_9 : shp[9]? = some (.inl (0, 40, none)) := rfl
theorem h_10 : shp[10]? = some (.inl (0, 40, none)) := rfl
theorem h_11 : shp[11]? = some (.inr (7, [.inr (rv 12), .inr (rv 13), .inl 0, .inl 0, .inl 0])) := rfl
theorem h_12 : shp[12]? = some (.inl (0, 40, none)) := rfl
theorem h_13 : shp[13]? = some (.inl (0, 40, none)) := rfl
theorem h_14 : shp[14]? = some (.inr (7, [.inr (rv 15), .inr (rv 16), .inl 0, .inl 0, .inl 0])) := rfl
theorem h_15 : shp[15]? = some (.inl (0, 40, none)) := rfl
theorem h_16 : shp[16]? = some (.inl (0, 40, none)) := rfl
theorem h_17 : shp[17]? = some (.inr (8, [.inr (rv 18), .inr (rv 19), .inr (rv 20), .inr (rv 21), .inr (rv 22), .inr (rv 23), .inl 0, .inl 0, .inl 0, .inl 0, .inl 0, .inl 0])) := rfl
theorem h_18 : shp[18]? = some (.inl (0, 5, none)) := rfl
theorem h_19 : shp[19]? = some (.inl (0, 3, none)) := rfl
theorem h_20 : shp[20]? = some (.inl (0, 15, none)) := rfl
theorem h_21 : shp[21]? = some (.inl (0, 15, none)) := rfl
theorem h_22 : shp[22]? = some (.inl (0, 15, none)) := rfl
theorem h_23 : shp[23]? = some (.inl (3, 3, some (rf3 24))) := rfl
theorem h_24 : shp[24]? = some (.inr (7, [.inr (rv 25), .inr (rv 26), .inl 0, .inl 0, .inl 0])) := rfl
theorem h_25 : shp[25]? = some (.inl (0, 40, none)) := rfl
theorem h_26 : shp[26]? = some (.inl (0, 40, none)) := rfl
theorem h_27 : shp[27]? = some (.inr (7, [.inr (rv 28), .inr (rv 29), .inl 0, .inl 0, .inl 0])) := rfl
theorem h_28 : shp[28]? = some (.inl (0, 40, none)) := rfl
theorem h_29 : shp[29]? = some (.inl (0, 40, none)) := rfl
theorem h_30 : shp[30]? = some (.inr (7, [.inr (rv 31), .inr (rv 32), .inl 0, .inl 0, .inl 0])) := rfl
theorem h_31 : shp[31]? = some (.inl (0, 40, none)) := rfl
theorem h_32 : shp[32]? = some (.inl (0, 40, none)) := rfl
theorem h_33 : shp[33]? = some (.inl (4, 2, some rf2)) := rfl
theorem h_34 : shp[34]? = some (.inl (2, 2, none)) := rfl
theorem h_35 : shp[35]? = some (.inr (5, [.inr (rv 36), .inl 0, .inl 0, .inl 0, .inl 0])) := rfl
theorem h_36 : shp[36]? = some (.inl (0, 40, none)) := rfl
theorem h_37 : shp[37]? = some (.inr (9, [.inr (rv 38), .inl 0, .inl 0, .inl 0, .inl 0, .inl 0, .inl 1])) := rfl
theorem h_38 : shp[38]? = some (.inl (1, 40, none)) := rfl
theorem h_39 : shp[39]? = some (.inr (3, [.inr (rv 37), .inr (rv 40), .inr (rv 41), .inr (rv 42), .inl 0])) := rfl
theorem h_40 : shp[40]? = some (.inl (0, 3, none)) := rfl
theorem h_41 : shp[41]? = some (.inl (0, 3, none)) := rfl
theorem h_42 : shp[42]? = some (.inl (0, 3, none)) := rfl
theorem h_43 : shp[43]? = some (.inr (0, [.inr (rv 39), .inr (rv 44), .inr (rv 45), .inr (rv 46), .inl 0, .inl 0])) := rfl
theorem h_44 : shp[44]? = some (.inl (0, 39, none)) := rfl
theorem h_45 : shp[45]? = some (.inl (0, 3, none)) := rfl
theorem h_46 : shp[46]? = some (.inl (0, 3, none)) := rfl
theorem h_47 : shp[47]? = some (.inr (6, [.inr (rv 43), .inr (rv 48)])) := rfl
theorem h_48 : shp[48]? = some (.inl (1, 41, none)) := rfl
theorem h_49 : shp[49]? = some (.inr (1, [.inr (rv 50), .inr (rv 51), .inr (rv 52), .inl 0])) := rfl
theorem h_50 : shp[50]? = some (.inl (0, 183, none)) := rfl
theorem h_51 : shp[51]? = some (.inl (0, 1044, none)) := rfl
theorem h_52 : shp[52]? = some (.inl (0, 3, none)) := rfl
theorem h_53 : shp[53]? = some (.inr (4, [.inr (rv 39), .inr (rv 54), .inl 0])) := rfl
theorem h_54 : shp[54]? = some (.inl (0, 5, none)) := rfl
theorem h_55 : shp[55]? = some (.inr (2, [.inr (rv 37)])) := rfl
theorem h_56 : shp[56]? = some (.inr (8, [.inr (rv 57), .inr (rv 58), .inr (rv 59), .inr (rv 60), .inr (rv 61), .inr (rv 62), .inl 0, .inl 0, .inl 0, .inl 0, .inl 0, .inl 0])) := rfl
theorem h_57 : shp[57]? = some (.inl (0, 5, none)) := rfl
theorem h_58 : shp[58]? = some (.inl (0, 3, none)) := rfl
theorem h_59 : shp[59]? = some (.inl (0, 15, none)) := rfl
theorem h_60 : shp[60]? = some (.inl (0, 15, none)) := rfl
theorem h_61 : shp[61]? = some (.inl (0, 15, none)) := rfl
theorem h_62 : shp[62]? = some (.inl (3, 3, some (rf3 63))) := rfl
theorem h_63 : shp[63]? = some (.inr (7, [.inr (rv 64), .inr (rv 65), .inl 0, .inl 0, .inl 0])) := rfl
theorem h_64 : shp[64]? = some (.inl (0, 40, none)) := rfl
theorem h_65 : shp[65]? = some (.inl (0, 40, none)) := rfl
theorem h_66 : shp[66]? = some (.inr (7, [.inr (rv 67), .inr (rv 68), .inl 0, .inl 0, .inl 0])) := rfl
theorem h_67 : shp[67]? = some (.inl (0, 40, none)) := rfl
theorem h_68 : shp[68]? = some (.inl (0, 40, none)) := rfl
theorem h_69 : shp[69]? = some (.inr (7, [.inr (rv 70), .inr (rv 71), .inl 0, .inl 0, .inl 0])) := rfl
theorem h_70 : shp[70]? = some (.inl (0, 40, none)) := rfl
theorem h_71 : shp[71]? = some (.inl (0, 40, none)) := rfl
theorem h_72 : shp[72]? = some (.inr (8, [.inr (rv 73), .inr (rv 74), .inr (rv 75), .inr (rv 76), .inr (rv 77), .inr (rv 78), .inl 0, .inl 0, .inl 0, .inl 0, .inl 0, .inl 0])) := rfl
theorem h_73 : shp[73]? = some (.inl (0, 5, none)) := rfl
theorem h_74 : shp[74]? = some (.inl (0, 3, none)) := rfl
theorem h_75 : shp[75]? = some (.inl (0, 15, none)) := rfl
theorem h_76 : shp[76]? = some (.inl (0, 15, none)) := rfl
theorem h_77 : shp[77]? = some (.inl (0, 15, none)) := rfl
theorem h_78 : shp[78]? = some (.inl (3, 3, some (rf3 79))) := rfl
theorem h_79 : shp[79]? = some (.inr (7, [.inr (rv 80), .inr (rv 81), .inl 0, .inl 0, .inl 0])) := rfl
theorem h_80 : shp[80]? = some (.inl (0, 40, none)) := rfl
theorem h_81 : shp[81]? = some (.inl (0, 40, none)) := rfl
theorem h_82 : shp[82]? = some (.inr (7, [.inr (rv 83), .inr (rv 84), .inl 0, .inl 0, .inl 0])) := rfl
theorem h_83 : shp[83]? = some (.inl (0, 40, none)) := rfl
theorem h_84 : shp[84]? = some (.inl (0, 40, none)) := rfl
theorem h_85 : shp[85]? = some (.inr (7, [.inr (rv 86), .inr (rv 87), .inl 0, .inl 0, .inl 0])) := rfl
theorem h_86 : shp[86]? = some (.inl (0, 40, none)) := rfl
theorem h_87 : shp[87]? = some (.inl (0, 40, none)) := rfl
theorem h_88 : shp[88]? = some (.inr (11, [.inr (rv 89), .inr (rv 90), .inr (rv 91), .inl 0, .inl 0, .inl 0, .inr (rv 92), .inl 0, .inr (rv 93), .inl 0, .inr (rv 94), .inl 1, .inr (rv 95), .inl 0, .inr (rv 96), .inr (rv 97), .inr (rv 98), .inr (rv 99), .inl 0, .inl 0, .inl 0, .inr (rv 100), .inr (rv 101), .inr (rv 102), .inr (rv 103), .inr (rv 104), .inr (rv 105), .inr (rv 106), .inr (rv 107)])) := rfl
theorem h_89 : shp[89]? = some (.inl (0, 182, none)) := rfl
theorem h_90 : shp[90]? = some (.inl (0, 364, none)) := rfl
theorem h_91 : shp[91]? = some (.inl (2, 2, none)) := rfl
theorem h_92 : shp[92]? = some (.inl (1, 64, none)) := rfl
theorem h_93 : shp[93]? = some (.inl (0, 128, none)) := rfl
theorem h_94 : shp[94]? = some (.inl (1, 5, none)) := rfl
theorem h_95 : shp[95]? = some (.inl (0, 16, none)) := rfl
theorem h_96 : shp[96]? = some (.inl (1, 13, none)) := rfl
theorem h_97 : shp[97]? = some (.inl (0, 3, none)) := rfl
theorem h_98 : shp[98]? = some (.inl (0, 3, none)) := rfl
theorem h_99 : shp[99]? = some (.inl (0, 3, none)) := rfl
theorem h_100 : shp[100]? = some (.inl (0, 4, none)) := rfl
theorem h_101 : shp[101]? = some (.inl (0, 3, none)) := rfl
theorem h_102 : shp[102]? = some (.inl (0, 3, none)) := rfl
theorem h_103 : shp[103]? = some (.inl (0, 615, none)) := rfl
theorem h_104 : shp[104]? = some (.inl (0, 183, none)) := rfl
theorem h_105 : shp[105]? = some (.inl (0, 3, none)) := rfl
theorem h_106 : shp[106]? = some (.inl (0, 5, none)) := rfl
theorem h_107 : shp[107]? = some (.inl (0, 15, none)) := rfl
