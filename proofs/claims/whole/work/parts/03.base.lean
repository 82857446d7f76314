/-! THE SMALL MACHINE: values are numbers (Int) and object numbers; the world is a fixed list of cells whose numbers a memory M gives -/
def TBL : List Cond := lw_tbl.filter goodWord
def isNest : Cond → Bool
  | .fieldLinkNest _ _ _ _ _ _ => true
  | .methodLinkNest _ _ _ _ => true
  | _ => false
def NW : List Cond := lw_tbl.filter isNest
theorem TBL_good {x : Cond} (h : x ∈ TBL) : goodWord x = true := (List.mem_filter.mp h).2
theorem TBL_in {x : Cond} (h : x ∈ lw_tbl) (hg : goodWord x = true) : x ∈ TBL := List.mem_filter.mpr ⟨h, hg⟩
theorem NW_in {x : Cond} (h : x ∈ lw_tbl) (hg : isNest x = true) : x ∈ NW := List.mem_filter.mpr ⟨h, hg⟩
abbrev MV : Type := Int ⊕ (Int ⊕ Option Nat)
abbrev vI (x : Int) : MV := .inl x
abbrev vL (x : Int) : MV := .inr (.inl x)
abbrev vR (o : Nat) : MV := .inr (.inr (some o))
abbrev vN : MV := .inr (.inr none)
abbrev Mem : Type := Nat → Nat → Int
/-- addresses of the objects, the classes' numbers and slots, the array classes -/
abbrev Wd : Type := (Nat → Nat) × va_G × (Nat → ClassId)
def tv (w : Wd) : MV → Value
  | .inl x => .int (Int32.ofInt x)
  | .inr (.inl x) => .long (Int64.ofInt x)
  | .inr (.inr none) => .null
  | .inr (.inr (some o)) => .ref (w.1 o)
def inR : MV → Prop
  | .inl x => -2147483648 ≤ x ∧ x ≤ 2147483647
  | .inr (.inl x) => -9223372036854775808 ≤ x ∧ x ≤ 9223372036854775807
  | .inr (.inr _) => True
/-- an object: its class, its fields' kinds (0 int, 1 long, k + 2 object k); an array: its type (0 int, 1 byte, 2 boolean, 3 long, 4 and 5 references), length, first object, stride -/
abbrev Ent : Type := (Nat × List Nat) ⊕ (Nat × Nat × Nat × Nat)
def lay : List Ent := [
  /- 0 x -/ .inl (8, [3, 15, 27, 59, 91, 116, 121, 124, 127, 132]),
  /- 1 island -/ .inl (0, [0, 4, 5, 6, 7, 0, 8, 9, 10, 11, 12, 13, 0, 0, 14, 0, 0]),
  /- 2 island.draught -/ .inr (0, 8, 0, 0),
  /- 3 island.wax -/ .inr (0, 8, 0, 0),
  /- 4 island.debt -/ .inr (0, 8, 0, 0),
  /- 5 island.light -/ .inr (0, 8, 0, 0),
  /- 6 island.thick -/ .inr (0, 6, 0, 0),
  /- 7 island.length -/ .inr (0, 6, 0, 0),
  /- 8 island.state -/ .inr (0, 6, 0, 0),
  /- 9 island.where -/ .inr (0, 6, 0, 0),
  /- 10 island.next -/ .inr (0, 6, 0, 0),
  /- 11 island.owner -/ .inr (0, 72, 0, 0),
  /- 12 island.dripParts -/ .inr (0, 360, 0, 0),
  /- 13 kept -/ .inl (0, [0, 16, 17, 18, 19, 0, 20, 21, 22, 23, 24, 25, 0, 0, 26, 0, 0]),
  /- 14 kept.draught -/ .inr (0, 8, 0, 0),
  /- 15 kept.wax -/ .inr (0, 8, 0, 0),
  /- 16 kept.debt -/ .inr (0, 8, 0, 0),
  /- 17 kept.light -/ .inr (0, 8, 0, 0),
  /- 18 kept.thick -/ .inr (0, 6, 0, 0),
  /- 19 kept.length -/ .inr (0, 6, 0, 0),
  /- 20 kept.state -/ .inr (0, 6, 0, 0),
  /- 21 kept.where -/ .inr (0, 6, 0, 0),
  /- 22 kept.next -/ .inr (0, 6, 0, 0),
  /- 23 kept.owner -/ .inr (0, 72, 0, 0),
  /- 24 kept.dripParts -/ .inr (0, 360, 0, 0),
  /- 25 steps -/ .inl (4, [28, 0, 0]),
  /- 26 steps.rows -/ .inr (5, 30, 27, 1),
  /- 27 steps.row0 -/ .inr (0, 32, 0, 0),
  /- 28 steps.row1 -/ .inr (0, 32, 0, 0),
  /- 29 steps.row2 -/ .inr (0, 32, 0, 0),
  /- 30 steps.row3 -/ .inr (0, 32, 0, 0),
  /- 31 steps.row4 -/ .inr (0, 32, 0, 0),
  /- 32 steps.row5 -/ .inr (0, 32, 0, 0),
  /- 33 steps.row6 -/ .inr (0, 32, 0, 0),
  /- 34 steps.row7 -/ .inr (0, 32, 0, 0),
  /- 35 steps.row8 -/ .inr (0, 32, 0, 0),
  /- 36 steps.row9 -/ .inr (0, 32, 0, 0),
  /- 37 steps.row10 -/ .inr (0, 32, 0, 0),
  /- 38 steps.row11 -/ .inr (0, 32, 0, 0),
  /- 39 steps.row12 -/ .inr (0, 32, 0, 0),
  /- 40 steps.row13 -/ .inr (0, 32, 0, 0),
  /- 41 steps.row14 -/ .inr (0, 32, 0, 0),
  /- 42 steps.row15 -/ .inr (0, 32, 0, 0),
  /- 43 steps.row16 -/ .inr (0, 32, 0, 0),
  /- 44 steps.row17 -/ .inr (0, 32, 0, 0),
  /- 45 steps.row18 -/ .inr (0, 32, 0, 0),
  /- 46 steps.row19 -/ .inr (0, 32, 0, 0),
  /- 47 steps.row20 -/ .inr (0, 32, 0, 0),
  /- 48 steps.row21 -/ .inr (0, 32, 0, 0),
  /- 49 steps.row22 -/ .inr (0, 32, 0, 0),
  /- 50 steps.row23 -/ .inr (0, 32, 0, 0),
  /- 51 steps.row24 -/ .inr (0, 32, 0, 0),
  /- 52 steps.row25 -/ .inr (0, 32, 0, 0),
  /- 53 steps.row26 -/ .inr (0, 32, 0, 0),
  /- 54 steps.row27 -/ .inr (0, 32, 0, 0),
  /- 55 steps.row28 -/ .inr (0, 32, 0, 0),
  /- 56 steps.row29 -/ .inr (0, 32, 0, 0),
  /- 57 keptSteps -/ .inl (4, [60, 0, 0]),
  /- 58 keptSteps.rows -/ .inr (5, 30, 59, 1),
  /- 59 keptSteps.row0 -/ .inr (0, 32, 0, 0),
  /- 60 keptSteps.row1 -/ .inr (0, 32, 0, 0),
  /- 61 keptSteps.row2 -/ .inr (0, 32, 0, 0),
  /- 62 keptSteps.row3 -/ .inr (0, 32, 0, 0),
  /- 63 keptSteps.row4 -/ .inr (0, 32, 0, 0),
  /- 64 keptSteps.row5 -/ .inr (0, 32, 0, 0),
  /- 65 keptSteps.row6 -/ .inr (0, 32, 0, 0),
  /- 66 keptSteps.row7 -/ .inr (0, 32, 0, 0),
  /- 67 keptSteps.row8 -/ .inr (0, 32, 0, 0),
  /- 68 keptSteps.row9 -/ .inr (0, 32, 0, 0),
  /- 69 keptSteps.row10 -/ .inr (0, 32, 0, 0),
  /- 70 keptSteps.row11 -/ .inr (0, 32, 0, 0),
  /- 71 keptSteps.row12 -/ .inr (0, 32, 0, 0),
  /- 72 keptSteps.row13 -/ .inr (0, 32, 0, 0),
  /- 73 keptSteps.row14 -/ .inr (0, 32, 0, 0),
  /- 74 keptSteps.row15 -/ .inr (0, 32, 0, 0),
  /- 75 keptSteps.row16 -/ .inr (0, 32, 0, 0),
  /- 76 keptSteps.row17 -/ .inr (0, 32, 0, 0),
  /- 77 keptSteps.row18 -/ .inr (0, 32, 0, 0),
  /- 78 keptSteps.row19 -/ .inr (0, 32, 0, 0),
  /- 79 keptSteps.row20 -/ .inr (0, 32, 0, 0),
  /- 80 keptSteps.row21 -/ .inr (0, 32, 0, 0),
  /- 81 keptSteps.row22 -/ .inr (0, 32, 0, 0),
  /- 82 keptSteps.row23 -/ .inr (0, 32, 0, 0),
  /- 83 keptSteps.row24 -/ .inr (0, 32, 0, 0),
  /- 84 keptSteps.row25 -/ .inr (0, 32, 0, 0),
  /- 85 keptSteps.row26 -/ .inr (0, 32, 0, 0),
  /- 86 keptSteps.row27 -/ .inr (0, 32, 0, 0),
  /- 87 keptSteps.row28 -/ .inr (0, 32, 0, 0),
  /- 88 keptSteps.row29 -/ .inr (0, 32, 0, 0),
  /- 89 scripts -/ .inr (4, 4, 90, 6),
  /- 90 script0 -/ .inl (3, [93, 0, 94, 95, 96, 97, 0]),
  /- 91 script0.codes -/ .inr (0, 300, 0, 0),
  /- 92 script0.from -/ .inr (0, 4, 0, 0),
  /- 93 script0.to -/ .inr (0, 4, 0, 0),
  /- 94 script0.kinds -/ .inr (0, 24, 0, 0),
  /- 95 script0.numbers -/ .inr (0, 72, 0, 0),
  /- 96 script1 -/ .inl (3, [99, 0, 100, 101, 102, 103, 0]),
  /- 97 script1.codes -/ .inr (0, 300, 0, 0),
  /- 98 script1.from -/ .inr (0, 4, 0, 0),
  /- 99 script1.to -/ .inr (0, 4, 0, 0),
  /- 100 script1.kinds -/ .inr (0, 24, 0, 0),
  /- 101 script1.numbers -/ .inr (0, 72, 0, 0),
  /- 102 script2 -/ .inl (3, [105, 0, 106, 107, 108, 109, 0]),
  /- 103 script2.codes -/ .inr (0, 300, 0, 0),
  /- 104 script2.from -/ .inr (0, 4, 0, 0),
  /- 105 script2.to -/ .inr (0, 4, 0, 0),
  /- 106 script2.kinds -/ .inr (0, 24, 0, 0),
  /- 107 script2.numbers -/ .inr (0, 72, 0, 0),
  /- 108 script3 -/ .inl (3, [111, 0, 112, 113, 114, 115, 0]),
  /- 109 script3.codes -/ .inr (0, 300, 0, 0),
  /- 110 script3.from -/ .inr (0, 4, 0, 0),
  /- 111 script3.to -/ .inr (0, 4, 0, 0),
  /- 112 script3.kinds -/ .inr (0, 24, 0, 0),
  /- 113 script3.numbers -/ .inr (0, 72, 0, 0),
  /- 114 reader -/ .inl (2, [117, 0, 118, 119, 120, 0, 0, 0, 0, 0, 0, 0, 0]),
  /- 115 reader.bytes -/ .inr (0, 300, 0, 0),
  /- 116 reader.kinds -/ .inr (0, 301, 0, 0),
  /- 117 reader.places -/ .inr (0, 301, 0, 0),
  /- 118 reader.values -/ .inr (0, 301, 0, 0),
  /- 119 law -/ .inl (1, [3, 91, 122, 123]),
  /- 120 law.names -/ .inr (0, 8, 0, 0),
  /- 121 law.stack -/ .inr (0, 20, 0, 0),
  /- 122 way -/ .inl (6, [3, 121, 125, 126, 0, 0, 0, 1, 1]),
  /- 123 way.houses -/ .inr (0, 12, 0, 0),
  /- 124 way.outs -/ .inr (0, 12, 0, 0),
  /- 125 table -/ .inl (5, [3, 121, 128, 129, 130, 131, 0]),
  /- 126 table.guests -/ .inr (0, 6, 0, 0),
  /- 127 table.order -/ .inr (0, 6, 0, 0),
  /- 128 table.keeps -/ .inr (0, 36, 0, 0),
  /- 129 table.best -/ .inr (0, 64, 0, 0),
  /- 130 weddings -/ .inl (7, [3, 121, 133, 134, 135, 0]),
  /- 131 weddings.minutes -/ .inr (0, 6, 0, 0),
  /- 132 weddings.partner -/ .inr (0, 6, 0, 0),
  /- 133 weddings.bestPartner -/ .inr (0, 6, 0, 0),
  /- 134 m -/ .inl (9, [137, 138, 139, 0, 0, 0, 140, 141, 142, 143, 144, 145, 146, 147, 0, 0, 0, 0, 0, 0, 0, 0, 0, 148, 0, 149, 150, 0, 0, 0, 151, 152, 153, 154, 155, 0, 156, 157, 158, 159, 160, 161, 162, 163, 164, 165, 166, 167, 168]),
  /- 135 m.a -/ .inr (0, 14800, 0, 0),
  /- 136 m.image -/ .inr (0, 14800, 0, 0),
  /- 137 m.tape -/ .inr (1, 300, 0, 0),
  /- 138 m.clauses -/ .inr (0, 4, 0, 0),
  /- 139 m.clauseWord -/ .inr (0, 96, 0, 0),
  /- 140 m.clauseAt -/ .inr (0, 96, 0, 0),
  /- 141 m.clauseOne -/ .inr (0, 96, 0, 0),
  /- 142 m.clauseTwo -/ .inr (0, 96, 0, 0),
  /- 143 m.clauseThree -/ .inr (0, 96, 0, 0),
  /- 144 m.order -/ .inr (0, 1600, 0, 0),
  /- 145 m.value -/ .inr (0, 1600, 0, 0),
  /- 146 m.frame -/ .inr (0, 40, 0, 0),
  /- 147 m.wait -/ .inr (0, 80, 0, 0),
  /- 148 m.waitFrame -/ .inr (0, 80, 0, 0),
  /- 149 m.newWord -/ .inr (0, 24, 0, 0),
  /- 150 m.newAt -/ .inr (0, 24, 0, 0),
  /- 151 m.newOne -/ .inr (0, 24, 0, 0),
  /- 152 m.newTwo -/ .inr (0, 24, 0, 0),
  /- 153 m.newThree -/ .inr (0, 24, 0, 0),
  /- 154 m.newOrder -/ .inr (0, 400, 0, 0),
  /- 155 m.newValue -/ .inr (0, 400, 0, 0),
  /- 156 m.name -/ .inr (0, 8, 0, 0),
  /- 157 m.pile -/ .inr (3, 200, 0, 0),
  /- 158 m.burnsIn -/ .inr (0, 12, 0, 0),
  /- 159 m.outBy -/ .inr (0, 12, 0, 0),
  /- 160 m.comes -/ .inr (0, 6, 0, 0),
  /- 161 m.sits -/ .inr (0, 6, 0, 0),
  /- 162 m.best -/ .inr (0, 6, 0, 0),
  /- 163 m.minutes -/ .inr (0, 6, 0, 0),
  /- 164 m.mate -/ .inr (0, 6, 0, 0),
  /- 165 m.bestMate -/ .inr (0, 6, 0, 0),
  /- 166 m.came -/ .inr (2, 100, 0, 0)]
theorem la_0 : lay[0]? = some (.inl (8, [3, 15, 27, 59, 91, 116, 121, 124, 127, 132])) := by decide +kernel
theorem la_1 : lay[1]? = some (.inl (0, [0, 4, 5, 6, 7, 0, 8, 9, 10, 11, 12, 13, 0, 0, 14, 0, 0])) := by decide +kernel
theorem la_2 : lay[2]? = some (.inr (0, 8, 0, 0)) := by decide +kernel
theorem la_3 : lay[3]? = some (.inr (0, 8, 0, 0)) := by decide +kernel
theorem la_4 : lay[4]? = some (.inr (0, 8, 0, 0)) := by decide +kernel
theorem la_5 : lay[5]? = some (.inr (0, 8, 0, 0)) := by decide +kernel
theorem la_6 : lay[6]? = some (.inr (0, 6, 0, 0)) := by decide +kernel
theorem la_7 : lay[7]? = some (.inr (0, 6, 0, 0)) := by decide +kernel
theorem la_8 : lay[8]? = some (.inr (0, 6, 0, 0)) := by decide +kernel
theorem la_9 : lay[9]? = some (.inr (0, 6, 0, 0)) := by decide +kernel
theorem la_10 : lay[10]? = some (.inr (0, 6, 0, 0)) := by decide +kernel
theorem la_11 : lay[11]? = some (.inr (0, 72, 0, 0)) := by decide +kernel
theorem la_12 : lay[12]? = some (.inr (0, 360, 0, 0)) := by decide +kernel
theorem la_13 : lay[13]? = some (.inl (0, [0, 16, 17, 18, 19, 0, 20, 21, 22, 23, 24, 25, 0, 0, 26, 0, 0])) := by decide +kernel
theorem la_14 : lay[14]? = some (.inr (0, 8, 0, 0)) := by decide +kernel
theorem la_15 : lay[15]? = some (.inr (0, 8, 0, 0)) := by decide +kernel
theorem la_16 : lay[16]? = some (.inr (0, 8, 0, 0)) := by decide +kernel
theorem la_17 : lay[17]? = some (.inr (0, 8, 0, 0)) := by decide +kernel
theorem la_18 : lay[18]? = some (.inr (0, 6, 0, 0)) := by decide +kernel
theorem la_19 : lay[19]? = some (.inr (0, 6, 0, 0)) := by decide +kernel
theorem la_20 : lay[20]? = some (.inr (0, 6, 0, 0)) := by decide +kernel
theorem la_21 : lay[21]? = some (.inr (0, 6, 0, 0)) := by decide +kernel
theorem la_22 : lay[22]? = some (.inr (0, 6, 0, 0)) := by decide +kernel
theorem la_23 : lay[23]? = some (.inr (0, 72, 0, 0)) := by decide +kernel
theorem la_24 : lay[24]? = some (.inr (0, 360, 0, 0)) := by decide +kernel
theorem la_25 : lay[25]? = some (.inl (4, [28, 0, 0])) := by decide +kernel
theorem la_26 : lay[26]? = some (.inr (5, 30, 27, 1)) := by decide +kernel
theorem la_27 : lay[27]? = some (.inr (0, 32, 0, 0)) := by decide +kernel
theorem la_28 : lay[28]? = some (.inr (0, 32, 0, 0)) := by decide +kernel
theorem la_29 : lay[29]? = some (.inr (0, 32, 0, 0)) := by decide +kernel
theorem la_30 : lay[30]? = some (.inr (0, 32, 0, 0)) := by decide +kernel
theorem la_31 : lay[31]? = some (.inr (0, 32, 0, 0)) := by decide +kernel
theorem la_32 : lay[32]? = some (.inr (0, 32, 0, 0)) := by decide +kernel
theorem la_33 : lay[33]? = some (.inr (0, 32, 0, 0)) := by decide +kernel
theorem la_34 : lay[34]? = some (.inr (0, 32, 0, 0)) := by decide +kernel
theorem la_35 : lay[35]? = some (.inr (0, 32, 0, 0)) := by decide +kernel
theorem la_36 : lay[36]? = some (.inr (0, 32, 0, 0)) := by decide +kernel
theorem la_37 : lay[37]? = some (.inr (0, 32, 0, 0)) := by decide +kernel
theorem la_38 : lay[38]? = some (.inr (0, 32, 0, 0)) := by decide +kernel
theorem la_39 : lay[39]? = some (.inr (0, 32, 0, 0)) := by decide +kernel
theorem la_40 : lay[40]? = some (.inr (0, 32, 0, 0)) := by decide +kernel
theorem la_41 : lay[41]? = some (.inr (0, 32, 0, 0)) := by decide +kernel
theorem la_42 : lay[42]? = some (.inr (0, 32, 0, 0)) := by decide +kernel
theorem la_43 : lay[43]? = some (.inr (0, 32, 0, 0)) := by decide +kernel
theorem la_44 : lay[44]? = some (.inr (0, 32, 0, 0)) := by decide +kernel
theorem la_45 : lay[45]? = some (.inr (0, 32, 0, 0)) := by decide +kernel
theorem la_46 : lay[46]? = some (.inr (0, 32, 0, 0)) := by decide +kernel
theorem la_47 : lay[47]? = some (.inr (0, 32, 0, 0)) := by decide +kernel
theorem la_48 : lay[48]? = some (.inr (0, 32, 0, 0)) := by decide +kernel
theorem la_49 : lay[49]? = some (.inr (0, 32, 0, 0)) := by decide +kernel
theorem la_50 : lay[50]? = some (.inr (0, 32, 0, 0)) := by decide +kernel
theorem la_51 : lay[51]? = some (.inr (0, 32, 0, 0)) := by decide +kernel
theorem la_52 : lay[52]? = some (.inr (0, 32, 0, 0)) := by decide +kernel
theorem la_53 : lay[53]? = some (.inr (0, 32, 0, 0)) := by decide +kernel
theorem la_54 : lay[54]? = some (.inr (0, 32, 0, 0)) := by decide +kernel
theorem la_55 : lay[55]? = some (.inr (0, 32, 0, 0)) := by decide +kernel
theorem la_56 : lay[56]? = some (.inr (0, 32, 0, 0)) := by decide +kernel
theorem la_57 : lay[57]? = some (.inl (4, [60, 0, 0])) := by decide +kernel
theorem la_58 : lay[58]? = some (.inr (5, 30, 59, 1)) := by decide +kernel
theorem la_59 : lay[59]? = some (.inr (0, 32, 0, 0)) := by decide +kernel
theorem la_60 : lay[60]? = some (.inr (0, 32, 0, 0)) := by decide +kernel
theorem la_61 : lay[61]? = some (.inr (0, 32, 0, 0)) := by decide +kernel
theorem la_62 : lay[62]? = some (.inr (0, 32, 0, 0)) := by decide +kernel
theorem la_63 : lay[63]? = some (.inr (0, 32, 0, 0)) := by decide +kernel
theorem la_64 : lay[64]? = some (.inr (0, 32, 0, 0)) := by decide +kernel
theorem la_65 : lay[65]? = some (.inr (0, 32, 0, 0)) := by decide +kernel
theorem la_66 : lay[66]? = some (.inr (0, 32, 0, 0)) := by decide +kernel
theorem la_67 : lay[67]? = some (.inr (0, 32, 0, 0)) := by decide +kernel
theorem la_68 : lay[68]? = some (.inr (0, 32, 0, 0)) := by decide +kernel
theorem la_69 : lay[69]? = some (.inr (0, 32, 0, 0)) := by decide +kernel
theorem la_70 : lay[70]? = some (.inr (0, 32, 0, 0)) := by decide +kernel
theorem la_71 : lay[71]? = some (.inr (0, 32, 0, 0)) := by decide +kernel
theorem la_72 : lay[72]? = some (.inr (0, 32, 0, 0)) := by decide +kernel
theorem la_73 : lay[73]? = some (.inr (0, 32, 0, 0)) := by decide +kernel
theorem la_74 : lay[74]? = some (.inr (0, 32, 0, 0)) := by decide +kernel
theorem la_75 : lay[75]? = some (.inr (0, 32, 0, 0)) := by decide +kernel
theorem la_76 : lay[76]? = some (.inr (0, 32, 0, 0)) := by decide +kernel
theorem la_77 : lay[77]? = some (.inr (0, 32, 0, 0)) := by decide +kernel
theorem la_78 : lay[78]? = some (.inr (0, 32, 0, 0)) := by decide +kernel
theorem la_79 : lay[79]? = some (.inr (0, 32, 0, 0)) := by decide +kernel
theorem la_80 : lay[80]? = some (.inr (0, 32, 0, 0)) := by decide +kernel
theorem la_81 : lay[81]? = some (.inr (0, 32, 0, 0)) := by decide +kernel
theorem la_82 : lay[82]? = some (.inr (0, 32, 0, 0)) := by decide +kernel
theorem la_83 : lay[83]? = some (.inr (0, 32, 0, 0)) := by decide +kernel
theorem la_84 : lay[84]? = some (.inr (0, 32, 0, 0)) := by decide +kernel
theorem la_85 : lay[85]? = some (.inr (0, 32, 0, 0)) := by decide +kernel
theorem la_86 : lay[86]? = some (.inr (0, 32, 0, 0)) := by decide +kernel
theorem la_87 : lay[87]? = some (.inr (0, 32, 0, 0)) := by decide +kernel
theorem la_88 : lay[88]? = some (.inr (0, 32, 0, 0)) := by decide +kernel
theorem la_89 : lay[89]? = some (.inr (4, 4, 90, 6)) := by decide +kernel
theorem la_90 : lay[90]? = some (.inl (3, [93, 0, 94, 95, 96, 97, 0])) := by decide +kernel
theorem la_91 : lay[91]? = some (.inr (0, 300, 0, 0)) := by decide +kernel
theorem la_92 : lay[92]? = some (.inr (0, 4, 0, 0)) := by decide +kernel
theorem la_93 : lay[93]? = some (.inr (0, 4, 0, 0)) := by decide +kernel
theorem la_94 : lay[94]? = some (.inr (0, 24, 0, 0)) := by decide +kernel
theorem la_95 : lay[95]? = some (.inr (0, 72, 0, 0)) := by decide +kernel
theorem la_96 : lay[96]? = some (.inl (3, [99, 0, 100, 101, 102, 103, 0])) := by decide +kernel
theorem la_97 : lay[97]? = some (.inr (0, 300, 0, 0)) := by decide +kernel
theorem la_98 : lay[98]? = some (.inr (0, 4, 0, 0)) := by decide +kernel
theorem la_99 : lay[99]? = some (.inr (0, 4, 0, 0)) := by decide +kernel
theorem la_100 : lay[100]? = some (.inr (0, 24, 0, 0)) := by decide +kernel
theorem la_101 : lay[101]? = some (.inr (0, 72, 0, 0)) := by decide +kernel
theorem la_102 : lay[102]? = some (.inl (3, [105, 0, 106, 107, 108, 109, 0])) := by decide +kernel
theorem la_103 : lay[103]? = some (.inr (0, 300, 0, 0)) := by decide +kernel
theorem la_104 : lay[104]? = some (.inr (0, 4, 0, 0)) := by decide +kernel
theorem la_105 : lay[105]? = some (.inr (0, 4, 0, 0)) := by decide +kernel
theorem la_106 : lay[106]? = some (.inr (0, 24, 0, 0)) := by decide +kernel
theorem la_107 : lay[107]? = some (.inr (0, 72, 0, 0)) := by decide +kernel
theorem la_108 : lay[108]? = some (.inl (3, [111, 0, 112, 113, 114, 115, 0])) := by decide +kernel
theorem la_109 : lay[109]? = some (.inr (0, 300, 0, 0)) := by decide +kernel
theorem la_110 : lay[110]? = some (.inr (0, 4, 0, 0)) := by decide +kernel
theorem la_111 : lay[111]? = some (.inr (0, 4, 0, 0)) := by decide +kernel
theorem la_112 : lay[112]? = some (.inr (0, 24, 0, 0)) := by decide +kernel
theorem la_113 : lay[113]? = some (.inr (0, 72, 0, 0)) := by decide +kernel
theorem la_114 : lay[114]? = some (.inl (2, [117, 0, 118, 119, 120, 0, 0, 0, 0, 0, 0, 0, 0])) := by decide +kernel
theorem la_115 : lay[115]? = some (.inr (0, 300, 0, 0)) := by decide +kernel
theorem la_116 : lay[116]? = some (.inr (0, 301, 0, 0)) := by decide +kernel
theorem la_117 : lay[117]? = some (.inr (0, 301, 0, 0)) := by decide +kernel
theorem la_118 : lay[118]? = some (.inr (0, 301, 0, 0)) := by decide +kernel
theorem la_119 : lay[119]? = some (.inl (1, [3, 91, 122, 123])) := by decide +kernel
theorem la_120 : lay[120]? = some (.inr (0, 8, 0, 0)) := by decide +kernel
theorem la_121 : lay[121]? = some (.inr (0, 20, 0, 0)) := by decide +kernel
theorem la_122 : lay[122]? = some (.inl (6, [3, 121, 125, 126, 0, 0, 0, 1, 1])) := by decide +kernel
theorem la_123 : lay[123]? = some (.inr (0, 12, 0, 0)) := by decide +kernel
theorem la_124 : lay[124]? = some (.inr (0, 12, 0, 0)) := by decide +kernel
theorem la_125 : lay[125]? = some (.inl (5, [3, 121, 128, 129, 130, 131, 0])) := by decide +kernel
theorem la_126 : lay[126]? = some (.inr (0, 6, 0, 0)) := by decide +kernel
theorem la_127 : lay[127]? = some (.inr (0, 6, 0, 0)) := by decide +kernel
theorem la_128 : lay[128]? = some (.inr (0, 36, 0, 0)) := by decide +kernel
theorem la_129 : lay[129]? = some (.inr (0, 64, 0, 0)) := by decide +kernel
theorem la_130 : lay[130]? = some (.inl (7, [3, 121, 133, 134, 135, 0])) := by decide +kernel
theorem la_131 : lay[131]? = some (.inr (0, 6, 0, 0)) := by decide +kernel
theorem la_132 : lay[132]? = some (.inr (0, 6, 0, 0)) := by decide +kernel
theorem la_133 : lay[133]? = some (.inr (0, 6, 0, 0)) := by decide +kernel
theorem la_134 : lay[134]? = some (.inl (9, [137, 138, 139, 0, 0, 0, 140, 141, 142, 143, 144, 145, 146, 147, 0, 0, 0, 0, 0, 0, 0, 0, 0, 148, 0, 149, 150, 0, 0, 0, 151, 152, 153, 154, 155, 0, 156, 157, 158, 159, 160, 161, 162, 163, 164, 165, 166, 167, 168])) := by decide +kernel
theorem la_135 : lay[135]? = some (.inr (0, 14800, 0, 0)) := by decide +kernel
theorem la_136 : lay[136]? = some (.inr (0, 14800, 0, 0)) := by decide +kernel
theorem la_137 : lay[137]? = some (.inr (1, 300, 0, 0)) := by decide +kernel
theorem la_138 : lay[138]? = some (.inr (0, 4, 0, 0)) := by decide +kernel
theorem la_139 : lay[139]? = some (.inr (0, 96, 0, 0)) := by decide +kernel
theorem la_140 : lay[140]? = some (.inr (0, 96, 0, 0)) := by decide +kernel
theorem la_141 : lay[141]? = some (.inr (0, 96, 0, 0)) := by decide +kernel
theorem la_142 : lay[142]? = some (.inr (0, 96, 0, 0)) := by decide +kernel
theorem la_143 : lay[143]? = some (.inr (0, 96, 0, 0)) := by decide +kernel
theorem la_144 : lay[144]? = some (.inr (0, 1600, 0, 0)) := by decide +kernel
theorem la_145 : lay[145]? = some (.inr (0, 1600, 0, 0)) := by decide +kernel
theorem la_146 : lay[146]? = some (.inr (0, 40, 0, 0)) := by decide +kernel
theorem la_147 : lay[147]? = some (.inr (0, 80, 0, 0)) := by decide +kernel
theorem la_148 : lay[148]? = some (.inr (0, 80, 0, 0)) := by decide +kernel
theorem la_149 : lay[149]? = some (.inr (0, 24, 0, 0)) := by decide +kernel
theorem la_150 : lay[150]? = some (.inr (0, 24, 0, 0)) := by decide +kernel
theorem la_151 : lay[151]? = some (.inr (0, 24, 0, 0)) := by decide +kernel
theorem la_152 : lay[152]? = some (.inr (0, 24, 0, 0)) := by decide +kernel
theorem la_153 : lay[153]? = some (.inr (0, 24, 0, 0)) := by decide +kernel
theorem la_154 : lay[154]? = some (.inr (0, 400, 0, 0)) := by decide +kernel
theorem la_155 : lay[155]? = some (.inr (0, 400, 0, 0)) := by decide +kernel
theorem la_156 : lay[156]? = some (.inr (0, 8, 0, 0)) := by decide +kernel
theorem la_157 : lay[157]? = some (.inr (3, 200, 0, 0)) := by decide +kernel
theorem la_158 : lay[158]? = some (.inr (0, 12, 0, 0)) := by decide +kernel
theorem la_159 : lay[159]? = some (.inr (0, 12, 0, 0)) := by decide +kernel
theorem la_160 : lay[160]? = some (.inr (0, 6, 0, 0)) := by decide +kernel
theorem la_161 : lay[161]? = some (.inr (0, 6, 0, 0)) := by decide +kernel
theorem la_162 : lay[162]? = some (.inr (0, 6, 0, 0)) := by decide +kernel
theorem la_163 : lay[163]? = some (.inr (0, 6, 0, 0)) := by decide +kernel
theorem la_164 : lay[164]? = some (.inr (0, 6, 0, 0)) := by decide +kernel
theorem la_165 : lay[165]? = some (.inr (0, 6, 0, 0)) := by decide +kernel
theorem la_166 : lay[166]? = some (.inr (2, 100, 0, 0)) := by decide +kernel
theorem lay_len : lay.length = 167 := by decide +kernel
theorem la_row (b n : Nat) (h : (List.range n).all (fun i => decide (lay[b + i]? = some (.inr (0, 32, 0, 0)))) = true) {i : Nat} (hi : i < n) : lay[b + i]? = some (.inr (0, 32, 0, 0)) := by
  have := List.all_eq_true.mp h i (List.mem_range.mpr hi)
  exact of_decide_eq_true this
theorem la_steps {i : Nat} (hi : i < 30) : lay[27 + i]? = some (.inr (0, 32, 0, 0)) := la_row 27 30 (by decide +kernel) hi
theorem la_kept {i : Nat} (hi : i < 30) : lay[59 + i]? = some (.inr (0, 32, 0, 0)) := la_row 59 30 (by decide +kernel) hi
abbrev CL : List vw_C := [(RX0, TX0, 17), (RX1, TX1, 4), (RX2, TX2, 13), (RX3, TX3, 7), (RX4, TX4, 3), (RX5, TX5, 7), (RX6, TX6, 9), (RX7, TX7, 6), (RX8, TX8, 10), (RX9, TX9, 49)]
def fv (w : Wd) (M : Mem) (o k fd : Nat) : Value := match fd with
  | 0 => .int (Int32.ofInt (M o k))
  | 1 => .long (Int64.ofInt (M o k))
  | t + 2 => .ref (w.1 t)
def cof (w : Wd) (M : Mem) (o : Nat) (e : Ent) : va_E := match e with
  | .inl (ci, fds) => .inr (ci, fds.mapIdx (fun k fd => fv w M o k fd))
  | .inr (t, n, b, sd) => .inl (w.2.2 t, n, if t ≤ 2 then .inl (fun k => Int32.ofInt (M o k)) else if t = 3 then .inr (.inl (fun k => Int64.ofInt (M o k))) else .inr (.inr (.inr (.inr (fun k => if k < n then some (w.1 (b + sd * k)) else none)))))
def world (w : Wd) (M : Mem) : va_W := lay.mapIdx (fun o e => (w.1 o, cof w M o e))
theorem world_get {w : Wd} {M : Mem} {o : Nat} {e : Ent} (h : lay[o]? = some e) : (world w M)[o]? = some (w.1 o, cof w M o e) := by
  unfold world
  rw [List.getElem?_mapIdx, h]
  rfl
theorem world_some {w : Wd} {M : Mem} {o : Nat} {q : Nat × va_E} (h : (world w M)[o]? = some q) : ∃ e, lay[o]? = some e ∧ q = (w.1 o, cof w M o e) := by
  unfold world at h
  rw [List.getElem?_mapIdx] at h
  cases he : lay[o]? with
  | none => rw [he] at h; cases h
  | some e => rw [he] at h; exact ⟨e, rfl, (Option.some.inj h).symm⟩
abbrev tys (w : Wd) : List (ClassId × FieldType) := [(w.2.2 0, .int), (w.2.2 1, .byte), (w.2.2 2, .boolean), (w.2.2 3, .long), (w.2.2 4, .object "CandleEnds$Script"), (w.2.2 5, .array .int)]
def InW (w : Wd) : Nat → Prop := fun a => ∃ o, o < lay.length ∧ a = w.1 o
def AdOk (w : Wd) : Prop := ∀ i j, i < lay.length → j < lay.length → w.1 i = w.1 j → i = j
theorem lay_lt {o : Nat} {e : Ent} (h : lay[o]? = some e) : o < lay.length := (List.getElem?_eq_some_iff.mp h).1
theorem world_D {w : Wd} (h : AdOk w) {A : Nat → Prop} (hA : ∀ a, InW w a → A a) (M : Mem) : va_D A (world w M) := by
  refine ⟨fun i j x y hx hy e => ?_, fun k q hq => ?_⟩
  · obtain ⟨e1, h1, rfl⟩ := world_some hx
    obtain ⟨e2, h2, rfl⟩ := world_some hy
    exact h i j (lay_lt h1) (lay_lt h2) e
  · obtain ⟨e1, h1, rfl⟩ := world_some hq
    exact hA _ ⟨k, lay_lt h1, rfl⟩
def cellR (M : Mem) (o : Nat) (e : Ent) : Prop := match e with
  | .inl (_, fds) => ∀ k, (fds[k]? = some 0 → inR (vI (M o k))) ∧ (fds[k]? = some 1 → inR (vL (M o k)))
  | .inr (t, n, _, _) => ∀ k, k < n → (t ≤ 2 → inR (vI (M o k))) ∧ (t = 3 → inR (vL (M o k)))
def RM (M : Mem) : Prop := ∀ o e, lay[o]? = some e → cellR M o e
def up (M : Mem) (o k : Nat) (v : Int) : Mem := fun o' k' => if o' = o ∧ k' = k then v else M o' k'
theorem up_s (M : Mem) (o k : Nat) (v : Int) : up M o k v o k = v := by simp [up]
theorem up_o {M : Mem} {o k o' k' : Nat} {v : Int} (h : o' ≠ o) : up M o k v o' k' = M o' k' := by simp [up, h]
theorem up_k {M : Mem} {o k o' k' : Nat} {v : Int} (h : k' ≠ k) : up M o k v o' k' = M o' k' := by simp [up, h]
theorem up_row {M : Mem} {o k : Nat} {v : Int} {o' : Nat} (h : o' ≠ o) : (up M o k v) o' = M o' := funext fun k' => up_o h
theorem RM.upF {M : Mem} {o k ci : Nat} {fds : List Nat} {v : Int} (h : RM M) (hl : lay[o]? = some (.inl (ci, fds))) (h0 : fds[k]? = some 0 → inR (vI v)) (h1 : fds[k]? = some 1 → inR (vL v)) : RM (up M o k v) := by
  intro o' e' he'
  have hc := h o' e' he'
  by_cases e : o' = o
  · subst e
    rw [hl] at he'
    cases he'
    intro k'
    by_cases ek : k' = k
    · subst ek
      rw [up_s]
      exact ⟨h0, h1⟩
    · rw [up_k ek]
      exact hc k'
  · cases e' with
    | inl x =>
      intro k'
      rw [up_o e]
      exact hc k'
    | inr x =>
      intro k' hk'
      rw [up_o e]
      exact hc k' hk'
theorem RM.upA {M : Mem} {o k t n b sd : Nat} {v : Int} (h : RM M) (hl : lay[o]? = some (.inr (t, n, b, sd))) (h0 : t ≤ 2 → inR (vI v)) (h1 : t = 3 → inR (vL v)) : RM (up M o k v) := by
  intro o' e' he'
  have hc := h o' e' he'
  by_cases e : o' = o
  · subst e
    rw [hl] at he'
    cases he'
    intro k' hk'
    by_cases ek : k' = k
    · subst ek
      rw [up_s]
      exact ⟨h0, h1⟩
    · rw [up_k ek]
      exact hc k' hk'
  · cases e' with
    | inl x =>
      intro k'
      rw [up_o e]
      exact hc k'
    | inr x =>
      intro k' hk'
      rw [up_o e]
      exact hc k' hk'
theorem cof_o {w : Wd} {M : Mem} {o k o' : Nat} {v : Int} {e : Ent} (h : o' ≠ o) : cof w (up M o k v) o' e = cof w M o' e := by
  have hr : (up M o k v) o' = M o' := up_row h
  unfold cof fv
  simp only [hr]
theorem world_up {w : Wd} {M : Mem} {o k : Nat} {v : Int} {e : Ent} {c : va_E} (hl : lay[o]? = some e) (hc : cof w (up M o k v) o e = c) : world w (up M o k v) = (world w M).set o (w.1 o, c) := by
  apply List.ext_getElem?
  intro i
  rw [List.getElem?_set]
  by_cases hi : o = i
  · subst hi
    have hlt : o < (world w M).length := by unfold world; rw [List.length_mapIdx]; exact lay_lt hl
    simp only [if_true, hlt]
    rw [world_get hl, hc]
  · rw [if_neg hi]
    unfold world
    rw [List.getElem?_mapIdx, List.getElem?_mapIdx]
    cases lay[i]? with
    | none => rfl
    | some e' =>
      simp only [Option.map_some]
      rw [cof_o (fun h => hi h.symm)]
/-! numbers -/
theorem i32_to {x : Int} (h : inR (vI x)) : (Int32.ofInt x).toInt = x := Int32.toInt_ofInt_of_le h.1 (by have := h.2; omega)
theorem i64_to {x : Int} (h : inR (vL x)) : (Int64.ofInt x).toInt = x := Int64.toInt_ofInt_of_le h.1 (by have := h.2; omega)
theorem i32_le {x y : Int} (hx : inR (vI x)) (hy : inR (vI y)) : Int32.ofInt x ≤ Int32.ofInt y ↔ x ≤ y := by rw [Int32.le_iff_toInt_le, i32_to hx, i32_to hy]
theorem i32_lt {x y : Int} (hx : inR (vI x)) (hy : inR (vI y)) : Int32.ofInt x < Int32.ofInt y ↔ x < y := by rw [Int32.lt_iff_toInt_lt, i32_to hx, i32_to hy]
theorem i32_eq {x y : Int} (hx : inR (vI x)) (hy : inR (vI y)) : Int32.ofInt x = Int32.ofInt y ↔ x = y := by rw [← Int32.toInt_inj, i32_to hx, i32_to hy]
theorem i64_le {x y : Int} (hx : inR (vL x)) (hy : inR (vL y)) : Int64.ofInt x ≤ Int64.ofInt y ↔ x ≤ y := by rw [Int64.le_iff_toInt_le, i64_to hx, i64_to hy]
theorem i64_lt {x y : Int} (hx : inR (vL x)) (hy : inR (vL y)) : Int64.ofInt x < Int64.ofInt y ↔ x < y := by rw [Int64.lt_iff_toInt_lt, i64_to hx, i64_to hy]
theorem i64_eq {x y : Int} (hx : inR (vL x)) (hy : inR (vL y)) : Int64.ofInt x = Int64.ofInt y ↔ x = y := by rw [← Int64.toInt_inj, i64_to hx, i64_to hy]
theorem i32_r (z : Int32) : inR (vI z.toInt) := ⟨z.le_toInt, by have := z.toInt_lt; show z.toInt ≤ 2147483647; omega⟩
theorem i64_r (z : Int64) : inR (vL z.toInt) := ⟨z.le_toInt, by have := z.toInt_lt; show z.toInt ≤ 9223372036854775807; omega⟩
theorem r0 : inR (vI 0) := ⟨by decide, by decide⟩
theorem i32_div {x y : Int} (hx : inR (vI x)) (hy : inR (vI y)) (hr : inR (vI (x.tdiv y))) : Int32.ofInt x / Int32.ofInt y = Int32.ofInt (x.tdiv y) := by
  rw [← Int32.toInt_inj, Int32.toInt_div, i32_to hx, i32_to hy, Int32.toInt_ofInt]
theorem i32_rem {x y : Int} (hx : inR (vI x)) (hy : inR (vI y)) (hr : inR (vI (x.tmod y))) : Int32.ofInt x - Int32.ofInt x / Int32.ofInt y * Int32.ofInt y = Int32.ofInt (x.tmod y) := by
  rw [← Int32.toInt_inj, rem_toInt, i32_to hx, i32_to hy, i32_to hr]
theorem i64_div {x y : Int} (hx : inR (vL x)) (hy : inR (vL y)) (hr : inR (vL (x.tdiv y))) : Int64.ofInt x / Int64.ofInt y = Int64.ofInt (x.tdiv y) := by
  rw [← Int64.toInt_inj, Int64.toInt_div, i64_to hx, i64_to hy, Int64.toInt_ofInt]
theorem i64_rem {x y : Int} (hx : inR (vL x)) (hy : inR (vL y)) (hr : inR (vL (x.tmod y))) : Int64.ofInt x - Int64.ofInt x / Int64.ofInt y * Int64.ofInt y = Int64.ofInt (x.tmod y) := by
  have h : Int64.ofInt x - Int64.ofInt x / Int64.ofInt y * Int64.ofInt y = Int64.ofInt x % Int64.ofInt y := by
    generalize Int64.ofInt x = a
    generalize Int64.ofInt y = b
    apply Int64.toInt_inj.mp
    have h1 := Int64.le_toInt (a % b)
    have h2 := Int64.toInt_lt (a % b)
    rw [Int64.toInt_sub, Int64.toInt_mul, Int64.toInt_div, Int.bmod_mul_bmod, Int.sub_bmod_bmod, Int.mul_comm (a.toInt.tdiv b.toInt), ← Int.tmod_def, ← Int64.toInt_mod]
    exact Int.bmod_eq_of_le_mul_two (by omega) (by omega)
  rw [h, ← Int64.toInt_inj, Int64.toInt_mod, i64_to hx, i64_to hy, i64_to hr]
theorem i32_nn {x : Int} {n : Nat} (h0 : 0 ≤ x) (h1 : x < (n : Int)) (hx : inR (vI x)) : vp_in (Int32.ofInt x) n := by
  rw [vp_in_iff, i32_to hx]
  exact ⟨h0, h1⟩
theorem i32_cl {x : Int} (h0 : 0 ≤ x) (hx : inR (vI x)) : (Int32.ofInt x).toNatClampNeg = x.toNat := by
  show (Int32.ofInt x).toInt.toNat = x.toNat
  rw [i32_to hx]
/-! bits, as the machine does them -/
def bAnd (x y : Int) : Int := (Int32.ofInt x &&& Int32.ofInt y).toInt
def bOr (x y : Int) : Int := (Int32.ofInt x ||| Int32.ofInt y).toInt
def bXor (x y : Int) : Int := (Int32.ofInt x ^^^ Int32.ofInt y).toInt
def bShl (x y : Int) : Int := (Int32.ofInt x <<< (Int32.ofInt y &&& 31)).toInt
def bShr (x y : Int) : Int := (Int32.ofInt x >>> (Int32.ofInt y &&& 31)).toInt
def bUsr (x y : Int) : Int := ((Int32.ofInt x).toUInt32 >>> ((Int32.ofInt y).toUInt32 &&& Int32.toUInt32 31)).toInt32.toInt
def bByte (x : Int) : Int := (Int32.ofInt x).toInt8.toInt32.toInt
def cmpL (x y : Int) : Int := if y < x then 1 else if x = y then 0 else -1
