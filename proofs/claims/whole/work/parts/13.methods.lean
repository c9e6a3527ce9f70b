theorem okmX0_init : OkI mX0_init := ⟨⟨(wg1 151 rfl rfl), (wg1 9 rfl rfl), by decide +kernel, by decide +kernel⟩, (wg1 150 rfl rfl), rfl⟩
theorem okmX0_fillPlan : OkV mX0_fillPlan := ⟨⟨(wg3 179 rfl rfl), (wg1 9 rfl rfl), by decide +kernel, by decide +kernel⟩, (wg3 178 rfl rfl), (wp2 7 rfl)⟩
theorem okmX0_skipTell : OkV mX0_skipTell := ⟨⟨(wg4 22 rfl rfl), (wg1 9 rfl rfl), by decide +kernel, by decide +kernel⟩, (wg4 21 rfl rfl), (wp3 7 rfl)⟩
theorem okmX0_fillTell : OkV mX0_fillTell := ⟨⟨(wg3 185 rfl rfl), (wg1 9 rfl rfl), by decide +kernel, by decide +kernel⟩, (wg3 184 rfl rfl), (wp2 8 rfl)⟩
theorem okmX0_fillRow : OkV mX0_fillRow := ⟨⟨(wg3 189 rfl rfl), (wg1 9 rfl rfl), by decide +kernel, by decide +kernel⟩, (wg3 188 rfl rfl), (wp2 9 rfl)⟩
theorem okmX0_fillHolding : OkV mX0_fillHolding := ⟨⟨(wg3 210 rfl rfl), (wg1 9 rfl rfl), by decide +kernel, by decide +kernel⟩, (wg3 209 rfl rfl), (wp2 12 rfl)⟩
theorem okmX0_fillUse : OkV mX0_fillUse := ⟨⟨(wg3 226 rfl rfl), (wg1 9 rfl rfl), by decide +kernel, by decide +kernel⟩, (wg3 225 rfl rfl), (wp3 0 rfl)⟩
theorem okmX0_fillBank : OkV mX0_fillBank := ⟨⟨(wg3 230 rfl rfl), (wg1 9 rfl rfl), by decide +kernel, by decide +kernel⟩, (wg3 229 rfl rfl), (wp3 1 rfl)⟩
theorem okmX0_number : OkV mX0_number := ⟨⟨(wg3 222 rfl rfl), (wg1 9 rfl rfl), by decide +kernel, by decide +kernel⟩, (wg3 221 rfl rfl), (wp2 15 rfl)⟩
theorem okmX0_checkNew : OkV mX0_checkNew := ⟨⟨(wg3 214 rfl rfl), (wg1 9 rfl rfl), by decide +kernel, by decide +kernel⟩, (wg3 213 rfl rfl), (wp2 13 rfl)⟩
theorem okmX0_holdingNamed : OkV mX0_holdingNamed := ⟨⟨(wg3 218 rfl rfl), (wg1 9 rfl rfl), by decide +kernel, by decide +kernel⟩, (wg3 217 rfl rfl), (wp2 14 rfl)⟩
theorem okmX0_ownerOf : OkS mX0_ownerOf := ⟨⟨(wg3 202 rfl rfl), (wg1 9 rfl rfl), by decide +kernel, by decide +kernel⟩, (wg3 201 rfl rfl)⟩
theorem okmX1_init : OkI mX1_init := ⟨⟨(wg1 183 rfl rfl), (wg1 11 rfl rfl), by decide +kernel, by decide +kernel⟩, (wg1 182 rfl rfl), rfl⟩
theorem okmX1_begin : OkV mX1_begin := ⟨⟨(wg2 193 rfl rfl), (wg1 11 rfl rfl), by decide +kernel, by decide +kernel⟩, (wg2 192 rfl rfl), (wp1 4 rfl)⟩
theorem okmX1_copyFrom : OkV mX1_copyFrom := ⟨⟨(wg4 126 rfl rfl), (wg1 11 rfl rfl), by decide +kernel, by decide +kernel⟩, (wg4 125 rfl rfl), (wp4 9 rfl)⟩
theorem okmX1_fogOnLand : OkV mX1_fogOnLand := ⟨⟨(wg4 212 rfl rfl), (wg1 11 rfl rfl), by decide +kernel, by decide +kernel⟩, (wg4 211 rfl rfl), (wp5 3 rfl)⟩
theorem okmX1_fogOf : OkV mX1_fogOf := ⟨⟨(wg4 89 rfl rfl), (wg1 11 rfl rfl), by decide +kernel, by decide +kernel⟩, (wg4 88 rfl rfl), (wp4 2 rfl)⟩
theorem okmX1_cellsOf : OkV mX1_cellsOf := ⟨⟨(wg4 85 rfl rfl), (wg1 11 rfl rfl), by decide +kernel, by decide +kernel⟩, (wg4 84 rfl rfl), (wp4 1 rfl)⟩
theorem okmX1_cellsWithoutFog : OkV mX1_cellsWithoutFog := ⟨⟨(wg5 187 rfl rfl), (wg1 11 rfl rfl), by decide +kernel, by decide +kernel⟩, (wg5 186 rfl rfl), (wp6 12 rfl)⟩
theorem okmX1_thickestCell : OkV mX1_thickestCell := ⟨⟨(wg4 227 rfl rfl), (wg1 11 rfl rfl), by decide +kernel, by decide +kernel⟩, (wg4 226 rfl rfl), (wp5 5 rfl)⟩
theorem okmX1_asThick : OkV mX1_asThick := ⟨⟨(wg5 33 rfl rfl), (wg1 11 rfl rfl), by decide +kernel, by decide +kernel⟩, (wg5 32 rfl rfl), (wp5 8 rfl)⟩
theorem okmX1_isHidden : OkV mX1_isHidden := ⟨⟨(wg5 13 rfl rfl), (wg1 11 rfl rfl), by decide +kernel, by decide +kernel⟩, (wg5 12 rfl rfl), (wp5 7 rfl)⟩
theorem okmX1_storeOf : OkV mX1_storeOf := ⟨⟨(wg4 219 rfl rfl), (wg1 11 rfl rfl), by decide +kernel, by decide +kernel⟩, (wg4 218 rfl rfl), (wp5 4 rfl)⟩
theorem okmX1_loan : OkV mX1_loan := ⟨⟨(wg4 101 rfl rfl), (wg1 11 rfl rfl), by decide +kernel, by decide +kernel⟩, (wg4 100 rfl rfl), (wp4 5 rfl)⟩
theorem okmX1_addLoan : OkV mX1_addLoan := ⟨⟨(wg4 139 rfl rfl), (wg1 11 rfl rfl), by decide +kernel, by decide +kernel⟩, (wg4 138 rfl rfl), (wp4 11 rfl)⟩
theorem okmX1_netted : OkV mX1_netted := ⟨⟨(wg4 97 rfl rfl), (wg1 11 rfl rfl), by decide +kernel, by decide +kernel⟩, (wg4 96 rfl rfl), (wp4 4 rfl)⟩
theorem okmX2_init : OkI mX2_init := ⟨⟨(wg1 138 rfl rfl), (wg1 8 rfl rfl), by decide +kernel, by decide +kernel⟩, (wg1 137 rfl rfl), rfl⟩
theorem okmX2_check : OkV mX2_check := ⟨⟨(wg3 126 rfl rfl), (wg1 8 rfl rfl), by decide +kernel, by decide +kernel⟩, (wg3 125 rfl rfl), (wp1 14 rfl)⟩
theorem okmX2_checkTell : OkV mX2_checkTell := ⟨⟨(wg3 132 rfl rfl), (wg1 8 rfl rfl), by decide +kernel, by decide +kernel⟩, (wg3 131 rfl rfl), (wp1 15 rfl)⟩
theorem okmX2_countTell : OkV mX2_countTell := ⟨⟨(wg3 144 rfl rfl), (wg1 8 rfl rfl), by decide +kernel, by decide +kernel⟩, (wg3 143 rfl rfl), (wp2 2 rfl)⟩
theorem okmX2_checkLaw : OkV mX2_checkLaw := ⟨⟨(wg3 155 rfl rfl), (wg1 8 rfl rfl), by decide +kernel, by decide +kernel⟩, (wg3 154 rfl rfl), (wp2 4 rfl)⟩
theorem okmX2_checkSum : OkV mX2_checkSum := ⟨⟨(wg3 159 rfl rfl), (wg1 8 rfl rfl), by decide +kernel, by decide +kernel⟩, (wg3 158 rfl rfl), (wp2 5 rfl)⟩
theorem okmX2_takeMany : OkV mX2_takeMany := ⟨⟨(wg3 172 rfl rfl), (wg1 8 rfl rfl), by decide +kernel, by decide +kernel⟩, (wg3 171 rfl rfl), (wp2 6 rfl)⟩
theorem okmX2_take : OkV mX2_take := ⟨⟨(wg3 151 rfl rfl), (wg1 8 rfl rfl), by decide +kernel, by decide +kernel⟩, (wg3 150 rfl rfl), (wp2 3 rfl)⟩
theorem okmX2_isUnit : OkS mX2_isUnit := ⟨⟨(wg3 162 rfl rfl), (wg1 8 rfl rfl), by decide +kernel, by decide +kernel⟩, (wg3 161 rfl rfl)⟩
theorem okmX2_isOperator : OkS mX2_isOperator := ⟨⟨(wg3 165 rfl rfl), (wg1 8 rfl rfl), by decide +kernel, by decide +kernel⟩, (wg3 164 rfl rfl)⟩
theorem okmX2_namesOf : OkS mX2_namesOf := ⟨⟨(wg3 168 rfl rfl), (wg1 8 rfl rfl), by decide +kernel, by decide +kernel⟩, (wg3 167 rfl rfl)⟩
theorem okmX2_numbersOf : OkS mX2_numbersOf := ⟨⟨(wg3 175 rfl rfl), (wg1 8 rfl rfl), by decide +kernel, by decide +kernel⟩, (wg3 174 rfl rfl)⟩
theorem okmX2_mostOf : OkS mX2_mostOf := ⟨⟨(wg3 147 rfl rfl), (wg1 8 rfl rfl), by decide +kernel, by decide +kernel⟩, (wg3 146 rfl rfl)⟩
theorem okmX3_init : OkI mX3_init := ⟨⟨(wg2 33 rfl rfl), (wg1 14 rfl rfl), by decide +kernel, by decide +kernel⟩, (wg2 32 rfl rfl), rfl⟩
theorem okmX3_post : OkV mX3_post := ⟨⟨(wg5 51 rfl rfl), (wg1 14 rfl rfl), by decide +kernel, by decide +kernel⟩, (wg5 50 rfl rfl), (wp5 10 rfl)⟩
theorem okmX3_watchedAt : OkV mX3_watchedAt := ⟨⟨(wg5 77 rfl rfl), (wg1 14 rfl rfl), by decide +kernel, by decide +kernel⟩, (wg5 76 rfl rfl), (wp6 0 rfl)⟩
theorem okmX3_postOne : OkV mX3_postOne := ⟨⟨(wg5 61 rfl rfl), (wg1 14 rfl rfl), by decide +kernel, by decide +kernel⟩, (wg5 60 rfl rfl), (wp5 12 rfl)⟩
theorem okmX3_postTwo : OkV mX3_postTwo := ⟨⟨(wg5 69 rfl rfl), (wg1 14 rfl rfl), by decide +kernel, by decide +kernel⟩, (wg5 68 rfl rfl), (wp5 14 rfl)⟩
theorem okmX3_postThree : OkV mX3_postThree := ⟨⟨(wg5 73 rfl rfl), (wg1 14 rfl rfl), by decide +kernel, by decide +kernel⟩, (wg5 72 rfl rfl), (wp5 15 rfl)⟩
theorem okmX3_canBeWatched : OkV mX3_canBeWatched := ⟨⟨(wg5 65 rfl rfl), (wg1 14 rfl rfl), by decide +kernel, by decide +kernel⟩, (wg5 64 rfl rfl), (wp5 13 rfl)⟩
theorem okmX3_cuts : OkV mX3_cuts := ⟨⟨(wg5 55 rfl rfl), (wg1 14 rfl rfl), by decide +kernel, by decide +kernel⟩, (wg5 54 rfl rfl), (wp5 11 rfl)⟩
theorem okmX4_init : OkI mX4_init := ⟨⟨(wg1 238 rfl rfl), (wg1 13 rfl rfl), by decide +kernel, by decide +kernel⟩, (wg1 237 rfl rfl), rfl⟩
theorem okmX4_knows : OkV mX4_knows := ⟨⟨(wg5 124 rfl rfl), (wg1 13 rfl rfl), by decide +kernel, by decide +kernel⟩, (wg5 123 rfl rfl), (wp6 3 rfl)⟩
theorem okmX4_add : OkV mX4_add := ⟨⟨(wg5 112 rfl rfl), (wg1 13 rfl rfl), by decide +kernel, by decide +kernel⟩, (wg5 111 rfl rfl), (wp6 2 rfl)⟩
theorem okmX4_weigh : OkV mX4_weigh := ⟨⟨(wg5 128 rfl rfl), (wg1 13 rfl rfl), by decide +kernel, by decide +kernel⟩, (wg5 127 rfl rfl), (wp6 4 rfl)⟩
theorem okmX4_agrees : OkV mX4_agrees := ⟨⟨(wg5 138 rfl rfl), (wg1 13 rfl rfl), by decide +kernel, by decide +kernel⟩, (wg5 137 rfl rfl), (wp6 6 rfl)⟩
theorem okmX4_keepFog : OkV mX4_keepFog := ⟨⟨(wg5 142 rfl rfl), (wg1 13 rfl rfl), by decide +kernel, by decide +kernel⟩, (wg5 141 rfl rfl), (wp6 7 rfl)⟩
theorem okmX4_firstLeft : OkV mX4_firstLeft := ⟨⟨(wg5 151 rfl rfl), (wg1 13 rfl rfl), by decide +kernel, by decide +kernel⟩, (wg5 150 rfl rfl), (wp6 8 rfl)⟩
theorem okmX4_bestCell : OkV mX4_bestCell := ⟨⟨(wg5 159 rfl rfl), (wg1 13 rfl rfl), by decide +kernel, by decide +kernel⟩, (wg5 158 rfl rfl), (wp6 9 rfl)⟩
theorem okmX4_mostAlike : OkV mX4_mostAlike := ⟨⟨(wg5 163 rfl rfl), (wg1 13 rfl rfl), by decide +kernel, by decide +kernel⟩, (wg5 162 rfl rfl), (wp6 10 rfl)⟩
theorem okmX5_init : OkI mX5_init := ⟨⟨(wg2 58 rfl rfl), (wg1 16 rfl rfl), by decide +kernel, by decide +kernel⟩, (wg2 57 rfl rfl), rfl⟩
theorem okmX5_clear : OkV mX5_clear := ⟨⟨(wg2 93 rfl rfl), (wg1 16 rfl rfl), by decide +kernel, by decide +kernel⟩, (wg2 92 rfl rfl), (wp1 1 rfl)⟩
theorem okmX5_make : OkV mX5_make := ⟨⟨(wg3 235 rfl rfl), (wg1 16 rfl rfl), by decide +kernel, by decide +kernel⟩, (wg3 234 rfl rfl), (wp3 2 rfl)⟩
theorem okmX5_makePart : OkV mX5_makePart := ⟨⟨(wg4 13 rfl rfl), (wg1 16 rfl rfl), by decide +kernel, by decide +kernel⟩, (wg4 12 rfl rfl), (wp3 5 rfl)⟩
theorem okmX5_addWaiting : OkV mX5_addWaiting := ⟨⟨(wg4 0 rfl rfl), (wg1 16 rfl rfl), by decide +kernel, by decide +kernel⟩, (wg3 239 rfl rfl), (wp3 3 rfl)⟩
theorem okmX5_push : OkV mX5_push := ⟨⟨(wg4 17 rfl rfl), (wg1 16 rfl rfl), by decide +kernel, by decide +kernel⟩, (wg4 16 rfl rfl), (wp3 6 rfl)⟩
theorem okmX5_startLaw : OkV mX5_startLaw := ⟨⟨(wg2 97 rfl rfl), (wg1 16 rfl rfl), by decide +kernel, by decide +kernel⟩, (wg2 96 rfl rfl), (wp1 2 rfl)⟩
theorem okmX5_add : OkV mX5_add := ⟨⟨(wg2 101 rfl rfl), (wg1 16 rfl rfl), by decide +kernel, by decide +kernel⟩, (wg2 100 rfl rfl), (wp1 3 rfl)⟩
theorem okmX5_aim : OkV mX5_aim := ⟨⟨(wg4 7 rfl rfl), (wg1 16 rfl rfl), by decide +kernel, by decide +kernel⟩, (wg4 6 rfl rfl), (wp3 4 rfl)⟩
theorem okmX5_rank : OkS mX5_rank := ⟨⟨(wg4 3 rfl rfl), (wg1 16 rfl rfl), by decide +kernel, by decide +kernel⟩, (wg4 2 rfl rfl)⟩
theorem okmX5_clearVars : OkV mX5_clearVars := ⟨⟨(wg4 54 rfl rfl), (wg1 16 rfl rfl), by decide +kernel, by decide +kernel⟩, (wg4 53 rfl rfl), (wp3 13 rfl)⟩
theorem okmX5_answer : OkV mX5_answer := ⟨⟨(wg4 58 rfl rfl), (wg1 16 rfl rfl), by decide +kernel, by decide +kernel⟩, (wg4 57 rfl rfl), (wp3 14 rfl)⟩
theorem okmX5_joined : OkS mX5_joined := ⟨⟨(wg4 62 rfl rfl), (wg1 16 rfl rfl), by decide +kernel, by decide +kernel⟩, (wg4 61 rfl rfl)⟩
theorem okmX6_init : OkI mX6_init := ⟨⟨(wg1 218 rfl rfl), (wg1 12 rfl rfl), by decide +kernel, by decide +kernel⟩, (wg1 217 rfl rfl), rfl⟩
theorem okmX6_empty : OkV mX6_empty := ⟨⟨(wg4 34 rfl rfl), (wg1 12 rfl rfl), by decide +kernel, by decide +kernel⟩, (wg4 33 rfl rfl), (wp3 10 rfl)⟩
theorem okmX6_keep : OkV mX6_keep := ⟨⟨(wg4 122 rfl rfl), (wg1 12 rfl rfl), by decide +kernel, by decide +kernel⟩, (wg4 121 rfl rfl), (wp4 8 rfl)⟩
theorem okmX6_giveBack : OkV mX6_giveBack := ⟨⟨(wg4 197 rfl rfl), (wg1 12 rfl rfl), by decide +kernel, by decide +kernel⟩, (wg4 196 rfl rfl), (wp5 2 rfl)⟩
theorem okmX7_init : OkI mX7_init := ⟨⟨(wg2 52 rfl rfl), (wg1 15 rfl rfl), by decide +kernel, by decide +kernel⟩, (wg2 51 rfl rfl), rfl⟩
theorem okmX7_clear : OkV mX7_clear := ⟨⟨(wg2 86 rfl rfl), (wg1 15 rfl rfl), by decide +kernel, by decide +kernel⟩, (wg2 85 rfl rfl), (wp1 0 rfl)⟩
theorem okmX7_putCell : OkV mX7_putCell := ⟨⟨(wg3 206 rfl rfl), (wg1 15 rfl rfl), by decide +kernel, by decide +kernel⟩, (wg3 205 rfl rfl), (wp2 11 rfl)⟩
theorem okmX7_cellAt : OkV mX7_cellAt := ⟨⟨(wg4 46 rfl rfl), (wg1 15 rfl rfl), by decide +kernel, by decide +kernel⟩, (wg4 45 rfl rfl), (wp3 11 rfl)⟩
theorem okmX7_toldCell : OkV mX7_toldCell := ⟨⟨(wg5 46 rfl rfl), (wg1 15 rfl rfl), by decide +kernel, by decide +kernel⟩, (wg5 45 rfl rfl), (wp5 9 rfl)⟩
theorem okmX7_isLand : OkV mX7_isLand := ⟨⟨(wg5 133 rfl rfl), (wg1 15 rfl rfl), by decide +kernel, by decide +kernel⟩, (wg5 132 rfl rfl), (wp6 5 rfl)⟩
theorem okmX7_hasHolding : OkV mX7_hasHolding := ⟨⟨(wg4 80 rfl rfl), (wg1 15 rfl rfl), by decide +kernel, by decide +kernel⟩, (wg4 79 rfl rfl), (wp4 0 rfl)⟩
theorem okmX7_hasHoldingsOfAllCells : OkV mX7_hasHoldingsOfAllCells := ⟨⟨(wg4 26 rfl rfl), (wg1 15 rfl rfl), by decide +kernel, by decide +kernel⟩, (wg4 25 rfl rfl), (wp3 8 rfl)⟩
theorem okmX7_hasUse : OkV mX7_hasUse := ⟨⟨(wg4 109 rfl rfl), (wg1 15 rfl rfl), by decide +kernel, by decide +kernel⟩, (wg4 108 rfl rfl), (wp4 6 rfl)⟩
theorem okmX7_isHourOf : OkV mX7_isHourOf := ⟨⟨(wg4 113 rfl rfl), (wg1 15 rfl rfl), by decide +kernel, by decide +kernel⟩, (wg4 112 rfl rfl), (wp4 7 rfl)⟩
theorem okmX8_init : OkI mX8_init := ⟨⟨(wg1 173 rfl rfl), (wg1 10 rfl rfl), by decide +kernel, by decide +kernel⟩, (wg1 172 rfl rfl), rfl⟩
theorem okmX8_passHour : OkV mX8_passHour := ⟨⟨(wg4 156 rfl rfl), (wg1 10 rfl rfl), by decide +kernel, by decide +kernel⟩, (wg4 155 rfl rfl), (wp4 13 rfl)⟩
theorem okmX8_beginHour : OkV mX8_beginHour := ⟨⟨(wg4 50 rfl rfl), (wg1 10 rfl rfl), by decide +kernel, by decide +kernel⟩, (wg4 49 rfl rfl), (wp3 12 rfl)⟩
theorem okmX8_isGust : OkV mX8_isGust := ⟨⟨(wg4 175 rfl rfl), (wg1 10 rfl rfl), by decide +kernel, by decide +kernel⟩, (wg4 174 rfl rfl), (wp4 15 rfl)⟩
theorem okmX8_mixed : OkS mX8_mixed := ⟨⟨(wg4 178 rfl rfl), (wg1 10 rfl rfl), by decide +kernel, by decide +kernel⟩, (wg4 177 rfl rfl)⟩
theorem okmX8_step : OkV mX8_step := ⟨⟨(wg4 161 rfl rfl), (wg1 10 rfl rfl), by decide +kernel, by decide +kernel⟩, (wg4 160 rfl rfl), (wp4 14 rfl)⟩
theorem okmX8_thinAll : OkV mX8_thinAll := ⟨⟨(wg4 183 rfl rfl), (wg1 10 rfl rfl), by decide +kernel, by decide +kernel⟩, (wg4 182 rfl rfl), (wp5 0 rfl)⟩
theorem okmX8_ofCell : OkV mX8_ofCell := ⟨⟨(wg4 67 rfl rfl), (wg1 10 rfl rfl), by decide +kernel, by decide +kernel⟩, (wg4 66 rfl rfl), (wp3 15 rfl)⟩
theorem okmX8_giveAll : OkV mX8_giveAll := ⟨⟨(wg4 187 rfl rfl), (wg1 10 rfl rfl), by decide +kernel, by decide +kernel⟩, (wg4 186 rfl rfl), (wp5 1 rfl)⟩
theorem okmX9_init : OkI mX9_init := ⟨⟨(wg1 32 rfl rfl), (wg1 2 rfl rfl), by decide +kernel, by decide +kernel⟩, (wg1 31 rfl rfl), rfl⟩
theorem okmX9_putWord : OkV mX9_putWord := ⟨⟨(wg3 8 rfl rfl), (wg1 2 rfl rfl), by decide +kernel, by decide +kernel⟩, (wg3 7 rfl rfl), (wp1 5 rfl)⟩
theorem okmX9_byteAt : OkV mX9_byteAt := ⟨⟨(wg3 27 rfl rfl), (wg1 2 rfl rfl), by decide +kernel, by decide +kernel⟩, (wg3 26 rfl rfl), (wp1 7 rfl)⟩
theorem okmX10_init : OkI mX10_init := ⟨⟨(wg1 48 rfl rfl), (wg1 3 rfl rfl), by decide +kernel, by decide +kernel⟩, (wg1 47 rfl rfl), rfl⟩
theorem okmX10_scan : OkV mX10_scan := ⟨⟨(wg3 20 rfl rfl), (wg1 3 rfl rfl), by decide +kernel, by decide +kernel⟩, (wg3 19 rfl rfl), (wp1 6 rfl)⟩
theorem okmX10_fail : OkV mX10_fail := ⟨⟨(wg3 140 rfl rfl), (wg1 3 rfl rfl), by decide +kernel, by decide +kernel⟩, (wg3 139 rfl rfl), (wp2 1 rfl)⟩
theorem okmX10_kindAt : OkV mX10_kindAt := ⟨⟨(wg3 122 rfl rfl), (wg1 3 rfl rfl), by decide +kernel, by decide +kernel⟩, (wg3 121 rfl rfl), (wp1 13 rfl)⟩
theorem okmX10_valueAt : OkV mX10_valueAt := ⟨⟨(wg3 193 rfl rfl), (wg1 3 rfl rfl), by decide +kernel, by decide +kernel⟩, (wg3 192 rfl rfl), (wp2 10 rfl)⟩
theorem okmX10_placeAt : OkV mX10_placeAt := ⟨⟨(wg3 136 rfl rfl), (wg1 3 rfl rfl), by decide +kernel, by decide +kernel⟩, (wg3 135 rfl rfl), (wp2 0 rfl)⟩
theorem okmX10_scanToken : OkV mX10_scanToken := ⟨⟨(wg3 34 rfl rfl), (wg1 3 rfl rfl), by decide +kernel, by decide +kernel⟩, (wg3 33 rfl rfl), (wp1 8 rfl)⟩
theorem okmX10_scanLetters : OkV mX10_scanLetters := ⟨⟨(wg3 41 rfl rfl), (wg1 3 rfl rfl), by decide +kernel, by decide +kernel⟩, (wg3 40 rfl rfl), (wp1 9 rfl)⟩
theorem okmX10_scanDigits : OkV mX10_scanDigits := ⟨⟨(wg3 56 rfl rfl), (wg1 3 rfl rfl), by decide +kernel, by decide +kernel⟩, (wg3 55 rfl rfl), (wp1 12 rfl)⟩
theorem okmX10_put : OkV mX10_put := ⟨⟨(wg3 49 rfl rfl), (wg1 3 rfl rfl), by decide +kernel, by decide +kernel⟩, (wg3 48 rfl rfl), (wp1 11 rfl)⟩
theorem okmX10_kindOf : OkV mX10_kindOf := ⟨⟨(wg3 45 rfl rfl), (wg1 3 rfl rfl), by decide +kernel, by decide +kernel⟩, (wg3 44 rfl rfl), (wp1 10 rfl)⟩
theorem okmX10_pastBlanks : OkS mX10_pastBlanks := ⟨⟨(wg3 23 rfl rfl), (wg1 3 rfl rfl), by decide +kernel, by decide +kernel⟩, (wg3 22 rfl rfl)⟩
theorem okmX10_isBlank : OkS mX10_isBlank := ⟨⟨(wg3 30 rfl rfl), (wg1 3 rfl rfl), by decide +kernel, by decide +kernel⟩, (wg3 29 rfl rfl)⟩
theorem okmX10_isLetter : OkS mX10_isLetter := ⟨⟨(wg3 37 rfl rfl), (wg1 3 rfl rfl), by decide +kernel, by decide +kernel⟩, (wg3 36 rfl rfl)⟩
theorem okmX10_isDigit : OkS mX10_isDigit := ⟨⟨(wg3 52 rfl rfl), (wg1 3 rfl rfl), by decide +kernel, by decide +kernel⟩, (wg3 51 rfl rfl)⟩
theorem okmX10_keyWith : OkS mX10_keyWith := ⟨⟨(wg1 101 rfl rfl), (wg1 3 rfl rfl), by decide +kernel, by decide +kernel⟩, (wg1 100 rfl rfl)⟩
theorem okmX10_lettersOf : OkS mX10_lettersOf := ⟨⟨(wg3 196 rfl rfl), (wg1 3 rfl rfl), by decide +kernel, by decide +kernel⟩, (wg3 195 rfl rfl)⟩
theorem okmX11_init : OkI mX11_init := ⟨⟨(wg1 24 rfl rfl), (wg1 1 rfl rfl), by decide +kernel, by decide +kernel⟩, (wg1 23 rfl rfl), rfl⟩
theorem okmX11_feed : OkV mX11_feed := ⟨⟨(wg3 4 rfl rfl), (wg1 1 rfl rfl), by decide +kernel, by decide +kernel⟩, (wg3 2 rfl rfl), (wg3 3 rfl rfl)⟩
theorem okmX11_back : OkV mX11_back := ⟨⟨(wg3 12 rfl rfl), (wg1 1 rfl rfl), by decide +kernel, by decide +kernel⟩, (wg3 10 rfl rfl), (wg3 11 rfl rfl)⟩
theorem okmX11_read : OkV mX11_read := ⟨⟨(wg3 16 rfl rfl), (wg1 1 rfl rfl), by decide +kernel, by decide +kernel⟩, (wg3 14 rfl rfl), (wg3 15 rfl rfl)⟩
theorem okmX11_place : OkV mX11_place := ⟨⟨(wg4 38 rfl rfl), (wg1 1 rfl rfl), by decide +kernel, by decide +kernel⟩, (wg4 36 rfl rfl), (wg4 37 rfl rfl)⟩
theorem okmX11_cell : OkV mX11_cell := ⟨⟨(wg4 42 rfl rfl), (wg1 1 rfl rfl), by decide +kernel, by decide +kernel⟩, (wg4 40 rfl rfl), (wg4 41 rfl rfl)⟩
theorem okmX11_holding : OkV mX11_holding := ⟨⟨(wg4 76 rfl rfl), (wg1 1 rfl rfl), by decide +kernel, by decide +kernel⟩, (wg4 74 rfl rfl), (wg4 75 rfl rfl)⟩
theorem okmX11_use : OkV mX11_use := ⟨⟨(wg4 105 rfl rfl), (wg1 1 rfl rfl), by decide +kernel, by decide +kernel⟩, (wg4 103 rfl rfl), (wg4 104 rfl rfl)⟩
theorem okmX11_draw : OkV mX11_draw := ⟨⟨(wg4 118 rfl rfl), (wg1 1 rfl rfl), by decide +kernel, by decide +kernel⟩, (wg4 116 rfl rfl), (wg4 117 rfl rfl)⟩
theorem okmX11_lend : OkV mX11_lend := ⟨⟨(wg4 131 rfl rfl), (wg1 1 rfl rfl), by decide +kernel, by decide +kernel⟩, (wg4 129 rfl rfl), (wg4 130 rfl rfl)⟩
theorem okmX11_move : OkV mX11_move := ⟨⟨(wg4 143 rfl rfl), (wg1 1 rfl rfl), by decide +kernel, by decide +kernel⟩, (wg4 141 rfl rfl), (wg4 142 rfl rfl)⟩
theorem okmX11_hours : OkV mX11_hours := ⟨⟨(wg4 147 rfl rfl), (wg1 1 rfl rfl), by decide +kernel, by decide +kernel⟩, (wg4 145 rfl rfl), (wg4 146 rfl rfl)⟩
theorem okmX11_undo : OkV mX11_undo := ⟨⟨(wg4 193 rfl rfl), (wg1 1 rfl rfl), by decide +kernel, by decide +kernel⟩, (wg4 191 rfl rfl), (wg4 192 rfl rfl)⟩
theorem okmX11_then : OkV mX11_then := ⟨⟨(wg4 201 rfl rfl), (wg1 1 rfl rfl), by decide +kernel, by decide +kernel⟩, (wg4 199 rfl rfl), (wg4 200 rfl rfl)⟩
theorem okmX11_all : OkV mX11_all := ⟨⟨(wg4 208 rfl rfl), (wg1 1 rfl rfl), by decide +kernel, by decide +kernel⟩, (wg4 206 rfl rfl), (wg4 207 rfl rfl)⟩
theorem okmX11_thickest : OkV mX11_thickest := ⟨⟨(wg4 223 rfl rfl), (wg1 1 rfl rfl), by decide +kernel, by decide +kernel⟩, (wg4 221 rfl rfl), (wg4 222 rfl rfl)⟩
theorem okmX11_hid : OkV mX11_hid := ⟨⟨(wg4 234 rfl rfl), (wg1 1 rfl rfl), by decide +kernel, by decide +kernel⟩, (wg4 232 rfl rfl), (wg4 233 rfl rfl)⟩
theorem okmX11_lost : OkV mX11_lost := ⟨⟨(wg5 1 rfl rfl), (wg1 1 rfl rfl), by decide +kernel, by decide +kernel⟩, (wg4 239 rfl rfl), (wg5 0 rfl rfl)⟩
theorem okmX11_served : OkV mX11_served := ⟨⟨(wg5 5 rfl rfl), (wg1 1 rfl rfl), by decide +kernel, by decide +kernel⟩, (wg5 3 rfl rfl), (wg5 4 rfl rfl)⟩
theorem okmX11_missed : OkV mX11_missed := ⟨⟨(wg5 17 rfl rfl), (wg1 1 rfl rfl), by decide +kernel, by decide +kernel⟩, (wg5 15 rfl rfl), (wg5 16 rfl rfl)⟩
theorem okmX11_over : OkV mX11_over := ⟨⟨(wg5 21 rfl rfl), (wg1 1 rfl rfl), by decide +kernel, by decide +kernel⟩, (wg5 19 rfl rfl), (wg5 20 rfl rfl)⟩
theorem okmX11_least : OkV mX11_least := ⟨⟨(wg5 25 rfl rfl), (wg1 1 rfl rfl), by decide +kernel, by decide +kernel⟩, (wg5 23 rfl rfl), (wg5 24 rfl rfl)⟩
theorem okmX11_unseen : OkV mX11_unseen := ⟨⟨(wg5 29 rfl rfl), (wg1 1 rfl rfl), by decide +kernel, by decide +kernel⟩, (wg5 27 rfl rfl), (wg5 28 rfl rfl)⟩
theorem okmX11_watch : OkV mX11_watch := ⟨⟨(wg5 42 rfl rfl), (wg1 1 rfl rfl), by decide +kernel, by decide +kernel⟩, (wg5 40 rfl rfl), (wg5 41 rfl rfl)⟩
theorem okmX11_sight : OkV mX11_sight := ⟨⟨(wg5 81 rfl rfl), (wg1 1 rfl rfl), by decide +kernel, by decide +kernel⟩, (wg5 79 rfl rfl), (wg5 80 rfl rfl)⟩
theorem okmX11_wind : OkV mX11_wind := ⟨⟨(wg5 91 rfl rfl), (wg1 1 rfl rfl), by decide +kernel, by decide +kernel⟩, (wg5 89 rfl rfl), (wg5 90 rfl rfl)⟩
theorem okmX11_lent : OkV mX11_lent := ⟨⟨(wg5 95 rfl rfl), (wg1 1 rfl rfl), by decide +kernel, by decide +kernel⟩, (wg5 93 rfl rfl), (wg5 94 rfl rfl)⟩
theorem okmX11_gone : OkV mX11_gone := ⟨⟨(wg5 100 rfl rfl), (wg1 1 rfl rfl), by decide +kernel, by decide +kernel⟩, (wg5 98 rfl rfl), (wg5 99 rfl rfl)⟩
theorem okmX11_year : OkV mX11_year := ⟨⟨(wg5 104 rfl rfl), (wg1 1 rfl rfl), by decide +kernel, by decide +kernel⟩, (wg5 102 rfl rfl), (wg5 103 rfl rfl)⟩
theorem okmX11_tell : OkV mX11_tell := ⟨⟨(wg5 108 rfl rfl), (wg1 1 rfl rfl), by decide +kernel, by decide +kernel⟩, (wg5 106 rfl rfl), (wg5 107 rfl rfl)⟩
theorem okmX11_forget : OkV mX11_forget := ⟨⟨(wg5 116 rfl rfl), (wg1 1 rfl rfl), by decide +kernel, by decide +kernel⟩, (wg5 114 rfl rfl), (wg5 115 rfl rfl)⟩
theorem okmX11_leaks : OkV mX11_leaks := ⟨⟨(wg5 120 rfl rfl), (wg1 1 rfl rfl), by decide +kernel, by decide +kernel⟩, (wg5 118 rfl rfl), (wg5 119 rfl rfl)⟩
theorem okmX11_sure : OkV mX11_sure := ⟨⟨(wg5 147 rfl rfl), (wg1 1 rfl rfl), by decide +kernel, by decide +kernel⟩, (wg5 145 rfl rfl), (wg5 146 rfl rfl)⟩
theorem okmX11_ask : OkV mX11_ask := ⟨⟨(wg5 155 rfl rfl), (wg1 1 rfl rfl), by decide +kernel, by decide +kernel⟩, (wg5 153 rfl rfl), (wg5 154 rfl rfl)⟩
theorem okmX11_hold : OkV mX11_hold := ⟨⟨(wg5 169 rfl rfl), (wg1 1 rfl rfl), by decide +kernel, by decide +kernel⟩, (wg5 167 rfl rfl), (wg5 168 rfl rfl)⟩
theorem okmX11_restore : OkV mX11_restore := ⟨⟨(wg5 173 rfl rfl), (wg1 1 rfl rfl), by decide +kernel, by decide +kernel⟩, (wg5 171 rfl rfl), (wg5 172 rfl rfl)⟩
theorem okmX11_count : OkV mX11_count := ⟨⟨(wg5 177 rfl rfl), (wg1 1 rfl rfl), by decide +kernel, by decide +kernel⟩, (wg5 175 rfl rfl), (wg5 176 rfl rfl)⟩
theorem okmX11_beginDraft : OkV mX11_beginDraft := ⟨⟨(wg4 30 rfl rfl), (wg1 1 rfl rfl), by decide +kernel, by decide +kernel⟩, (wg4 29 rfl rfl), (wp3 9 rfl)⟩
theorem okmX11_passLater : OkV mX11_passLater := ⟨⟨(wg4 152 rfl rfl), (wg1 1 rfl rfl), by decide +kernel, by decide +kernel⟩, (wg4 151 rfl rfl), (wp4 12 rfl)⟩
theorem okmX11_areTwoHoldings : OkV mX11_areTwoHoldings := ⟨⟨(wg4 135 rfl rfl), (wg1 1 rfl rfl), by decide +kernel, by decide +kernel⟩, (wg4 134 rfl rfl), (wp4 10 rfl)⟩
theorem okmX11_isOver : OkV mX11_isOver := ⟨⟨(wg4 93 rfl rfl), (wg1 1 rfl rfl), by decide +kernel, by decide +kernel⟩, (wg4 92 rfl rfl), (wp4 3 rfl)⟩
theorem okmX11_isServed : OkV mX11_isServed := ⟨⟨(wg5 9 rfl rfl), (wg1 1 rfl rfl), by decide +kernel, by decide +kernel⟩, (wg5 8 rfl rfl), (wp5 6 rfl)⟩
theorem okmX11_seenTowards : OkV mX11_seenTowards := ⟨⟨(wg5 85 rfl rfl), (wg1 1 rfl rfl), by decide +kernel, by decide +kernel⟩, (wg5 84 rfl rfl), (wp6 1 rfl)⟩
theorem okmX11_slotsHeld : OkV mX11_slotsHeld := ⟨⟨(wg5 182 rfl rfl), (wg1 1 rfl rfl), by decide +kernel, by decide +kernel⟩, (wg5 181 rfl rfl), (wp6 11 rfl)⟩
theorem okmX11_isAhead : OkS mX11_isAhead := ⟨⟨(wg4 204 rfl rfl), (wg1 1 rfl rfl), by decide +kernel, by decide +kernel⟩, (wg4 203 rfl rfl)⟩
theorem okmX11_isThick : OkS mX11_isThick := ⟨⟨(wg4 237 rfl rfl), (wg1 1 rfl rfl), by decide +kernel, by decide +kernel⟩, (wg4 236 rfl rfl)⟩
theorem okmX11_told : OkS mX11_told := ⟨⟨(wg4 230 rfl rfl), (wg1 1 rfl rfl), by decide +kernel, by decide +kernel⟩, (wg4 229 rfl rfl)⟩
theorem okmX11_stepAcross : OkS mX11_stepAcross := ⟨⟨(wg4 166 rfl rfl), (wg1 1 rfl rfl), by decide +kernel, by decide +kernel⟩, (wg4 165 rfl rfl)⟩
theorem okmX11_stepDown : OkS mX11_stepDown := ⟨⟨(wg4 169 rfl rfl), (wg1 1 rfl rfl), by decide +kernel, by decide +kernel⟩, (wg4 168 rfl rfl)⟩
theorem okmX11_withNeighbours : OkS mX11_withNeighbours := ⟨⟨(wg5 36 rfl rfl), (wg1 1 rfl rfl), by decide +kernel, by decide +kernel⟩, (wg5 35 rfl rfl)⟩
theorem okmX11_within : OkS mX11_within := ⟨⟨(wg4 70 rfl rfl), (wg1 1 rfl rfl), by decide +kernel, by decide +kernel⟩, (wg4 69 rfl rfl)⟩
theorem okmX11_sum : OkS mX11_sum := ⟨⟨(wg4 215 rfl rfl), (wg1 1 rfl rfl), by decide +kernel, by decide +kernel⟩, (wg4 214 rfl rfl)⟩
theorem okmX11_copy : OkS mX11_copy := ⟨⟨(wg2 196 rfl rfl), (wg1 1 rfl rfl), by decide +kernel, by decide +kernel⟩, (wg2 195 rfl rfl)⟩
theorem okmX11_fill : OkS mX11_fill := ⟨⟨(wg2 89 rfl rfl), (wg1 1 rfl rfl), by decide +kernel, by decide +kernel⟩, (wg2 88 rfl rfl)⟩
theorem okmX12_init : OkI mX12_init := ⟨⟨(wg5 192 rfl rfl), (wg1 17 rfl rfl), by decide +kernel, by decide +kernel⟩, (wg5 191 rfl rfl), rfl⟩
theorem okmX12_feed : OkV mX12_feed := ⟨⟨(wg6 201 rfl rfl), (wg1 17 rfl rfl), by decide +kernel, by decide +kernel⟩, (wg6 199 rfl rfl), (wg6 200 rfl rfl)⟩
theorem okmX12_put : OkV mX12_put := ⟨⟨(wg6 205 rfl rfl), (wg1 17 rfl rfl), by decide +kernel, by decide +kernel⟩, (wg6 204 rfl rfl), (wp7 0 rfl)⟩
theorem okmX12_back : OkV mX12_back := ⟨⟨(wg6 209 rfl rfl), (wg1 17 rfl rfl), by decide +kernel, by decide +kernel⟩, (wg6 207 rfl rfl), (wg6 208 rfl rfl)⟩
theorem okmX12_byteAt : OkV mX12_byteAt := ⟨⟨(wg6 221 rfl rfl), (wg1 17 rfl rfl), by decide +kernel, by decide +kernel⟩, (wg6 220 rfl rfl), (wp7 2 rfl)⟩
theorem okmX12_isDigit : OkS mX12_isDigit := ⟨⟨(wg6 231 rfl rfl), (wg1 17 rfl rfl), by decide +kernel, by decide +kernel⟩, (wg6 230 rfl rfl)⟩
theorem okmX12_isLetter : OkS mX12_isLetter := ⟨⟨(wg6 228 rfl rfl), (wg1 17 rfl rfl), by decide +kernel, by decide +kernel⟩, (wg6 227 rfl rfl)⟩
theorem okmX12_appends : OkS mX12_appends := ⟨⟨(wg5 203 rfl rfl), (wg1 17 rfl rfl), by decide +kernel, by decide +kernel⟩, (wg5 202 rfl rfl)⟩
theorem okmX12_word : OkS mX12_word := ⟨⟨(wg5 200 rfl rfl), (wg1 17 rfl rfl), by decide +kernel, by decide +kernel⟩, (wg5 199 rfl rfl)⟩
theorem okmX12_token : OkV mX12_token := ⟨⟨(wg6 225 rfl rfl), (wg1 17 rfl rfl), by decide +kernel, by decide +kernel⟩, (wg6 224 rfl rfl), (wp7 3 rfl)⟩
theorem okmX12_cut : OkV mX12_cut := ⟨⟨(wg6 217 rfl rfl), (wg1 17 rfl rfl), by decide +kernel, by decide +kernel⟩, (wg6 216 rfl rfl), (wp7 1 rfl)⟩
theorem okmX12_sign : OkV mX12_sign := ⟨⟨(wg6 235 rfl rfl), (wg1 17 rfl rfl), by decide +kernel, by decide +kernel⟩, (wg6 234 rfl rfl), (wp7 4 rfl)⟩
theorem okmX12_is : OkV mX12_is := ⟨⟨(wg6 239 rfl rfl), (wg1 17 rfl rfl), by decide +kernel, by decide +kernel⟩, (wg6 238 rfl rfl), (wp7 5 rfl)⟩
theorem okmX12_fail : OkV mX12_fail := ⟨⟨(wg7 11 rfl rfl), (wg1 17 rfl rfl), by decide +kernel, by decide +kernel⟩, (wg7 10 rfl rfl), (wp7 8 rfl)⟩
theorem okmX12_wrong : OkV mX12_wrong := ⟨⟨(wg7 33 rfl rfl), (wg1 17 rfl rfl), by decide +kernel, by decide +kernel⟩, (wg7 32 rfl rfl), (wp7 12 rfl)⟩
theorem okmX12_goesOn : OkV mX12_goesOn := ⟨⟨(wg7 15 rfl rfl), (wg1 17 rfl rfl), by decide +kernel, by decide +kernel⟩, (wg7 14 rfl rfl), (wp7 9 rfl)⟩
theorem okmX12_must : OkV mX12_must := ⟨⟨(wg7 23 rfl rfl), (wg1 17 rfl rfl), by decide +kernel, by decide +kernel⟩, (wg7 22 rfl rfl), (wp7 11 rfl)⟩
theorem okmX12_plain : OkV mX12_plain := ⟨⟨(wg5 197 rfl rfl), (wg1 17 rfl rfl), by decide +kernel, by decide +kernel⟩, (wg5 196 rfl rfl), (wp6 13 rfl)⟩
theorem okmX12_read : OkV mX12_read := ⟨⟨(wg6 213 rfl rfl), (wg1 17 rfl rfl), by decide +kernel, by decide +kernel⟩, (wg6 211 rfl rfl), (wg6 212 rfl rfl)⟩
theorem okmX12_place : OkV mX12_place := ⟨⟨(wg7 97 rfl rfl), (wg1 17 rfl rfl), by decide +kernel, by decide +kernel⟩, (wg7 95 rfl rfl), (wg7 96 rfl rfl)⟩
theorem okmX12_isLand : OkV mX12_isLand := ⟨⟨(wg7 93 rfl rfl), (wg1 17 rfl rfl), by decide +kernel, by decide +kernel⟩, (wg7 92 rfl rfl), (wp8 11 rfl)⟩
theorem okmX12_roomFor : OkV mX12_roomFor := ⟨⟨(wg7 7 rfl rfl), (wg1 17 rfl rfl), by decide +kernel, by decide +kernel⟩, (wg7 6 rfl rfl), (wp7 7 rfl)⟩
theorem okmX12_toldInt : OkV mX12_toldInt := ⟨⟨(wg7 65 rfl rfl), (wg1 17 rfl rfl), by decide +kernel, by decide +kernel⟩, (wg7 64 rfl rfl), (wp8 4 rfl)⟩
theorem okmX12_tellOne : OkV mX12_tellOne := ⟨⟨(wg7 3 rfl rfl), (wg1 17 rfl rfl), by decide +kernel, by decide +kernel⟩, (wg7 2 rfl rfl), (wp7 6 rfl)⟩
theorem okmX12_lettersIn : OkS mX12_lettersIn := ⟨⟨(wg7 26 rfl rfl), (wg1 17 rfl rfl), by decide +kernel, by decide +kernel⟩, (wg7 25 rfl rfl)⟩
theorem okmX12_letterIn : OkS mX12_letterIn := ⟨⟨(wg7 29 rfl rfl), (wg1 17 rfl rfl), by decide +kernel, by decide +kernel⟩, (wg7 28 rfl rfl)⟩
theorem okmX12_tellRow : OkV mX12_tellRow := ⟨⟨(wg7 19 rfl rfl), (wg1 17 rfl rfl), by decide +kernel, by decide +kernel⟩, (wg7 18 rfl rfl), (wp7 10 rfl)⟩
theorem okmX12_named : OkV mX12_named := ⟨⟨(wg7 41 rfl rfl), (wg1 17 rfl rfl), by decide +kernel, by decide +kernel⟩, (wg7 40 rfl rfl), (wp7 14 rfl)⟩
theorem okmX12_ends : OkV mX12_ends := ⟨⟨(wg7 49 rfl rfl), (wg1 17 rfl rfl), by decide +kernel, by decide +kernel⟩, (wg7 48 rfl rfl), (wp8 0 rfl)⟩
theorem okmX12_knownHolding : OkV mX12_knownHolding := ⟨⟨(wg7 57 rfl rfl), (wg1 17 rfl rfl), by decide +kernel, by decide +kernel⟩, (wg7 56 rfl rfl), (wp8 2 rfl)⟩
theorem okmX12_bounded : OkV mX12_bounded := ⟨⟨(wg7 45 rfl rfl), (wg1 17 rfl rfl), by decide +kernel, by decide +kernel⟩, (wg7 44 rfl rfl), (wp7 15 rfl)⟩
theorem okmX12_tellHolding : OkV mX12_tellHolding := ⟨⟨(wg7 37 rfl rfl), (wg1 17 rfl rfl), by decide +kernel, by decide +kernel⟩, (wg7 36 rfl rfl), (wp7 13 rfl)⟩
theorem okmX12_tellUse : OkV mX12_tellUse := ⟨⟨(wg7 53 rfl rfl), (wg1 17 rfl rfl), by decide +kernel, by decide +kernel⟩, (wg7 52 rfl rfl), (wp8 1 rfl)⟩
theorem okmX12_tellBank : OkV mX12_tellBank := ⟨⟨(wg7 61 rfl rfl), (wg1 17 rfl rfl), by decide +kernel, by decide +kernel⟩, (wg7 60 rfl rfl), (wp8 3 rfl)⟩
theorem okmX12_tellLaw : OkV mX12_tellLaw := ⟨⟨(wg7 69 rfl rfl), (wg1 17 rfl rfl), by decide +kernel, by decide +kernel⟩, (wg7 68 rfl rfl), (wp8 5 rfl)⟩
theorem okmX12_term : OkV mX12_term := ⟨⟨(wg7 89 rfl rfl), (wg1 17 rfl rfl), by decide +kernel, by decide +kernel⟩, (wg7 88 rfl rfl), (wp8 10 rfl)⟩
theorem okmX12_emit : OkV mX12_emit := ⟨⟨(wg7 81 rfl rfl), (wg1 17 rfl rfl), by decide +kernel, by decide +kernel⟩, (wg7 80 rfl rfl), (wp8 8 rfl)⟩
theorem okmX12_comesOut : OkV mX12_comesOut := ⟨⟨(wg7 85 rfl rfl), (wg1 17 rfl rfl), by decide +kernel, by decide +kernel⟩, (wg7 84 rfl rfl), (wp8 9 rfl)⟩
theorem okmX12_expression : OkV mX12_expression := ⟨⟨(wg7 73 rfl rfl), (wg1 17 rfl rfl), by decide +kernel, by decide +kernel⟩, (wg7 72 rfl rfl), (wp8 6 rfl)⟩
theorem okmX12_unit : OkV mX12_unit := ⟨⟨(wg7 77 rfl rfl), (wg1 17 rfl rfl), by decide +kernel, by decide +kernel⟩, (wg7 76 rfl rfl), (wp8 7 rfl)⟩
theorem okmX12_termOf : OkV mX12_termOf := ⟨⟨(wg7 128 rfl rfl), (wg1 17 rfl rfl), by decide +kernel, by decide +kernel⟩, (wg7 127 rfl rfl), (wp9 1 rfl)⟩
theorem okmX12_in : OkS mX12_in := ⟨⟨(wg7 108 rfl rfl), (wg1 17 rfl rfl), by decide +kernel, by decide +kernel⟩, (wg7 107 rfl rfl)⟩
theorem okmX12_held : OkS mX12_held := ⟨⟨(wg7 135 rfl rfl), (wg1 17 rfl rfl), by decide +kernel, by decide +kernel⟩, (wg7 134 rfl rfl)⟩
theorem okmX12_isCell : OkV mX12_isCell := ⟨⟨(wg7 105 rfl rfl), (wg1 17 rfl rfl), by decide +kernel, by decide +kernel⟩, (wg7 104 rfl rfl), (wp8 12 rfl)⟩
theorem okmX12_isHolding : OkV mX12_isHolding := ⟨⟨(wg7 143 rfl rfl), (wg1 17 rfl rfl), by decide +kernel, by decide +kernel⟩, (wg7 142 rfl rfl), (wp9 3 rfl)⟩
theorem okmX12_isUse : OkV mX12_isUse := ⟨⟨(wg7 168 rfl rfl), (wg1 17 rfl rfl), by decide +kernel, by decide +kernel⟩, (wg7 167 rfl rfl), (wp9 8 rfl)⟩
theorem okmX12_begins : OkV mX12_begins := ⟨⟨(wg5 208 rfl rfl), (wg1 17 rfl rfl), by decide +kernel, by decide +kernel⟩, (wg5 207 rfl rfl), (wp6 14 rfl)⟩
theorem okmX12_keepsRow : OkV mX12_keepsRow := ⟨⟨(wg5 212 rfl rfl), (wg1 17 rfl rfl), by decide +kernel, by decide +kernel⟩, (wg5 211 rfl rfl), (wp6 15 rfl)⟩
theorem okmX12_copies : OkV mX12_copies := ⟨⟨(wg7 112 rfl rfl), (wg1 17 rfl rfl), by decide +kernel, by decide +kernel⟩, (wg7 111 rfl rfl), (wp8 13 rfl)⟩
theorem okmX12_mixed : OkS mX12_mixed := ⟨⟨(wg7 211 rfl rfl), (wg1 17 rfl rfl), by decide +kernel, by decide +kernel⟩, (wg7 210 rfl rfl)⟩
theorem okmX12_isGust : OkV mX12_isGust := ⟨⟨(wg7 208 rfl rfl), (wg1 17 rfl rfl), by decide +kernel, by decide +kernel⟩, (wg7 207 rfl rfl), (wp9 14 rfl)⟩
theorem okmX12_looks : OkV mX12_looks := ⟨⟨(wg7 120 rfl rfl), (wg1 17 rfl rfl), by decide +kernel, by decide +kernel⟩, (wg7 119 rfl rfl), (wp8 15 rfl)⟩
theorem okmX12_lawTells : OkV mX12_lawTells := ⟨⟨(wg7 124 rfl rfl), (wg1 17 rfl rfl), by decide +kernel, by decide +kernel⟩, (wg7 123 rfl rfl), (wp9 0 rfl)⟩
theorem okmX12_windIn : OkV mX12_windIn := ⟨⟨(wg7 116 rfl rfl), (wg1 17 rfl rfl), by decide +kernel, by decide +kernel⟩, (wg7 115 rfl rfl), (wp8 14 rfl)⟩
theorem okmX12_cellTells : OkV mX12_cellTells := ⟨⟨(wg7 132 rfl rfl), (wg1 17 rfl rfl), by decide +kernel, by decide +kernel⟩, (wg7 131 rfl rfl), (wp9 2 rfl)⟩
theorem okmX12_fogOf : OkV mX12_fogOf := ⟨⟨(wg7 152 rfl rfl), (wg1 17 rfl rfl), by decide +kernel, by decide +kernel⟩, (wg7 151 rfl rfl), (wp9 5 rfl)⟩
theorem okmX12_cellsOf : OkV mX12_cellsOf := ⟨⟨(wg7 148 rfl rfl), (wg1 17 rfl rfl), by decide +kernel, by decide +kernel⟩, (wg7 147 rfl rfl), (wp9 4 rfl)⟩
theorem okmX12_givesTo : OkV mX12_givesTo := ⟨⟨(wg7 216 rfl rfl), (wg1 17 rfl rfl), by decide +kernel, by decide +kernel⟩, (wg7 215 rfl rfl), (wp9 15 rfl)⟩
theorem okmX12_steps : OkV mX12_steps := ⟨⟨(wg7 204 rfl rfl), (wg1 17 rfl rfl), by decide +kernel, by decide +kernel⟩, (wg7 203 rfl rfl), (wp9 13 rfl)⟩
theorem okmX12_hourGoes : OkV mX12_hourGoes := ⟨⟨(wg7 200 rfl rfl), (wg1 17 rfl rfl), by decide +kernel, by decide +kernel⟩, (wg7 199 rfl rfl), (wp9 12 rfl)⟩
theorem okmX12_goes : OkV mX12_goes := ⟨⟨(wg7 196 rfl rfl), (wg1 17 rfl rfl), by decide +kernel, by decide +kernel⟩, (wg7 195 rfl rfl), (wp9 11 rfl)⟩
theorem okmX12_cell : OkV mX12_cell := ⟨⟨(wg7 101 rfl rfl), (wg1 17 rfl rfl), by decide +kernel, by decide +kernel⟩, (wg7 99 rfl rfl), (wg7 100 rfl rfl)⟩
theorem okmX12_netted : OkV mX12_netted := ⟨⟨(wg7 160 rfl rfl), (wg1 17 rfl rfl), by decide +kernel, by decide +kernel⟩, (wg7 159 rfl rfl), (wp9 7 rfl)⟩
theorem okmX12_isOver : OkV mX12_isOver := ⟨⟨(wg7 156 rfl rfl), (wg1 17 rfl rfl), by decide +kernel, by decide +kernel⟩, (wg7 155 rfl rfl), (wp9 6 rfl)⟩
theorem okmX12_holding : OkV mX12_holding := ⟨⟨(wg7 139 rfl rfl), (wg1 17 rfl rfl), by decide +kernel, by decide +kernel⟩, (wg7 137 rfl rfl), (wg7 138 rfl rfl)⟩
theorem okmX12_isItsHour : OkV mX12_isItsHour := ⟨⟨(wg7 172 rfl rfl), (wg1 17 rfl rfl), by decide +kernel, by decide +kernel⟩, (wg7 171 rfl rfl), (wp9 9 rfl)⟩
theorem okmX12_use : OkV mX12_use := ⟨⟨(wg7 164 rfl rfl), (wg1 17 rfl rfl), by decide +kernel, by decide +kernel⟩, (wg7 162 rfl rfl), (wg7 163 rfl rfl)⟩
theorem okmX12_records : OkV mX12_records := ⟨⟨(wg7 180 rfl rfl), (wg1 17 rfl rfl), by decide +kernel, by decide +kernel⟩, (wg7 179 rfl rfl), (wp9 10 rfl)⟩
theorem okmX12_draw : OkV mX12_draw := ⟨⟨(wg7 176 rfl rfl), (wg1 17 rfl rfl), by decide +kernel, by decide +kernel⟩, (wg7 174 rfl rfl), (wg7 175 rfl rfl)⟩
theorem okmX12_lend : OkV mX12_lend := ⟨⟨(wg7 184 rfl rfl), (wg1 17 rfl rfl), by decide +kernel, by decide +kernel⟩, (wg7 182 rfl rfl), (wg7 183 rfl rfl)⟩
theorem okmX12_move : OkV mX12_move := ⟨⟨(wg7 188 rfl rfl), (wg1 17 rfl rfl), by decide +kernel, by decide +kernel⟩, (wg7 186 rfl rfl), (wg7 187 rfl rfl)⟩
theorem okmX12_hours : OkV mX12_hours := ⟨⟨(wg7 192 rfl rfl), (wg1 17 rfl rfl), by decide +kernel, by decide +kernel⟩, (wg7 190 rfl rfl), (wg7 191 rfl rfl)⟩
theorem okmX12_undo : OkV mX12_undo := ⟨⟨(wg7 220 rfl rfl), (wg1 17 rfl rfl), by decide +kernel, by decide +kernel⟩, (wg7 218 rfl rfl), (wg7 219 rfl rfl)⟩
theorem okmX12_isLong : OkS mX12_isLong := ⟨⟨(wg7 227 rfl rfl), (wg1 17 rfl rfl), by decide +kernel, by decide +kernel⟩, (wg7 226 rfl rfl)⟩
theorem okmX12_fogAll : OkV mX12_fogAll := ⟨⟨(wg7 235 rfl rfl), (wg1 17 rfl rfl), by decide +kernel, by decide +kernel⟩, (wg7 234 rfl rfl), (wp10 0 rfl)⟩
theorem okmX12_then : OkV mX12_then := ⟨⟨(wg7 224 rfl rfl), (wg1 17 rfl rfl), by decide +kernel, by decide +kernel⟩, (wg7 222 rfl rfl), (wg7 223 rfl rfl)⟩
theorem okmX12_all : OkV mX12_all := ⟨⟨(wg7 231 rfl rfl), (wg1 17 rfl rfl), by decide +kernel, by decide +kernel⟩, (wg7 229 rfl rfl), (wg7 230 rfl rfl)⟩
theorem okmX12_thickest : OkV mX12_thickest := ⟨⟨(wg7 239 rfl rfl), (wg1 17 rfl rfl), by decide +kernel, by decide +kernel⟩, (wg7 237 rfl rfl), (wg7 238 rfl rfl)⟩
theorem okmX12_isThick : OkS mX12_isThick := ⟨⟨(wg8 6 rfl rfl), (wg1 17 rfl rfl), by decide +kernel, by decide +kernel⟩, (wg8 5 rfl rfl)⟩
theorem okmX12_hid : OkV mX12_hid := ⟨⟨(wg8 3 rfl rfl), (wg1 17 rfl rfl), by decide +kernel, by decide +kernel⟩, (wg8 1 rfl rfl), (wg8 2 rfl rfl)⟩
theorem okmX12_lost : OkV mX12_lost := ⟨⟨(wg8 10 rfl rfl), (wg1 17 rfl rfl), by decide +kernel, by decide +kernel⟩, (wg8 8 rfl rfl), (wg8 9 rfl rfl)⟩
theorem okmX12_isServed : OkV mX12_isServed := ⟨⟨(wg8 18 rfl rfl), (wg1 17 rfl rfl), by decide +kernel, by decide +kernel⟩, (wg8 17 rfl rfl), (wp10 1 rfl)⟩
theorem okmX12_served : OkV mX12_served := ⟨⟨(wg8 14 rfl rfl), (wg1 17 rfl rfl), by decide +kernel, by decide +kernel⟩, (wg8 12 rfl rfl), (wg8 13 rfl rfl)⟩
theorem okmX12_missed : OkV mX12_missed := ⟨⟨(wg8 22 rfl rfl), (wg1 17 rfl rfl), by decide +kernel, by decide +kernel⟩, (wg8 20 rfl rfl), (wg8 21 rfl rfl)⟩
theorem okmX12_over : OkV mX12_over := ⟨⟨(wg8 26 rfl rfl), (wg1 17 rfl rfl), by decide +kernel, by decide +kernel⟩, (wg8 24 rfl rfl), (wg8 25 rfl rfl)⟩
theorem okmX12_least : OkV mX12_least := ⟨⟨(wg8 30 rfl rfl), (wg1 17 rfl rfl), by decide +kernel, by decide +kernel⟩, (wg8 28 rfl rfl), (wg8 29 rfl rfl)⟩
theorem okmX12_isNear : OkV mX12_isNear := ⟨⟨(wg8 38 rfl rfl), (wg1 17 rfl rfl), by decide +kernel, by decide +kernel⟩, (wg8 37 rfl rfl), (wp10 2 rfl)⟩
theorem okmX12_isNext : OkV mX12_isNext := ⟨⟨(wg8 42 rfl rfl), (wg1 17 rfl rfl), by decide +kernel, by decide +kernel⟩, (wg8 41 rfl rfl), (wp10 3 rfl)⟩
theorem okmX12_unseen : OkV mX12_unseen := ⟨⟨(wg8 34 rfl rfl), (wg1 17 rfl rfl), by decide +kernel, by decide +kernel⟩, (wg8 32 rfl rfl), (wg8 33 rfl rfl)⟩
theorem okmX12_isWatched : OkV mX12_isWatched := ⟨⟨(wg8 66 rfl rfl), (wg1 17 rfl rfl), by decide +kernel, by decide +kernel⟩, (wg8 65 rfl rfl), (wp10 8 rfl)⟩
theorem okmX12_isOpen : OkV mX12_isOpen := ⟨⟨(wg8 62 rfl rfl), (wg1 17 rfl rfl), by decide +kernel, by decide +kernel⟩, (wg8 61 rfl rfl), (wp10 7 rfl)⟩
theorem okmX12_isAt : OkV mX12_isAt := ⟨⟨(wg8 50 rfl rfl), (wg1 17 rfl rfl), by decide +kernel, by decide +kernel⟩, (wg8 49 rfl rfl), (wp10 4 rfl)⟩
theorem okmX12_mayWatch : OkV mX12_mayWatch := ⟨⟨(wg8 58 rfl rfl), (wg1 17 rfl rfl), by decide +kernel, by decide +kernel⟩, (wg8 57 rfl rfl), (wp10 6 rfl)⟩
theorem okmX12_findsWatch : OkV mX12_findsWatch := ⟨⟨(wg8 54 rfl rfl), (wg1 17 rfl rfl), by decide +kernel, by decide +kernel⟩, (wg8 53 rfl rfl), (wp10 5 rfl)⟩
theorem okmX12_watch : OkV mX12_watch := ⟨⟨(wg8 46 rfl rfl), (wg1 17 rfl rfl), by decide +kernel, by decide +kernel⟩, (wg8 44 rfl rfl), (wg8 45 rfl rfl)⟩
theorem okmX12_seesOn : OkV mX12_seesOn := ⟨⟨(wg8 74 rfl rfl), (wg1 17 rfl rfl), by decide +kernel, by decide +kernel⟩, (wg8 73 rfl rfl), (wp10 9 rfl)⟩
theorem okmX12_sight : OkV mX12_sight := ⟨⟨(wg8 70 rfl rfl), (wg1 17 rfl rfl), by decide +kernel, by decide +kernel⟩, (wg8 68 rfl rfl), (wg8 69 rfl rfl)⟩
theorem okmX12_wind : OkV mX12_wind := ⟨⟨(wg8 78 rfl rfl), (wg1 17 rfl rfl), by decide +kernel, by decide +kernel⟩, (wg8 76 rfl rfl), (wg8 77 rfl rfl)⟩
theorem okmX12_lent : OkV mX12_lent := ⟨⟨(wg8 82 rfl rfl), (wg1 17 rfl rfl), by decide +kernel, by decide +kernel⟩, (wg8 80 rfl rfl), (wg8 81 rfl rfl)⟩
theorem okmX12_gone : OkV mX12_gone := ⟨⟨(wg8 86 rfl rfl), (wg1 17 rfl rfl), by decide +kernel, by decide +kernel⟩, (wg8 84 rfl rfl), (wg8 85 rfl rfl)⟩
theorem okmX12_year : OkV mX12_year := ⟨⟨(wg8 90 rfl rfl), (wg1 17 rfl rfl), by decide +kernel, by decide +kernel⟩, (wg8 88 rfl rfl), (wg8 89 rfl rfl)⟩
theorem okmX12_tell : OkV mX12_tell := ⟨⟨(wg8 94 rfl rfl), (wg1 17 rfl rfl), by decide +kernel, by decide +kernel⟩, (wg8 92 rfl rfl), (wg8 93 rfl rfl)⟩
theorem okmX12_forget : OkV mX12_forget := ⟨⟨(wg8 98 rfl rfl), (wg1 17 rfl rfl), by decide +kernel, by decide +kernel⟩, (wg8 96 rfl rfl), (wg8 97 rfl rfl)⟩
theorem okmX12_isSo : OkV mX12_isSo := ⟨⟨(wg8 110 rfl rfl), (wg1 17 rfl rfl), by decide +kernel, by decide +kernel⟩, (wg8 109 rfl rfl), (wp10 11 rfl)⟩
theorem okmX12_mayLeak : OkV mX12_mayLeak := ⟨⟨(wg8 106 rfl rfl), (wg1 17 rfl rfl), by decide +kernel, by decide +kernel⟩, (wg8 105 rfl rfl), (wp10 10 rfl)⟩
theorem okmX12_leaks : OkV mX12_leaks := ⟨⟨(wg8 102 rfl rfl), (wg1 17 rfl rfl), by decide +kernel, by decide +kernel⟩, (wg8 100 rfl rfl), (wg8 101 rfl rfl)⟩
theorem okmX12_sure : OkV mX12_sure := ⟨⟨(wg8 114 rfl rfl), (wg1 17 rfl rfl), by decide +kernel, by decide +kernel⟩, (wg8 112 rfl rfl), (wg8 113 rfl rfl)⟩
theorem okmX12_ask : OkV mX12_ask := ⟨⟨(wg8 118 rfl rfl), (wg1 17 rfl rfl), by decide +kernel, by decide +kernel⟩, (wg8 116 rfl rfl), (wg8 117 rfl rfl)⟩
theorem okmX12_hold : OkV mX12_hold := ⟨⟨(wg8 122 rfl rfl), (wg1 17 rfl rfl), by decide +kernel, by decide +kernel⟩, (wg8 120 rfl rfl), (wg8 121 rfl rfl)⟩
theorem okmX12_restore : OkV mX12_restore := ⟨⟨(wg8 126 rfl rfl), (wg1 17 rfl rfl), by decide +kernel, by decide +kernel⟩, (wg8 124 rfl rfl), (wg8 125 rfl rfl)⟩
theorem okmX12_sumNow : OkV mX12_sumNow := ⟨⟨(wg8 134 rfl rfl), (wg1 17 rfl rfl), by decide +kernel, by decide +kernel⟩, (wg8 133 rfl rfl), (wp10 12 rfl)⟩
theorem okmX12_count : OkV mX12_count := ⟨⟨(wg8 130 rfl rfl), (wg1 17 rfl rfl), by decide +kernel, by decide +kernel⟩, (wg8 128 rfl rfl), (wg8 129 rfl rfl)⟩
theorem okmJ11_isValidCodePoint_9a6ad : OkS mJ11_isValidCodePoint_9a6ad := ⟨⟨(wg3 110 rfl rfl), (wg1 19 rfl rfl), by decide +kernel, by decide +kernel⟩, (wg3 109 rfl rfl)⟩
theorem okmJ11_highSurrogate_5068e : OkS mJ11_highSurrogate_5068e := ⟨⟨(wg3 113 rfl rfl), (wg1 19 rfl rfl), by decide +kernel, by decide +kernel⟩, (wg3 112 rfl rfl)⟩
theorem okmJ11_lowSurrogate_5068e : OkS mJ11_lowSurrogate_5068e := ⟨⟨(wg3 117 rfl rfl), (wg1 19 rfl rfl), by decide +kernel, by decide +kernel⟩, (wg3 116 rfl rfl)⟩
theorem okmJ9_max_7cf53 : OkS mJ9_max_7cf53 := ⟨⟨(wg3 77 rfl rfl), (wg1 18 rfl rfl), by decide +kernel, by decide +kernel⟩, (wg3 76 rfl rfl)⟩
theorem okmJ9_min_7cf53 : OkS mJ9_min_7cf53 := ⟨⟨(wg3 80 rfl rfl), (wg1 18 rfl rfl), by decide +kernel, by decide +kernel⟩, (wg3 79 rfl rfl)⟩
theorem okmJ0_length_8abf5 : OkV mJ0_length_8abf5 := ⟨⟨(wg1 54 rfl rfl), (wg1 4 rfl rfl), by decide +kernel, by decide +kernel⟩, (wg1 52 rfl rfl), (wg1 53 rfl rfl)⟩
theorem okmJ0_charAt_5068e : OkV mJ0_charAt_5068e := ⟨⟨(wg1 64 rfl rfl), (wg1 4 rfl rfl), by decide +kernel, by decide +kernel⟩, (wg1 62 rfl rfl), (wg1 63 rfl rfl)⟩
theorem okmJ0_indexOf_0f7a4 : OkV mJ0_indexOf_0f7a4 := ⟨⟨(wg3 63 rfl rfl), (wg1 4 rfl rfl), by decide +kernel, by decide +kernel⟩, (wg3 61 rfl rfl), (wg3 62 rfl rfl)⟩
theorem okmJ0_indexOf_7cf53 : OkV mJ0_indexOf_7cf53 := ⟨⟨(wg3 67 rfl rfl), (wg1 4 rfl rfl), by decide +kernel, by decide +kernel⟩, (wg3 65 rfl rfl), (wg3 66 rfl rfl)⟩
theorem okmJ0_coder_7d493 : OkV mJ0_coder_7d493 := ⟨⟨(wg1 58 rfl rfl), (wg1 4 rfl rfl), by decide +kernel, by decide +kernel⟩, (wg1 56 rfl rfl), (wg1 57 rfl rfl)⟩
theorem okmJ0_isLatin1_aae02 : OkV mJ0_isLatin1_aae02 := ⟨⟨(wg1 68 rfl rfl), (wg1 4 rfl rfl), by decide +kernel, by decide +kernel⟩, (wg1 66 rfl rfl), (wg1 67 rfl rfl)⟩
theorem okmJ0_checkIndex_df160 : OkS mJ0_checkIndex_df160 := ⟨⟨(wg1 74 rfl rfl), (wg1 4 rfl rfl), by decide +kernel, by decide +kernel⟩, (wg1 73 rfl rfl)⟩
theorem okmJ0_checkBoundsBeginEnd_23922 : OkS mJ0_checkBoundsBeginEnd_23922 := ⟨⟨(wg3 98 rfl rfl), (wg1 4 rfl rfl), by decide +kernel, by decide +kernel⟩, (wg3 97 rfl rfl)⟩
theorem okmJ1_charAt_3b067 : OkS mJ1_charAt_3b067 := ⟨⟨(wg1 71 rfl rfl), (wg1 5 rfl rfl), by decide +kernel, by decide +kernel⟩, (wg1 70 rfl rfl)⟩
theorem okmJ1_canEncode_9a6ad : OkS mJ1_canEncode_9a6ad := ⟨⟨(wg3 74 rfl rfl), (wg1 5 rfl rfl), by decide +kernel, by decide +kernel⟩, (wg3 73 rfl rfl)⟩
theorem okmJ1_indexOf_4cfef : OkS mJ1_indexOf_4cfef := ⟨⟨(wg3 71 rfl rfl), (wg1 5 rfl rfl), by decide +kernel, by decide +kernel⟩, (wg3 70 rfl rfl)⟩
theorem okmJ1_indexOfChar_4cfef : OkS mJ1_indexOfChar_4cfef := ⟨⟨(wg3 83 rfl rfl), (wg1 5 rfl rfl), by decide +kernel, by decide +kernel⟩, (wg3 82 rfl rfl)⟩
theorem okmJ2_getChar_3b067 : OkS mJ2_getChar_3b067 := ⟨⟨(wg1 92 rfl rfl), (wg1 7 rfl rfl), by decide +kernel, by decide +kernel⟩, (wg1 91 rfl rfl)⟩
theorem okmJ2_length_9d52b : OkS mJ2_length_9d52b := ⟨⟨(wg1 88 rfl rfl), (wg1 7 rfl rfl), by decide +kernel, by decide +kernel⟩, (wg1 87 rfl rfl)⟩
theorem okmJ2_indexOf_4cfef : OkS mJ2_indexOf_4cfef := ⟨⟨(wg3 86 rfl rfl), (wg1 7 rfl rfl), by decide +kernel, by decide +kernel⟩, (wg3 85 rfl rfl)⟩
theorem okmJ2_indexOfChar_4cfef : OkS mJ2_indexOfChar_4cfef := ⟨⟨(wg3 92 rfl rfl), (wg1 7 rfl rfl), by decide +kernel, by decide +kernel⟩, (wg3 91 rfl rfl)⟩
theorem okmJ2_indexOfCharUnsafe_4cfef : OkS mJ2_indexOfCharUnsafe_4cfef := ⟨⟨(wg3 104 rfl rfl), (wg1 7 rfl rfl), by decide +kernel, by decide +kernel⟩, (wg3 103 rfl rfl)⟩
theorem okmJ2_indexOfSupplementary_4cfef : OkS mJ2_indexOfSupplementary_4cfef := ⟨⟨(wg3 107 rfl rfl), (wg1 7 rfl rfl), by decide +kernel, by decide +kernel⟩, (wg3 106 rfl rfl)⟩
theorem okmJ2_charAt_3b067 : OkS mJ2_charAt_3b067 := ⟨⟨(wg1 82 rfl rfl), (wg1 7 rfl rfl), by decide +kernel, by decide +kernel⟩, (wg1 81 rfl rfl)⟩
theorem okmJ2_checkIndex_2214a : OkS mJ2_checkIndex_2214a := ⟨⟨(wg1 85 rfl rfl), (wg1 7 rfl rfl), by decide +kernel, by decide +kernel⟩, (wg1 84 rfl rfl)⟩
theorem okmJ2_checkBoundsBeginEnd_d044e : OkS mJ2_checkBoundsBeginEnd_d044e := ⟨⟨(wg3 95 rfl rfl), (wg1 7 rfl rfl), by decide +kernel, by decide +kernel⟩, (wg3 94 rfl rfl)⟩
theorem okmJ3_checkIndex_8e157 : OkS mJ3_checkIndex_8e157 := ⟨⟨(wg1 79 rfl rfl), (wg1 6 rfl rfl), by decide +kernel, by decide +kernel⟩, (wg1 78 rfl rfl)⟩
theorem okmJ3_checkFromToIndex_8c36e : OkS mJ3_checkFromToIndex_8c36e := ⟨⟨(wg3 101 rfl rfl), (wg1 6 rfl rfl), by decide +kernel, by decide +kernel⟩, (wg3 100 rfl rfl)⟩
theorem npmX0_init : (parseMethodDescriptor mX0_init.y.desc).map (fun d => d.parameters.length) = some 0 := by decide +kernel
theorem plmX0_init : plainName mX0_init.y.cls = true := by decide +kernel
theorem npmX0_fillPlan : (parseMethodDescriptor mX0_fillPlan.y.desc).map (fun d => d.parameters.length) = some 2 := by decide +kernel
theorem plmX0_fillPlan : plainName mX0_fillPlan.y.cls = true := by decide +kernel
theorem npmX0_skipTell : (parseMethodDescriptor mX0_skipTell.y.desc).map (fun d => d.parameters.length) = some 1 := by decide +kernel
theorem plmX0_skipTell : plainName mX0_skipTell.y.cls = true := by decide +kernel
theorem npmX0_fillTell : (parseMethodDescriptor mX0_fillTell.y.desc).map (fun d => d.parameters.length) = some 3 := by decide +kernel
theorem plmX0_fillTell : plainName mX0_fillTell.y.cls = true := by decide +kernel
theorem npmX0_fillRow : (parseMethodDescriptor mX0_fillRow.y.desc).map (fun d => d.parameters.length) = some 2 := by decide +kernel
theorem plmX0_fillRow : plainName mX0_fillRow.y.cls = true := by decide +kernel
theorem npmX0_fillHolding : (parseMethodDescriptor mX0_fillHolding.y.desc).map (fun d => d.parameters.length) = some 2 := by decide +kernel
theorem plmX0_fillHolding : plainName mX0_fillHolding.y.cls = true := by decide +kernel
theorem npmX0_fillUse : (parseMethodDescriptor mX0_fillUse.y.desc).map (fun d => d.parameters.length) = some 2 := by decide +kernel
theorem plmX0_fillUse : plainName mX0_fillUse.y.cls = true := by decide +kernel
theorem npmX0_fillBank : (parseMethodDescriptor mX0_fillBank.y.desc).map (fun d => d.parameters.length) = some 2 := by decide +kernel
theorem plmX0_fillBank : plainName mX0_fillBank.y.cls = true := by decide +kernel
theorem npmX0_number : (parseMethodDescriptor mX0_number.y.desc).map (fun d => d.parameters.length) = some 4 := by decide +kernel
theorem plmX0_number : plainName mX0_number.y.cls = true := by decide +kernel
theorem npmX0_checkNew : (parseMethodDescriptor mX0_checkNew.y.desc).map (fun d => d.parameters.length) = some 3 := by decide +kernel
theorem plmX0_checkNew : plainName mX0_checkNew.y.cls = true := by decide +kernel
theorem npmX0_holdingNamed : (parseMethodDescriptor mX0_holdingNamed.y.desc).map (fun d => d.parameters.length) = some 2 := by decide +kernel
theorem plmX0_holdingNamed : plainName mX0_holdingNamed.y.cls = true := by decide +kernel
theorem npmX0_ownerOf : (parseMethodDescriptor mX0_ownerOf.y.desc).map (fun d => d.parameters.length) = some 1 := by decide +kernel
theorem plmX0_ownerOf : plainName mX0_ownerOf.y.cls = true := by decide +kernel
theorem npmX1_init : (parseMethodDescriptor mX1_init.y.desc).map (fun d => d.parameters.length) = some 0 := by decide +kernel
theorem plmX1_init : plainName mX1_init.y.cls = true := by decide +kernel
theorem npmX1_begin : (parseMethodDescriptor mX1_begin.y.desc).map (fun d => d.parameters.length) = some 1 := by decide +kernel
theorem plmX1_begin : plainName mX1_begin.y.cls = true := by decide +kernel
theorem npmX1_copyFrom : (parseMethodDescriptor mX1_copyFrom.y.desc).map (fun d => d.parameters.length) = some 1 := by decide +kernel
theorem plmX1_copyFrom : plainName mX1_copyFrom.y.cls = true := by decide +kernel
theorem npmX1_fogOnLand : (parseMethodDescriptor mX1_fogOnLand.y.desc).map (fun d => d.parameters.length) = some 0 := by decide +kernel
theorem plmX1_fogOnLand : plainName mX1_fogOnLand.y.cls = true := by decide +kernel
theorem npmX1_fogOf : (parseMethodDescriptor mX1_fogOf.y.desc).map (fun d => d.parameters.length) = some 1 := by decide +kernel
theorem plmX1_fogOf : plainName mX1_fogOf.y.cls = true := by decide +kernel
theorem npmX1_cellsOf : (parseMethodDescriptor mX1_cellsOf.y.desc).map (fun d => d.parameters.length) = some 1 := by decide +kernel
theorem plmX1_cellsOf : plainName mX1_cellsOf.y.cls = true := by decide +kernel
theorem npmX1_cellsWithoutFog : (parseMethodDescriptor mX1_cellsWithoutFog.y.desc).map (fun d => d.parameters.length) = some 0 := by decide +kernel
theorem plmX1_cellsWithoutFog : plainName mX1_cellsWithoutFog.y.cls = true := by decide +kernel
theorem npmX1_thickestCell : (parseMethodDescriptor mX1_thickestCell.y.desc).map (fun d => d.parameters.length) = some 0 := by decide +kernel
theorem plmX1_thickestCell : plainName mX1_thickestCell.y.cls = true := by decide +kernel
theorem npmX1_asThick : (parseMethodDescriptor mX1_asThick.y.desc).map (fun d => d.parameters.length) = some 1 := by decide +kernel
theorem plmX1_asThick : plainName mX1_asThick.y.cls = true := by decide +kernel
theorem npmX1_isHidden : (parseMethodDescriptor mX1_isHidden.y.desc).map (fun d => d.parameters.length) = some 2 := by decide +kernel
theorem plmX1_isHidden : plainName mX1_isHidden.y.cls = true := by decide +kernel
theorem npmX1_storeOf : (parseMethodDescriptor mX1_storeOf.y.desc).map (fun d => d.parameters.length) = some 1 := by decide +kernel
theorem plmX1_storeOf : plainName mX1_storeOf.y.cls = true := by decide +kernel
theorem npmX1_loan : (parseMethodDescriptor mX1_loan.y.desc).map (fun d => d.parameters.length) = some 2 := by decide +kernel
theorem plmX1_loan : plainName mX1_loan.y.cls = true := by decide +kernel
theorem npmX1_addLoan : (parseMethodDescriptor mX1_addLoan.y.desc).map (fun d => d.parameters.length) = some 3 := by decide +kernel
theorem plmX1_addLoan : plainName mX1_addLoan.y.cls = true := by decide +kernel
theorem npmX1_netted : (parseMethodDescriptor mX1_netted.y.desc).map (fun d => d.parameters.length) = some 1 := by decide +kernel
theorem plmX1_netted : plainName mX1_netted.y.cls = true := by decide +kernel
theorem npmX2_init : (parseMethodDescriptor mX2_init.y.desc).map (fun d => d.parameters.length) = some 0 := by decide +kernel
theorem plmX2_init : plainName mX2_init.y.cls = true := by decide +kernel
theorem npmX2_check : (parseMethodDescriptor mX2_check.y.desc).map (fun d => d.parameters.length) = some 1 := by decide +kernel
theorem plmX2_check : plainName mX2_check.y.cls = true := by decide +kernel
theorem npmX2_checkTell : (parseMethodDescriptor mX2_checkTell.y.desc).map (fun d => d.parameters.length) = some 2 := by decide +kernel
theorem plmX2_checkTell : plainName mX2_checkTell.y.cls = true := by decide +kernel
theorem npmX2_countTell : (parseMethodDescriptor mX2_countTell.y.desc).map (fun d => d.parameters.length) = some 2 := by decide +kernel
theorem plmX2_countTell : plainName mX2_countTell.y.cls = true := by decide +kernel
theorem npmX2_checkLaw : (parseMethodDescriptor mX2_checkLaw.y.desc).map (fun d => d.parameters.length) = some 1 := by decide +kernel
theorem plmX2_checkLaw : plainName mX2_checkLaw.y.cls = true := by decide +kernel
theorem npmX2_checkSum : (parseMethodDescriptor mX2_checkSum.y.desc).map (fun d => d.parameters.length) = some 1 := by decide +kernel
theorem plmX2_checkSum : plainName mX2_checkSum.y.cls = true := by decide +kernel
theorem npmX2_takeMany : (parseMethodDescriptor mX2_takeMany.y.desc).map (fun d => d.parameters.length) = some 3 := by decide +kernel
theorem plmX2_takeMany : plainName mX2_takeMany.y.cls = true := by decide +kernel
theorem npmX2_take : (parseMethodDescriptor mX2_take.y.desc).map (fun d => d.parameters.length) = some 2 := by decide +kernel
theorem plmX2_take : plainName mX2_take.y.cls = true := by decide +kernel
theorem npmX2_isUnit : (parseMethodDescriptor mX2_isUnit.y.desc).map (fun d => d.parameters.length) = some 1 := by decide +kernel
theorem plmX2_isUnit : plainName mX2_isUnit.y.cls = true := by decide +kernel
theorem npmX2_isOperator : (parseMethodDescriptor mX2_isOperator.y.desc).map (fun d => d.parameters.length) = some 1 := by decide +kernel
theorem plmX2_isOperator : plainName mX2_isOperator.y.cls = true := by decide +kernel
theorem npmX2_namesOf : (parseMethodDescriptor mX2_namesOf.y.desc).map (fun d => d.parameters.length) = some 1 := by decide +kernel
theorem plmX2_namesOf : plainName mX2_namesOf.y.cls = true := by decide +kernel
theorem npmX2_numbersOf : (parseMethodDescriptor mX2_numbersOf.y.desc).map (fun d => d.parameters.length) = some 1 := by decide +kernel
theorem plmX2_numbersOf : plainName mX2_numbersOf.y.cls = true := by decide +kernel
theorem npmX2_mostOf : (parseMethodDescriptor mX2_mostOf.y.desc).map (fun d => d.parameters.length) = some 1 := by decide +kernel
theorem plmX2_mostOf : plainName mX2_mostOf.y.cls = true := by decide +kernel
theorem npmX3_init : (parseMethodDescriptor mX3_init.y.desc).map (fun d => d.parameters.length) = some 0 := by decide +kernel
theorem plmX3_init : plainName mX3_init.y.cls = true := by decide +kernel
theorem npmX3_post : (parseMethodDescriptor mX3_post.y.desc).map (fun d => d.parameters.length) = some 3 := by decide +kernel
theorem plmX3_post : plainName mX3_post.y.cls = true := by decide +kernel
theorem npmX3_watchedAt : (parseMethodDescriptor mX3_watchedAt.y.desc).map (fun d => d.parameters.length) = some 1 := by decide +kernel
theorem plmX3_watchedAt : plainName mX3_watchedAt.y.cls = true := by decide +kernel
theorem npmX3_postOne : (parseMethodDescriptor mX3_postOne.y.desc).map (fun d => d.parameters.length) = some 0 := by decide +kernel
theorem plmX3_postOne : plainName mX3_postOne.y.cls = true := by decide +kernel
theorem npmX3_postTwo : (parseMethodDescriptor mX3_postTwo.y.desc).map (fun d => d.parameters.length) = some 0 := by decide +kernel
theorem plmX3_postTwo : plainName mX3_postTwo.y.cls = true := by decide +kernel
theorem npmX3_postThree : (parseMethodDescriptor mX3_postThree.y.desc).map (fun d => d.parameters.length) = some 0 := by decide +kernel
theorem plmX3_postThree : plainName mX3_postThree.y.cls = true := by decide +kernel
theorem npmX3_canBeWatched : (parseMethodDescriptor mX3_canBeWatched.y.desc).map (fun d => d.parameters.length) = some 1 := by decide +kernel
theorem plmX3_canBeWatched : plainName mX3_canBeWatched.y.cls = true := by decide +kernel
theorem npmX3_cuts : (parseMethodDescriptor mX3_cuts.y.desc).map (fun d => d.parameters.length) = some 1 := by decide +kernel
theorem plmX3_cuts : plainName mX3_cuts.y.cls = true := by decide +kernel
theorem npmX4_init : (parseMethodDescriptor mX4_init.y.desc).map (fun d => d.parameters.length) = some 0 := by decide +kernel
theorem plmX4_init : plainName mX4_init.y.cls = true := by decide +kernel
theorem npmX4_knows : (parseMethodDescriptor mX4_knows.y.desc).map (fun d => d.parameters.length) = some 1 := by decide +kernel
theorem plmX4_knows : plainName mX4_knows.y.cls = true := by decide +kernel
theorem npmX4_add : (parseMethodDescriptor mX4_add.y.desc).map (fun d => d.parameters.length) = some 3 := by decide +kernel
theorem plmX4_add : plainName mX4_add.y.cls = true := by decide +kernel
theorem npmX4_weigh : (parseMethodDescriptor mX4_weigh.y.desc).map (fun d => d.parameters.length) = some 4 := by decide +kernel
theorem plmX4_weigh : plainName mX4_weigh.y.cls = true := by decide +kernel
theorem npmX4_agrees : (parseMethodDescriptor mX4_agrees.y.desc).map (fun d => d.parameters.length) = some 2 := by decide +kernel
theorem plmX4_agrees : plainName mX4_agrees.y.cls = true := by decide +kernel
theorem npmX4_keepFog : (parseMethodDescriptor mX4_keepFog.y.desc).map (fun d => d.parameters.length) = some 1 := by decide +kernel
theorem plmX4_keepFog : plainName mX4_keepFog.y.cls = true := by decide +kernel
theorem npmX4_firstLeft : (parseMethodDescriptor mX4_firstLeft.y.desc).map (fun d => d.parameters.length) = some 0 := by decide +kernel
theorem plmX4_firstLeft : plainName mX4_firstLeft.y.cls = true := by decide +kernel
theorem npmX4_bestCell : (parseMethodDescriptor mX4_bestCell.y.desc).map (fun d => d.parameters.length) = some 1 := by decide +kernel
theorem plmX4_bestCell : plainName mX4_bestCell.y.cls = true := by decide +kernel
theorem npmX4_mostAlike : (parseMethodDescriptor mX4_mostAlike.y.desc).map (fun d => d.parameters.length) = some 1 := by decide +kernel
theorem plmX4_mostAlike : plainName mX4_mostAlike.y.cls = true := by decide +kernel
theorem npmX5_init : (parseMethodDescriptor mX5_init.y.desc).map (fun d => d.parameters.length) = some 0 := by decide +kernel
theorem plmX5_init : plainName mX5_init.y.cls = true := by decide +kernel
theorem npmX5_clear : (parseMethodDescriptor mX5_clear.y.desc).map (fun d => d.parameters.length) = some 0 := by decide +kernel
theorem plmX5_clear : plainName mX5_clear.y.cls = true := by decide +kernel
theorem npmX5_make : (parseMethodDescriptor mX5_make.y.desc).map (fun d => d.parameters.length) = some 3 := by decide +kernel
theorem plmX5_make : plainName mX5_make.y.cls = true := by decide +kernel
theorem npmX5_makePart : (parseMethodDescriptor mX5_makePart.y.desc).map (fun d => d.parameters.length) = some 2 := by decide +kernel
theorem plmX5_makePart : plainName mX5_makePart.y.cls = true := by decide +kernel
theorem npmX5_addWaiting : (parseMethodDescriptor mX5_addWaiting.y.desc).map (fun d => d.parameters.length) = some 1 := by decide +kernel
theorem plmX5_addWaiting : plainName mX5_addWaiting.y.cls = true := by decide +kernel
theorem npmX5_push : (parseMethodDescriptor mX5_push.y.desc).map (fun d => d.parameters.length) = some 1 := by decide +kernel
theorem plmX5_push : plainName mX5_push.y.cls = true := by decide +kernel
theorem npmX5_startLaw : (parseMethodDescriptor mX5_startLaw.y.desc).map (fun d => d.parameters.length) = some 1 := by decide +kernel
theorem plmX5_startLaw : plainName mX5_startLaw.y.cls = true := by decide +kernel
theorem npmX5_add : (parseMethodDescriptor mX5_add.y.desc).map (fun d => d.parameters.length) = some 2 := by decide +kernel
theorem plmX5_add : plainName mX5_add.y.cls = true := by decide +kernel
theorem npmX5_aim : (parseMethodDescriptor mX5_aim.y.desc).map (fun d => d.parameters.length) = some 2 := by decide +kernel
theorem plmX5_aim : plainName mX5_aim.y.cls = true := by decide +kernel
theorem npmX5_rank : (parseMethodDescriptor mX5_rank.y.desc).map (fun d => d.parameters.length) = some 1 := by decide +kernel
theorem plmX5_rank : plainName mX5_rank.y.cls = true := by decide +kernel
theorem npmX5_clearVars : (parseMethodDescriptor mX5_clearVars.y.desc).map (fun d => d.parameters.length) = some 1 := by decide +kernel
theorem plmX5_clearVars : plainName mX5_clearVars.y.cls = true := by decide +kernel
theorem npmX5_answer : (parseMethodDescriptor mX5_answer.y.desc).map (fun d => d.parameters.length) = some 1 := by decide +kernel
theorem plmX5_answer : plainName mX5_answer.y.cls = true := by decide +kernel
theorem npmX5_joined : (parseMethodDescriptor mX5_joined.y.desc).map (fun d => d.parameters.length) = some 3 := by decide +kernel
theorem plmX5_joined : plainName mX5_joined.y.cls = true := by decide +kernel
theorem npmX6_init : (parseMethodDescriptor mX6_init.y.desc).map (fun d => d.parameters.length) = some 0 := by decide +kernel
theorem plmX6_init : plainName mX6_init.y.cls = true := by decide +kernel
theorem npmX6_empty : (parseMethodDescriptor mX6_empty.y.desc).map (fun d => d.parameters.length) = some 0 := by decide +kernel
theorem plmX6_empty : plainName mX6_empty.y.cls = true := by decide +kernel
theorem npmX6_keep : (parseMethodDescriptor mX6_keep.y.desc).map (fun d => d.parameters.length) = some 1 := by decide +kernel
theorem plmX6_keep : plainName mX6_keep.y.cls = true := by decide +kernel
theorem npmX6_giveBack : (parseMethodDescriptor mX6_giveBack.y.desc).map (fun d => d.parameters.length) = some 1 := by decide +kernel
theorem plmX6_giveBack : plainName mX6_giveBack.y.cls = true := by decide +kernel
theorem npmX7_init : (parseMethodDescriptor mX7_init.y.desc).map (fun d => d.parameters.length) = some 0 := by decide +kernel
theorem plmX7_init : plainName mX7_init.y.cls = true := by decide +kernel
theorem npmX7_clear : (parseMethodDescriptor mX7_clear.y.desc).map (fun d => d.parameters.length) = some 0 := by decide +kernel
theorem plmX7_clear : plainName mX7_clear.y.cls = true := by decide +kernel
theorem npmX7_putCell : (parseMethodDescriptor mX7_putCell.y.desc).map (fun d => d.parameters.length) = some 3 := by decide +kernel
theorem plmX7_putCell : plainName mX7_putCell.y.cls = true := by decide +kernel
theorem npmX7_cellAt : (parseMethodDescriptor mX7_cellAt.y.desc).map (fun d => d.parameters.length) = some 2 := by decide +kernel
theorem plmX7_cellAt : plainName mX7_cellAt.y.cls = true := by decide +kernel
theorem npmX7_toldCell : (parseMethodDescriptor mX7_toldCell.y.desc).map (fun d => d.parameters.length) = some 1 := by decide +kernel
theorem plmX7_toldCell : plainName mX7_toldCell.y.cls = true := by decide +kernel
theorem npmX7_isLand : (parseMethodDescriptor mX7_isLand.y.desc).map (fun d => d.parameters.length) = some 1 := by decide +kernel
theorem plmX7_isLand : plainName mX7_isLand.y.cls = true := by decide +kernel
theorem npmX7_hasHolding : (parseMethodDescriptor mX7_hasHolding.y.desc).map (fun d => d.parameters.length) = some 1 := by decide +kernel
theorem plmX7_hasHolding : plainName mX7_hasHolding.y.cls = true := by decide +kernel
theorem npmX7_hasHoldingsOfAllCells : (parseMethodDescriptor mX7_hasHoldingsOfAllCells.y.desc).map (fun d => d.parameters.length) = some 0 := by decide +kernel
theorem plmX7_hasHoldingsOfAllCells : plainName mX7_hasHoldingsOfAllCells.y.cls = true := by decide +kernel
theorem npmX7_hasUse : (parseMethodDescriptor mX7_hasUse.y.desc).map (fun d => d.parameters.length) = some 1 := by decide +kernel
theorem plmX7_hasUse : plainName mX7_hasUse.y.cls = true := by decide +kernel
theorem npmX7_isHourOf : (parseMethodDescriptor mX7_isHourOf.y.desc).map (fun d => d.parameters.length) = some 2 := by decide +kernel
theorem plmX7_isHourOf : plainName mX7_isHourOf.y.cls = true := by decide +kernel
theorem npmX8_init : (parseMethodDescriptor mX8_init.y.desc).map (fun d => d.parameters.length) = some 0 := by decide +kernel
theorem plmX8_init : plainName mX8_init.y.cls = true := by decide +kernel
theorem npmX8_passHour : (parseMethodDescriptor mX8_passHour.y.desc).map (fun d => d.parameters.length) = some 4 := by decide +kernel
theorem plmX8_passHour : plainName mX8_passHour.y.cls = true := by decide +kernel
theorem npmX8_beginHour : (parseMethodDescriptor mX8_beginHour.y.desc).map (fun d => d.parameters.length) = some 2 := by decide +kernel
theorem plmX8_beginHour : plainName mX8_beginHour.y.cls = true := by decide +kernel
theorem npmX8_isGust : (parseMethodDescriptor mX8_isGust.y.desc).map (fun d => d.parameters.length) = some 3 := by decide +kernel
theorem plmX8_isGust : plainName mX8_isGust.y.cls = true := by decide +kernel
theorem npmX8_mixed : (parseMethodDescriptor mX8_mixed.y.desc).map (fun d => d.parameters.length) = some 2 := by decide +kernel
theorem plmX8_mixed : plainName mX8_mixed.y.cls = true := by decide +kernel
theorem npmX8_step : (parseMethodDescriptor mX8_step.y.desc).map (fun d => d.parameters.length) = some 3 := by decide +kernel
theorem plmX8_step : plainName mX8_step.y.cls = true := by decide +kernel
theorem npmX8_thinAll : (parseMethodDescriptor mX8_thinAll.y.desc).map (fun d => d.parameters.length) = some 3 := by decide +kernel
theorem plmX8_thinAll : plainName mX8_thinAll.y.cls = true := by decide +kernel
theorem npmX8_ofCell : (parseMethodDescriptor mX8_ofCell.y.desc).map (fun d => d.parameters.length) = some 4 := by decide +kernel
theorem plmX8_ofCell : plainName mX8_ofCell.y.cls = true := by decide +kernel
theorem npmX8_giveAll : (parseMethodDescriptor mX8_giveAll.y.desc).map (fun d => d.parameters.length) = some 2 := by decide +kernel
theorem plmX8_giveAll : plainName mX8_giveAll.y.cls = true := by decide +kernel
theorem npmX9_init : (parseMethodDescriptor mX9_init.y.desc).map (fun d => d.parameters.length) = some 0 := by decide +kernel
theorem plmX9_init : plainName mX9_init.y.cls = true := by decide +kernel
theorem npmX9_putWord : (parseMethodDescriptor mX9_putWord.y.desc).map (fun d => d.parameters.length) = some 1 := by decide +kernel
theorem plmX9_putWord : plainName mX9_putWord.y.cls = true := by decide +kernel
theorem npmX9_byteAt : (parseMethodDescriptor mX9_byteAt.y.desc).map (fun d => d.parameters.length) = some 1 := by decide +kernel
theorem plmX9_byteAt : plainName mX9_byteAt.y.cls = true := by decide +kernel
theorem npmX10_init : (parseMethodDescriptor mX10_init.y.desc).map (fun d => d.parameters.length) = some 0 := by decide +kernel
theorem plmX10_init : plainName mX10_init.y.cls = true := by decide +kernel
theorem npmX10_scan : (parseMethodDescriptor mX10_scan.y.desc).map (fun d => d.parameters.length) = some 1 := by decide +kernel
theorem plmX10_scan : plainName mX10_scan.y.cls = true := by decide +kernel
theorem npmX10_fail : (parseMethodDescriptor mX10_fail.y.desc).map (fun d => d.parameters.length) = some 2 := by decide +kernel
theorem plmX10_fail : plainName mX10_fail.y.cls = true := by decide +kernel
theorem npmX10_kindAt : (parseMethodDescriptor mX10_kindAt.y.desc).map (fun d => d.parameters.length) = some 1 := by decide +kernel
theorem plmX10_kindAt : plainName mX10_kindAt.y.cls = true := by decide +kernel
theorem npmX10_valueAt : (parseMethodDescriptor mX10_valueAt.y.desc).map (fun d => d.parameters.length) = some 1 := by decide +kernel
theorem plmX10_valueAt : plainName mX10_valueAt.y.cls = true := by decide +kernel
theorem npmX10_placeAt : (parseMethodDescriptor mX10_placeAt.y.desc).map (fun d => d.parameters.length) = some 1 := by decide +kernel
theorem plmX10_placeAt : plainName mX10_placeAt.y.cls = true := by decide +kernel
theorem npmX10_scanToken : (parseMethodDescriptor mX10_scanToken.y.desc).map (fun d => d.parameters.length) = some 2 := by decide +kernel
theorem plmX10_scanToken : plainName mX10_scanToken.y.cls = true := by decide +kernel
theorem npmX10_scanLetters : (parseMethodDescriptor mX10_scanLetters.y.desc).map (fun d => d.parameters.length) = some 2 := by decide +kernel
theorem plmX10_scanLetters : plainName mX10_scanLetters.y.cls = true := by decide +kernel
theorem npmX10_scanDigits : (parseMethodDescriptor mX10_scanDigits.y.desc).map (fun d => d.parameters.length) = some 2 := by decide +kernel
theorem plmX10_scanDigits : plainName mX10_scanDigits.y.cls = true := by decide +kernel
theorem npmX10_put : (parseMethodDescriptor mX10_put.y.desc).map (fun d => d.parameters.length) = some 3 := by decide +kernel
theorem plmX10_put : plainName mX10_put.y.cls = true := by decide +kernel
theorem npmX10_kindOf : (parseMethodDescriptor mX10_kindOf.y.desc).map (fun d => d.parameters.length) = some 1 := by decide +kernel
theorem plmX10_kindOf : plainName mX10_kindOf.y.cls = true := by decide +kernel
theorem npmX10_pastBlanks : (parseMethodDescriptor mX10_pastBlanks.y.desc).map (fun d => d.parameters.length) = some 2 := by decide +kernel
theorem plmX10_pastBlanks : plainName mX10_pastBlanks.y.cls = true := by decide +kernel
theorem npmX10_isBlank : (parseMethodDescriptor mX10_isBlank.y.desc).map (fun d => d.parameters.length) = some 1 := by decide +kernel
theorem plmX10_isBlank : plainName mX10_isBlank.y.cls = true := by decide +kernel
theorem npmX10_isLetter : (parseMethodDescriptor mX10_isLetter.y.desc).map (fun d => d.parameters.length) = some 1 := by decide +kernel
theorem plmX10_isLetter : plainName mX10_isLetter.y.cls = true := by decide +kernel
theorem npmX10_isDigit : (parseMethodDescriptor mX10_isDigit.y.desc).map (fun d => d.parameters.length) = some 1 := by decide +kernel
theorem plmX10_isDigit : plainName mX10_isDigit.y.cls = true := by decide +kernel
theorem npmX10_keyWith : (parseMethodDescriptor mX10_keyWith.y.desc).map (fun d => d.parameters.length) = some 2 := by decide +kernel
theorem plmX10_keyWith : plainName mX10_keyWith.y.cls = true := by decide +kernel
theorem npmX10_lettersOf : (parseMethodDescriptor mX10_lettersOf.y.desc).map (fun d => d.parameters.length) = some 1 := by decide +kernel
theorem plmX10_lettersOf : plainName mX10_lettersOf.y.cls = true := by decide +kernel
theorem npmX11_init : (parseMethodDescriptor mX11_init.y.desc).map (fun d => d.parameters.length) = some 0 := by decide +kernel
theorem plmX11_init : plainName mX11_init.y.cls = true := by decide +kernel
theorem npmX11_feed : (parseMethodDescriptor mX11_feed.y.desc).map (fun d => d.parameters.length) = some 5 := by decide +kernel
theorem plmX11_feed : plainName mX11_feed.y.cls = true := by decide +kernel
theorem npmX11_back : (parseMethodDescriptor mX11_back.y.desc).map (fun d => d.parameters.length) = some 1 := by decide +kernel
theorem plmX11_back : plainName mX11_back.y.cls = true := by decide +kernel
theorem npmX11_read : (parseMethodDescriptor mX11_read.y.desc).map (fun d => d.parameters.length) = some 0 := by decide +kernel
theorem plmX11_read : plainName mX11_read.y.cls = true := by decide +kernel
theorem npmX11_place : (parseMethodDescriptor mX11_place.y.desc).map (fun d => d.parameters.length) = some 0 := by decide +kernel
theorem plmX11_place : plainName mX11_place.y.cls = true := by decide +kernel
theorem npmX11_cell : (parseMethodDescriptor mX11_cell.y.desc).map (fun d => d.parameters.length) = some 3 := by decide +kernel
theorem plmX11_cell : plainName mX11_cell.y.cls = true := by decide +kernel
theorem npmX11_holding : (parseMethodDescriptor mX11_holding.y.desc).map (fun d => d.parameters.length) = some 2 := by decide +kernel
theorem plmX11_holding : plainName mX11_holding.y.cls = true := by decide +kernel
theorem npmX11_use : (parseMethodDescriptor mX11_use.y.desc).map (fun d => d.parameters.length) = some 2 := by decide +kernel
theorem plmX11_use : plainName mX11_use.y.cls = true := by decide +kernel
theorem npmX11_draw : (parseMethodDescriptor mX11_draw.y.desc).map (fun d => d.parameters.length) = some 4 := by decide +kernel
theorem plmX11_draw : plainName mX11_draw.y.cls = true := by decide +kernel
theorem npmX11_lend : (parseMethodDescriptor mX11_lend.y.desc).map (fun d => d.parameters.length) = some 3 := by decide +kernel
theorem plmX11_lend : plainName mX11_lend.y.cls = true := by decide +kernel
theorem npmX11_move : (parseMethodDescriptor mX11_move.y.desc).map (fun d => d.parameters.length) = some 3 := by decide +kernel
theorem plmX11_move : plainName mX11_move.y.cls = true := by decide +kernel
theorem npmX11_hours : (parseMethodDescriptor mX11_hours.y.desc).map (fun d => d.parameters.length) = some 1 := by decide +kernel
theorem plmX11_hours : plainName mX11_hours.y.cls = true := by decide +kernel
theorem npmX11_undo : (parseMethodDescriptor mX11_undo.y.desc).map (fun d => d.parameters.length) = some 0 := by decide +kernel
theorem plmX11_undo : plainName mX11_undo.y.cls = true := by decide +kernel
theorem npmX11_then : (parseMethodDescriptor mX11_then.y.desc).map (fun d => d.parameters.length) = some 3 := by decide +kernel
theorem plmX11_then : plainName mX11_then.y.cls = true := by decide +kernel
theorem npmX11_all : (parseMethodDescriptor mX11_all.y.desc).map (fun d => d.parameters.length) = some 3 := by decide +kernel
theorem plmX11_all : plainName mX11_all.y.cls = true := by decide +kernel
theorem npmX11_thickest : (parseMethodDescriptor mX11_thickest.y.desc).map (fun d => d.parameters.length) = some 2 := by decide +kernel
theorem plmX11_thickest : plainName mX11_thickest.y.cls = true := by decide +kernel
theorem npmX11_hid : (parseMethodDescriptor mX11_hid.y.desc).map (fun d => d.parameters.length) = some 4 := by decide +kernel
theorem plmX11_hid : plainName mX11_hid.y.cls = true := by decide +kernel
theorem npmX11_lost : (parseMethodDescriptor mX11_lost.y.desc).map (fun d => d.parameters.length) = some 1 := by decide +kernel
theorem plmX11_lost : plainName mX11_lost.y.cls = true := by decide +kernel
theorem npmX11_served : (parseMethodDescriptor mX11_served.y.desc).map (fun d => d.parameters.length) = some 2 := by decide +kernel
theorem plmX11_served : plainName mX11_served.y.cls = true := by decide +kernel
theorem npmX11_missed : (parseMethodDescriptor mX11_missed.y.desc).map (fun d => d.parameters.length) = some 2 := by decide +kernel
theorem plmX11_missed : plainName mX11_missed.y.cls = true := by decide +kernel
theorem npmX11_over : (parseMethodDescriptor mX11_over.y.desc).map (fun d => d.parameters.length) = some 0 := by decide +kernel
theorem plmX11_over : plainName mX11_over.y.cls = true := by decide +kernel
theorem npmX11_least : (parseMethodDescriptor mX11_least.y.desc).map (fun d => d.parameters.length) = some 4 := by decide +kernel
theorem plmX11_least : plainName mX11_least.y.cls = true := by decide +kernel
theorem npmX11_unseen : (parseMethodDescriptor mX11_unseen.y.desc).map (fun d => d.parameters.length) = some 5 := by decide +kernel
theorem plmX11_unseen : plainName mX11_unseen.y.cls = true := by decide +kernel
theorem npmX11_watch : (parseMethodDescriptor mX11_watch.y.desc).map (fun d => d.parameters.length) = some 4 := by decide +kernel
theorem plmX11_watch : plainName mX11_watch.y.cls = true := by decide +kernel
theorem npmX11_sight : (parseMethodDescriptor mX11_sight.y.desc).map (fun d => d.parameters.length) = some 3 := by decide +kernel
theorem plmX11_sight : plainName mX11_sight.y.cls = true := by decide +kernel
theorem npmX11_wind : (parseMethodDescriptor mX11_wind.y.desc).map (fun d => d.parameters.length) = some 1 := by decide +kernel
theorem plmX11_wind : plainName mX11_wind.y.cls = true := by decide +kernel
theorem npmX11_lent : (parseMethodDescriptor mX11_lent.y.desc).map (fun d => d.parameters.length) = some 2 := by decide +kernel
theorem plmX11_lent : plainName mX11_lent.y.cls = true := by decide +kernel
theorem npmX11_gone : (parseMethodDescriptor mX11_gone.y.desc).map (fun d => d.parameters.length) = some 1 := by decide +kernel
theorem plmX11_gone : plainName mX11_gone.y.cls = true := by decide +kernel
theorem npmX11_year : (parseMethodDescriptor mX11_year.y.desc).map (fun d => d.parameters.length) = some 3 := by decide +kernel
theorem plmX11_year : plainName mX11_year.y.cls = true := by decide +kernel
theorem npmX11_tell : (parseMethodDescriptor mX11_tell.y.desc).map (fun d => d.parameters.length) = some 4 := by decide +kernel
theorem plmX11_tell : plainName mX11_tell.y.cls = true := by decide +kernel
theorem npmX11_forget : (parseMethodDescriptor mX11_forget.y.desc).map (fun d => d.parameters.length) = some 0 := by decide +kernel
theorem plmX11_forget : plainName mX11_forget.y.cls = true := by decide +kernel
theorem npmX11_leaks : (parseMethodDescriptor mX11_leaks.y.desc).map (fun d => d.parameters.length) = some 1 := by decide +kernel
theorem plmX11_leaks : plainName mX11_leaks.y.cls = true := by decide +kernel
theorem npmX11_sure : (parseMethodDescriptor mX11_sure.y.desc).map (fun d => d.parameters.length) = some 1 := by decide +kernel
theorem plmX11_sure : plainName mX11_sure.y.cls = true := by decide +kernel
theorem npmX11_ask : (parseMethodDescriptor mX11_ask.y.desc).map (fun d => d.parameters.length) = some 2 := by decide +kernel
theorem plmX11_ask : plainName mX11_ask.y.cls = true := by decide +kernel
theorem npmX11_hold : (parseMethodDescriptor mX11_hold.y.desc).map (fun d => d.parameters.length) = some 1 := by decide +kernel
theorem plmX11_hold : plainName mX11_hold.y.cls = true := by decide +kernel
theorem npmX11_restore : (parseMethodDescriptor mX11_restore.y.desc).map (fun d => d.parameters.length) = some 1 := by decide +kernel
theorem plmX11_restore : plainName mX11_restore.y.cls = true := by decide +kernel
theorem npmX11_count : (parseMethodDescriptor mX11_count.y.desc).map (fun d => d.parameters.length) = some 1 := by decide +kernel
theorem plmX11_count : plainName mX11_count.y.cls = true := by decide +kernel
theorem npmX11_beginDraft : (parseMethodDescriptor mX11_beginDraft.y.desc).map (fun d => d.parameters.length) = some 0 := by decide +kernel
theorem plmX11_beginDraft : plainName mX11_beginDraft.y.cls = true := by decide +kernel
theorem npmX11_passLater : (parseMethodDescriptor mX11_passLater.y.desc).map (fun d => d.parameters.length) = some 2 := by decide +kernel
theorem plmX11_passLater : plainName mX11_passLater.y.cls = true := by decide +kernel
theorem npmX11_areTwoHoldings : (parseMethodDescriptor mX11_areTwoHoldings.y.desc).map (fun d => d.parameters.length) = some 2 := by decide +kernel
theorem plmX11_areTwoHoldings : plainName mX11_areTwoHoldings.y.cls = true := by decide +kernel
theorem npmX11_isOver : (parseMethodDescriptor mX11_isOver.y.desc).map (fun d => d.parameters.length) = some 1 := by decide +kernel
theorem plmX11_isOver : plainName mX11_isOver.y.cls = true := by decide +kernel
theorem npmX11_isServed : (parseMethodDescriptor mX11_isServed.y.desc).map (fun d => d.parameters.length) = some 2 := by decide +kernel
theorem plmX11_isServed : plainName mX11_isServed.y.cls = true := by decide +kernel
theorem npmX11_seenTowards : (parseMethodDescriptor mX11_seenTowards.y.desc).map (fun d => d.parameters.length) = some 4 := by decide +kernel
theorem plmX11_seenTowards : plainName mX11_seenTowards.y.cls = true := by decide +kernel
theorem npmX11_slotsHeld : (parseMethodDescriptor mX11_slotsHeld.y.desc).map (fun d => d.parameters.length) = some 0 := by decide +kernel
theorem plmX11_slotsHeld : plainName mX11_slotsHeld.y.cls = true := by decide +kernel
theorem npmX11_isAhead : (parseMethodDescriptor mX11_isAhead.y.desc).map (fun d => d.parameters.length) = some 1 := by decide +kernel
theorem plmX11_isAhead : plainName mX11_isAhead.y.cls = true := by decide +kernel
theorem npmX11_isThick : (parseMethodDescriptor mX11_isThick.y.desc).map (fun d => d.parameters.length) = some 1 := by decide +kernel
theorem plmX11_isThick : plainName mX11_isThick.y.cls = true := by decide +kernel
theorem npmX11_told : (parseMethodDescriptor mX11_told.y.desc).map (fun d => d.parameters.length) = some 1 := by decide +kernel
theorem plmX11_told : plainName mX11_told.y.cls = true := by decide +kernel
theorem npmX11_stepAcross : (parseMethodDescriptor mX11_stepAcross.y.desc).map (fun d => d.parameters.length) = some 1 := by decide +kernel
theorem plmX11_stepAcross : plainName mX11_stepAcross.y.cls = true := by decide +kernel
theorem npmX11_stepDown : (parseMethodDescriptor mX11_stepDown.y.desc).map (fun d => d.parameters.length) = some 1 := by decide +kernel
theorem plmX11_stepDown : plainName mX11_stepDown.y.cls = true := by decide +kernel
theorem npmX11_withNeighbours : (parseMethodDescriptor mX11_withNeighbours.y.desc).map (fun d => d.parameters.length) = some 1 := by decide +kernel
theorem plmX11_withNeighbours : plainName mX11_withNeighbours.y.cls = true := by decide +kernel
theorem npmX11_within : (parseMethodDescriptor mX11_within.y.desc).map (fun d => d.parameters.length) = some 2 := by decide +kernel
theorem plmX11_within : plainName mX11_within.y.cls = true := by decide +kernel
theorem npmX11_sum : (parseMethodDescriptor mX11_sum.y.desc).map (fun d => d.parameters.length) = some 1 := by decide +kernel
theorem plmX11_sum : plainName mX11_sum.y.cls = true := by decide +kernel
theorem npmX11_copy : (parseMethodDescriptor mX11_copy.y.desc).map (fun d => d.parameters.length) = some 2 := by decide +kernel
theorem plmX11_copy : plainName mX11_copy.y.cls = true := by decide +kernel
theorem npmX11_fill : (parseMethodDescriptor mX11_fill.y.desc).map (fun d => d.parameters.length) = some 2 := by decide +kernel
theorem plmX11_fill : plainName mX11_fill.y.cls = true := by decide +kernel
theorem npmX12_init : (parseMethodDescriptor mX12_init.y.desc).map (fun d => d.parameters.length) = some 0 := by decide +kernel
theorem plmX12_init : plainName mX12_init.y.cls = true := by decide +kernel
theorem npmX12_feed : (parseMethodDescriptor mX12_feed.y.desc).map (fun d => d.parameters.length) = some 5 := by decide +kernel
theorem plmX12_feed : plainName mX12_feed.y.cls = true := by decide +kernel
theorem npmX12_put : (parseMethodDescriptor mX12_put.y.desc).map (fun d => d.parameters.length) = some 1 := by decide +kernel
theorem plmX12_put : plainName mX12_put.y.cls = true := by decide +kernel
theorem npmX12_back : (parseMethodDescriptor mX12_back.y.desc).map (fun d => d.parameters.length) = some 1 := by decide +kernel
theorem plmX12_back : plainName mX12_back.y.cls = true := by decide +kernel
theorem npmX12_byteAt : (parseMethodDescriptor mX12_byteAt.y.desc).map (fun d => d.parameters.length) = some 1 := by decide +kernel
theorem plmX12_byteAt : plainName mX12_byteAt.y.cls = true := by decide +kernel
theorem npmX12_isDigit : (parseMethodDescriptor mX12_isDigit.y.desc).map (fun d => d.parameters.length) = some 1 := by decide +kernel
theorem plmX12_isDigit : plainName mX12_isDigit.y.cls = true := by decide +kernel
theorem npmX12_isLetter : (parseMethodDescriptor mX12_isLetter.y.desc).map (fun d => d.parameters.length) = some 1 := by decide +kernel
theorem plmX12_isLetter : plainName mX12_isLetter.y.cls = true := by decide +kernel
theorem npmX12_appends : (parseMethodDescriptor mX12_appends.y.desc).map (fun d => d.parameters.length) = some 2 := by decide +kernel
theorem plmX12_appends : plainName mX12_appends.y.cls = true := by decide +kernel
theorem npmX12_word : (parseMethodDescriptor mX12_word.y.desc).map (fun d => d.parameters.length) = some 7 := by decide +kernel
theorem plmX12_word : plainName mX12_word.y.cls = true := by decide +kernel
theorem npmX12_token : (parseMethodDescriptor mX12_token.y.desc).map (fun d => d.parameters.length) = some 4 := by decide +kernel
theorem plmX12_token : plainName mX12_token.y.cls = true := by decide +kernel
theorem npmX12_cut : (parseMethodDescriptor mX12_cut.y.desc).map (fun d => d.parameters.length) = some 0 := by decide +kernel
theorem plmX12_cut : plainName mX12_cut.y.cls = true := by decide +kernel
theorem npmX12_sign : (parseMethodDescriptor mX12_sign.y.desc).map (fun d => d.parameters.length) = some 3 := by decide +kernel
theorem plmX12_sign : plainName mX12_sign.y.cls = true := by decide +kernel
theorem npmX12_is : (parseMethodDescriptor mX12_is.y.desc).map (fun d => d.parameters.length) = some 1 := by decide +kernel
theorem plmX12_is : plainName mX12_is.y.cls = true := by decide +kernel
theorem npmX12_fail : (parseMethodDescriptor mX12_fail.y.desc).map (fun d => d.parameters.length) = some 1 := by decide +kernel
theorem plmX12_fail : plainName mX12_fail.y.cls = true := by decide +kernel
theorem npmX12_wrong : (parseMethodDescriptor mX12_wrong.y.desc).map (fun d => d.parameters.length) = some 2 := by decide +kernel
theorem plmX12_wrong : plainName mX12_wrong.y.cls = true := by decide +kernel
theorem npmX12_goesOn : (parseMethodDescriptor mX12_goesOn.y.desc).map (fun d => d.parameters.length) = some 0 := by decide +kernel
theorem plmX12_goesOn : plainName mX12_goesOn.y.cls = true := by decide +kernel
theorem npmX12_must : (parseMethodDescriptor mX12_must.y.desc).map (fun d => d.parameters.length) = some 1 := by decide +kernel
theorem plmX12_must : plainName mX12_must.y.cls = true := by decide +kernel
theorem npmX12_plain : (parseMethodDescriptor mX12_plain.y.desc).map (fun d => d.parameters.length) = some 1 := by decide +kernel
theorem plmX12_plain : plainName mX12_plain.y.cls = true := by decide +kernel
theorem npmX12_read : (parseMethodDescriptor mX12_read.y.desc).map (fun d => d.parameters.length) = some 0 := by decide +kernel
theorem plmX12_read : plainName mX12_read.y.cls = true := by decide +kernel
theorem npmX12_place : (parseMethodDescriptor mX12_place.y.desc).map (fun d => d.parameters.length) = some 0 := by decide +kernel
theorem plmX12_place : plainName mX12_place.y.cls = true := by decide +kernel
theorem npmX12_isLand : (parseMethodDescriptor mX12_isLand.y.desc).map (fun d => d.parameters.length) = some 0 := by decide +kernel
theorem plmX12_isLand : plainName mX12_isLand.y.cls = true := by decide +kernel
theorem npmX12_roomFor : (parseMethodDescriptor mX12_roomFor.y.desc).map (fun d => d.parameters.length) = some 2 := by decide +kernel
theorem plmX12_roomFor : plainName mX12_roomFor.y.cls = true := by decide +kernel
theorem npmX12_toldInt : (parseMethodDescriptor mX12_toldInt.y.desc).map (fun d => d.parameters.length) = some 2 := by decide +kernel
theorem plmX12_toldInt : plainName mX12_toldInt.y.cls = true := by decide +kernel
theorem npmX12_tellOne : (parseMethodDescriptor mX12_tellOne.y.desc).map (fun d => d.parameters.length) = some 0 := by decide +kernel
theorem plmX12_tellOne : plainName mX12_tellOne.y.cls = true := by decide +kernel
theorem npmX12_lettersIn : (parseMethodDescriptor mX12_lettersIn.y.desc).map (fun d => d.parameters.length) = some 1 := by decide +kernel
theorem plmX12_lettersIn : plainName mX12_lettersIn.y.cls = true := by decide +kernel
theorem npmX12_letterIn : (parseMethodDescriptor mX12_letterIn.y.desc).map (fun d => d.parameters.length) = some 2 := by decide +kernel
theorem plmX12_letterIn : plainName mX12_letterIn.y.cls = true := by decide +kernel
theorem npmX12_tellRow : (parseMethodDescriptor mX12_tellRow.y.desc).map (fun d => d.parameters.length) = some 0 := by decide +kernel
theorem plmX12_tellRow : plainName mX12_tellRow.y.cls = true := by decide +kernel
theorem npmX12_named : (parseMethodDescriptor mX12_named.y.desc).map (fun d => d.parameters.length) = some 0 := by decide +kernel
theorem plmX12_named : plainName mX12_named.y.cls = true := by decide +kernel
theorem npmX12_ends : (parseMethodDescriptor mX12_ends.y.desc).map (fun d => d.parameters.length) = some 2 := by decide +kernel
theorem plmX12_ends : plainName mX12_ends.y.cls = true := by decide +kernel
theorem npmX12_knownHolding : (parseMethodDescriptor mX12_knownHolding.y.desc).map (fun d => d.parameters.length) = some 0 := by decide +kernel
theorem plmX12_knownHolding : plainName mX12_knownHolding.y.cls = true := by decide +kernel
theorem npmX12_bounded : (parseMethodDescriptor mX12_bounded.y.desc).map (fun d => d.parameters.length) = some 2 := by decide +kernel
theorem plmX12_bounded : plainName mX12_bounded.y.cls = true := by decide +kernel
theorem npmX12_tellHolding : (parseMethodDescriptor mX12_tellHolding.y.desc).map (fun d => d.parameters.length) = some 0 := by decide +kernel
theorem plmX12_tellHolding : plainName mX12_tellHolding.y.cls = true := by decide +kernel
theorem npmX12_tellUse : (parseMethodDescriptor mX12_tellUse.y.desc).map (fun d => d.parameters.length) = some 0 := by decide +kernel
theorem plmX12_tellUse : plainName mX12_tellUse.y.cls = true := by decide +kernel
theorem npmX12_tellBank : (parseMethodDescriptor mX12_tellBank.y.desc).map (fun d => d.parameters.length) = some 0 := by decide +kernel
theorem plmX12_tellBank : plainName mX12_tellBank.y.cls = true := by decide +kernel
theorem npmX12_tellLaw : (parseMethodDescriptor mX12_tellLaw.y.desc).map (fun d => d.parameters.length) = some 1 := by decide +kernel
theorem plmX12_tellLaw : plainName mX12_tellLaw.y.cls = true := by decide +kernel
theorem npmX12_term : (parseMethodDescriptor mX12_term.y.desc).map (fun d => d.parameters.length) = some 0 := by decide +kernel
theorem plmX12_term : plainName mX12_term.y.cls = true := by decide +kernel
theorem npmX12_emit : (parseMethodDescriptor mX12_emit.y.desc).map (fun d => d.parameters.length) = some 2 := by decide +kernel
theorem plmX12_emit : plainName mX12_emit.y.cls = true := by decide +kernel
theorem npmX12_comesOut : (parseMethodDescriptor mX12_comesOut.y.desc).map (fun d => d.parameters.length) = some 1 := by decide +kernel
theorem plmX12_comesOut : plainName mX12_comesOut.y.cls = true := by decide +kernel
theorem npmX12_expression : (parseMethodDescriptor mX12_expression.y.desc).map (fun d => d.parameters.length) = some 0 := by decide +kernel
theorem plmX12_expression : plainName mX12_expression.y.cls = true := by decide +kernel
theorem npmX12_unit : (parseMethodDescriptor mX12_unit.y.desc).map (fun d => d.parameters.length) = some 0 := by decide +kernel
theorem plmX12_unit : plainName mX12_unit.y.cls = true := by decide +kernel
theorem npmX12_termOf : (parseMethodDescriptor mX12_termOf.y.desc).map (fun d => d.parameters.length) = some 2 := by decide +kernel
theorem plmX12_termOf : plainName mX12_termOf.y.cls = true := by decide +kernel
theorem npmX12_in : (parseMethodDescriptor mX12_in.y.desc).map (fun d => d.parameters.length) = some 3 := by decide +kernel
theorem plmX12_in : plainName mX12_in.y.cls = true := by decide +kernel
theorem npmX12_held : (parseMethodDescriptor mX12_held.y.desc).map (fun d => d.parameters.length) = some 3 := by decide +kernel
theorem plmX12_held : plainName mX12_held.y.cls = true := by decide +kernel
theorem npmX12_isCell : (parseMethodDescriptor mX12_isCell.y.desc).map (fun d => d.parameters.length) = some 2 := by decide +kernel
theorem plmX12_isCell : plainName mX12_isCell.y.cls = true := by decide +kernel
theorem npmX12_isHolding : (parseMethodDescriptor mX12_isHolding.y.desc).map (fun d => d.parameters.length) = some 1 := by decide +kernel
theorem plmX12_isHolding : plainName mX12_isHolding.y.cls = true := by decide +kernel
theorem npmX12_isUse : (parseMethodDescriptor mX12_isUse.y.desc).map (fun d => d.parameters.length) = some 1 := by decide +kernel
theorem plmX12_isUse : plainName mX12_isUse.y.cls = true := by decide +kernel
theorem npmX12_begins : (parseMethodDescriptor mX12_begins.y.desc).map (fun d => d.parameters.length) = some 0 := by decide +kernel
theorem plmX12_begins : plainName mX12_begins.y.cls = true := by decide +kernel
theorem npmX12_keepsRow : (parseMethodDescriptor mX12_keepsRow.y.desc).map (fun d => d.parameters.length) = some 0 := by decide +kernel
theorem plmX12_keepsRow : plainName mX12_keepsRow.y.cls = true := by decide +kernel
theorem npmX12_copies : (parseMethodDescriptor mX12_copies.y.desc).map (fun d => d.parameters.length) = some 0 := by decide +kernel
theorem plmX12_copies : plainName mX12_copies.y.cls = true := by decide +kernel
theorem npmX12_mixed : (parseMethodDescriptor mX12_mixed.y.desc).map (fun d => d.parameters.length) = some 2 := by decide +kernel
theorem plmX12_mixed : plainName mX12_mixed.y.cls = true := by decide +kernel
theorem npmX12_isGust : (parseMethodDescriptor mX12_isGust.y.desc).map (fun d => d.parameters.length) = some 0 := by decide +kernel
theorem plmX12_isGust : plainName mX12_isGust.y.cls = true := by decide +kernel
theorem npmX12_looks : (parseMethodDescriptor mX12_looks.y.desc).map (fun d => d.parameters.length) = some 1 := by decide +kernel
theorem plmX12_looks : plainName mX12_looks.y.cls = true := by decide +kernel
theorem npmX12_lawTells : (parseMethodDescriptor mX12_lawTells.y.desc).map (fun d => d.parameters.length) = some 2 := by decide +kernel
theorem plmX12_lawTells : plainName mX12_lawTells.y.cls = true := by decide +kernel
theorem npmX12_windIn : (parseMethodDescriptor mX12_windIn.y.desc).map (fun d => d.parameters.length) = some 1 := by decide +kernel
theorem plmX12_windIn : plainName mX12_windIn.y.cls = true := by decide +kernel
theorem npmX12_cellTells : (parseMethodDescriptor mX12_cellTells.y.desc).map (fun d => d.parameters.length) = some 4 := by decide +kernel
theorem plmX12_cellTells : plainName mX12_cellTells.y.cls = true := by decide +kernel
theorem npmX12_fogOf : (parseMethodDescriptor mX12_fogOf.y.desc).map (fun d => d.parameters.length) = some 1 := by decide +kernel
theorem plmX12_fogOf : plainName mX12_fogOf.y.cls = true := by decide +kernel
theorem npmX12_cellsOf : (parseMethodDescriptor mX12_cellsOf.y.desc).map (fun d => d.parameters.length) = some 1 := by decide +kernel
theorem plmX12_cellsOf : plainName mX12_cellsOf.y.cls = true := by decide +kernel
theorem npmX12_givesTo : (parseMethodDescriptor mX12_givesTo.y.desc).map (fun d => d.parameters.length) = some 1 := by decide +kernel
theorem plmX12_givesTo : plainName mX12_givesTo.y.cls = true := by decide +kernel
theorem npmX12_steps : (parseMethodDescriptor mX12_steps.y.desc).map (fun d => d.parameters.length) = some 1 := by decide +kernel
theorem plmX12_steps : plainName mX12_steps.y.cls = true := by decide +kernel
theorem npmX12_hourGoes : (parseMethodDescriptor mX12_hourGoes.y.desc).map (fun d => d.parameters.length) = some 0 := by decide +kernel
theorem plmX12_hourGoes : plainName mX12_hourGoes.y.cls = true := by decide +kernel
theorem npmX12_goes : (parseMethodDescriptor mX12_goes.y.desc).map (fun d => d.parameters.length) = some 1 := by decide +kernel
theorem plmX12_goes : plainName mX12_goes.y.cls = true := by decide +kernel
theorem npmX12_cell : (parseMethodDescriptor mX12_cell.y.desc).map (fun d => d.parameters.length) = some 3 := by decide +kernel
theorem plmX12_cell : plainName mX12_cell.y.cls = true := by decide +kernel
theorem npmX12_netted : (parseMethodDescriptor mX12_netted.y.desc).map (fun d => d.parameters.length) = some 1 := by decide +kernel
theorem plmX12_netted : plainName mX12_netted.y.cls = true := by decide +kernel
theorem npmX12_isOver : (parseMethodDescriptor mX12_isOver.y.desc).map (fun d => d.parameters.length) = some 1 := by decide +kernel
theorem plmX12_isOver : plainName mX12_isOver.y.cls = true := by decide +kernel
theorem npmX12_holding : (parseMethodDescriptor mX12_holding.y.desc).map (fun d => d.parameters.length) = some 2 := by decide +kernel
theorem plmX12_holding : plainName mX12_holding.y.cls = true := by decide +kernel
theorem npmX12_isItsHour : (parseMethodDescriptor mX12_isItsHour.y.desc).map (fun d => d.parameters.length) = some 2 := by decide +kernel
theorem plmX12_isItsHour : plainName mX12_isItsHour.y.cls = true := by decide +kernel
theorem npmX12_use : (parseMethodDescriptor mX12_use.y.desc).map (fun d => d.parameters.length) = some 2 := by decide +kernel
theorem plmX12_use : plainName mX12_use.y.cls = true := by decide +kernel
theorem npmX12_records : (parseMethodDescriptor mX12_records.y.desc).map (fun d => d.parameters.length) = some 0 := by decide +kernel
theorem plmX12_records : plainName mX12_records.y.cls = true := by decide +kernel
theorem npmX12_draw : (parseMethodDescriptor mX12_draw.y.desc).map (fun d => d.parameters.length) = some 4 := by decide +kernel
theorem plmX12_draw : plainName mX12_draw.y.cls = true := by decide +kernel
theorem npmX12_lend : (parseMethodDescriptor mX12_lend.y.desc).map (fun d => d.parameters.length) = some 3 := by decide +kernel
theorem plmX12_lend : plainName mX12_lend.y.cls = true := by decide +kernel
theorem npmX12_move : (parseMethodDescriptor mX12_move.y.desc).map (fun d => d.parameters.length) = some 3 := by decide +kernel
theorem plmX12_move : plainName mX12_move.y.cls = true := by decide +kernel
theorem npmX12_hours : (parseMethodDescriptor mX12_hours.y.desc).map (fun d => d.parameters.length) = some 1 := by decide +kernel
theorem plmX12_hours : plainName mX12_hours.y.cls = true := by decide +kernel
theorem npmX12_undo : (parseMethodDescriptor mX12_undo.y.desc).map (fun d => d.parameters.length) = some 0 := by decide +kernel
theorem plmX12_undo : plainName mX12_undo.y.cls = true := by decide +kernel
theorem npmX12_isLong : (parseMethodDescriptor mX12_isLong.y.desc).map (fun d => d.parameters.length) = some 1 := by decide +kernel
theorem plmX12_isLong : plainName mX12_isLong.y.cls = true := by decide +kernel
theorem npmX12_fogAll : (parseMethodDescriptor mX12_fogAll.y.desc).map (fun d => d.parameters.length) = some 0 := by decide +kernel
theorem plmX12_fogAll : plainName mX12_fogAll.y.cls = true := by decide +kernel
theorem npmX12_then : (parseMethodDescriptor mX12_then.y.desc).map (fun d => d.parameters.length) = some 3 := by decide +kernel
theorem plmX12_then : plainName mX12_then.y.cls = true := by decide +kernel
theorem npmX12_all : (parseMethodDescriptor mX12_all.y.desc).map (fun d => d.parameters.length) = some 3 := by decide +kernel
theorem plmX12_all : plainName mX12_all.y.cls = true := by decide +kernel
theorem npmX12_thickest : (parseMethodDescriptor mX12_thickest.y.desc).map (fun d => d.parameters.length) = some 2 := by decide +kernel
theorem plmX12_thickest : plainName mX12_thickest.y.cls = true := by decide +kernel
theorem npmX12_isThick : (parseMethodDescriptor mX12_isThick.y.desc).map (fun d => d.parameters.length) = some 1 := by decide +kernel
theorem plmX12_isThick : plainName mX12_isThick.y.cls = true := by decide +kernel
theorem npmX12_hid : (parseMethodDescriptor mX12_hid.y.desc).map (fun d => d.parameters.length) = some 4 := by decide +kernel
theorem plmX12_hid : plainName mX12_hid.y.cls = true := by decide +kernel
theorem npmX12_lost : (parseMethodDescriptor mX12_lost.y.desc).map (fun d => d.parameters.length) = some 1 := by decide +kernel
theorem plmX12_lost : plainName mX12_lost.y.cls = true := by decide +kernel
theorem npmX12_isServed : (parseMethodDescriptor mX12_isServed.y.desc).map (fun d => d.parameters.length) = some 1 := by decide +kernel
theorem plmX12_isServed : plainName mX12_isServed.y.cls = true := by decide +kernel
theorem npmX12_served : (parseMethodDescriptor mX12_served.y.desc).map (fun d => d.parameters.length) = some 2 := by decide +kernel
theorem plmX12_served : plainName mX12_served.y.cls = true := by decide +kernel
theorem npmX12_missed : (parseMethodDescriptor mX12_missed.y.desc).map (fun d => d.parameters.length) = some 2 := by decide +kernel
theorem plmX12_missed : plainName mX12_missed.y.cls = true := by decide +kernel
theorem npmX12_over : (parseMethodDescriptor mX12_over.y.desc).map (fun d => d.parameters.length) = some 0 := by decide +kernel
theorem plmX12_over : plainName mX12_over.y.cls = true := by decide +kernel
theorem npmX12_least : (parseMethodDescriptor mX12_least.y.desc).map (fun d => d.parameters.length) = some 4 := by decide +kernel
theorem plmX12_least : plainName mX12_least.y.cls = true := by decide +kernel
theorem npmX12_isNear : (parseMethodDescriptor mX12_isNear.y.desc).map (fun d => d.parameters.length) = some 2 := by decide +kernel
theorem plmX12_isNear : plainName mX12_isNear.y.cls = true := by decide +kernel
theorem npmX12_isNext : (parseMethodDescriptor mX12_isNext.y.desc).map (fun d => d.parameters.length) = some 2 := by decide +kernel
theorem plmX12_isNext : plainName mX12_isNext.y.cls = true := by decide +kernel
theorem npmX12_unseen : (parseMethodDescriptor mX12_unseen.y.desc).map (fun d => d.parameters.length) = some 5 := by decide +kernel
theorem plmX12_unseen : plainName mX12_unseen.y.cls = true := by decide +kernel
theorem npmX12_isWatched : (parseMethodDescriptor mX12_isWatched.y.desc).map (fun d => d.parameters.length) = some 2 := by decide +kernel
theorem plmX12_isWatched : plainName mX12_isWatched.y.cls = true := by decide +kernel
theorem npmX12_isOpen : (parseMethodDescriptor mX12_isOpen.y.desc).map (fun d => d.parameters.length) = some 3 := by decide +kernel
theorem plmX12_isOpen : plainName mX12_isOpen.y.cls = true := by decide +kernel
theorem npmX12_isAt : (parseMethodDescriptor mX12_isAt.y.desc).map (fun d => d.parameters.length) = some 1 := by decide +kernel
theorem plmX12_isAt : plainName mX12_isAt.y.cls = true := by decide +kernel
theorem npmX12_mayWatch : (parseMethodDescriptor mX12_mayWatch.y.desc).map (fun d => d.parameters.length) = some 4 := by decide +kernel
theorem plmX12_mayWatch : plainName mX12_mayWatch.y.cls = true := by decide +kernel
theorem npmX12_findsWatch : (parseMethodDescriptor mX12_findsWatch.y.desc).map (fun d => d.parameters.length) = some 4 := by decide +kernel
theorem plmX12_findsWatch : plainName mX12_findsWatch.y.cls = true := by decide +kernel
theorem npmX12_watch : (parseMethodDescriptor mX12_watch.y.desc).map (fun d => d.parameters.length) = some 4 := by decide +kernel
theorem plmX12_watch : plainName mX12_watch.y.cls = true := by decide +kernel
theorem npmX12_seesOn : (parseMethodDescriptor mX12_seesOn.y.desc).map (fun d => d.parameters.length) = some 5 := by decide +kernel
theorem plmX12_seesOn : plainName mX12_seesOn.y.cls = true := by decide +kernel
theorem npmX12_sight : (parseMethodDescriptor mX12_sight.y.desc).map (fun d => d.parameters.length) = some 3 := by decide +kernel
theorem plmX12_sight : plainName mX12_sight.y.cls = true := by decide +kernel
theorem npmX12_wind : (parseMethodDescriptor mX12_wind.y.desc).map (fun d => d.parameters.length) = some 1 := by decide +kernel
theorem plmX12_wind : plainName mX12_wind.y.cls = true := by decide +kernel
theorem npmX12_lent : (parseMethodDescriptor mX12_lent.y.desc).map (fun d => d.parameters.length) = some 2 := by decide +kernel
theorem plmX12_lent : plainName mX12_lent.y.cls = true := by decide +kernel
theorem npmX12_gone : (parseMethodDescriptor mX12_gone.y.desc).map (fun d => d.parameters.length) = some 1 := by decide +kernel
theorem plmX12_gone : plainName mX12_gone.y.cls = true := by decide +kernel
theorem npmX12_year : (parseMethodDescriptor mX12_year.y.desc).map (fun d => d.parameters.length) = some 3 := by decide +kernel
theorem plmX12_year : plainName mX12_year.y.cls = true := by decide +kernel
theorem npmX12_tell : (parseMethodDescriptor mX12_tell.y.desc).map (fun d => d.parameters.length) = some 4 := by decide +kernel
theorem plmX12_tell : plainName mX12_tell.y.cls = true := by decide +kernel
theorem npmX12_forget : (parseMethodDescriptor mX12_forget.y.desc).map (fun d => d.parameters.length) = some 0 := by decide +kernel
theorem plmX12_forget : plainName mX12_forget.y.cls = true := by decide +kernel
theorem npmX12_isSo : (parseMethodDescriptor mX12_isSo.y.desc).map (fun d => d.parameters.length) = some 2 := by decide +kernel
theorem plmX12_isSo : plainName mX12_isSo.y.cls = true := by decide +kernel
theorem npmX12_mayLeak : (parseMethodDescriptor mX12_mayLeak.y.desc).map (fun d => d.parameters.length) = some 1 := by decide +kernel
theorem plmX12_mayLeak : plainName mX12_mayLeak.y.cls = true := by decide +kernel
theorem npmX12_leaks : (parseMethodDescriptor mX12_leaks.y.desc).map (fun d => d.parameters.length) = some 1 := by decide +kernel
theorem plmX12_leaks : plainName mX12_leaks.y.cls = true := by decide +kernel
theorem npmX12_sure : (parseMethodDescriptor mX12_sure.y.desc).map (fun d => d.parameters.length) = some 1 := by decide +kernel
theorem plmX12_sure : plainName mX12_sure.y.cls = true := by decide +kernel
theorem npmX12_ask : (parseMethodDescriptor mX12_ask.y.desc).map (fun d => d.parameters.length) = some 2 := by decide +kernel
theorem plmX12_ask : plainName mX12_ask.y.cls = true := by decide +kernel
theorem npmX12_hold : (parseMethodDescriptor mX12_hold.y.desc).map (fun d => d.parameters.length) = some 1 := by decide +kernel
theorem plmX12_hold : plainName mX12_hold.y.cls = true := by decide +kernel
theorem npmX12_restore : (parseMethodDescriptor mX12_restore.y.desc).map (fun d => d.parameters.length) = some 1 := by decide +kernel
theorem plmX12_restore : plainName mX12_restore.y.cls = true := by decide +kernel
theorem npmX12_sumNow : (parseMethodDescriptor mX12_sumNow.y.desc).map (fun d => d.parameters.length) = some 1 := by decide +kernel
theorem plmX12_sumNow : plainName mX12_sumNow.y.cls = true := by decide +kernel
theorem npmX12_count : (parseMethodDescriptor mX12_count.y.desc).map (fun d => d.parameters.length) = some 1 := by decide +kernel
theorem plmX12_count : plainName mX12_count.y.cls = true := by decide +kernel
theorem npmJ11_isValidCodePoint_9a6ad : (parseMethodDescriptor mJ11_isValidCodePoint_9a6ad.y.desc).map (fun d => d.parameters.length) = some 1 := by decide +kernel
theorem plmJ11_isValidCodePoint_9a6ad : plainName mJ11_isValidCodePoint_9a6ad.y.cls = true := by decide +kernel
theorem npmJ11_highSurrogate_5068e : (parseMethodDescriptor mJ11_highSurrogate_5068e.y.desc).map (fun d => d.parameters.length) = some 1 := by decide +kernel
theorem plmJ11_highSurrogate_5068e : plainName mJ11_highSurrogate_5068e.y.cls = true := by decide +kernel
theorem npmJ11_lowSurrogate_5068e : (parseMethodDescriptor mJ11_lowSurrogate_5068e.y.desc).map (fun d => d.parameters.length) = some 1 := by decide +kernel
theorem plmJ11_lowSurrogate_5068e : plainName mJ11_lowSurrogate_5068e.y.cls = true := by decide +kernel
theorem npmJ9_max_7cf53 : (parseMethodDescriptor mJ9_max_7cf53.y.desc).map (fun d => d.parameters.length) = some 2 := by decide +kernel
theorem npmJ9_min_7cf53 : (parseMethodDescriptor mJ9_min_7cf53.y.desc).map (fun d => d.parameters.length) = some 2 := by decide +kernel
theorem npmJ0_length_8abf5 : (parseMethodDescriptor mJ0_length_8abf5.y.desc).map (fun d => d.parameters.length) = some 0 := by decide +kernel
theorem plmJ0_length_8abf5 : plainName mJ0_length_8abf5.y.cls = true := by decide +kernel
theorem npmJ0_charAt_5068e : (parseMethodDescriptor mJ0_charAt_5068e.y.desc).map (fun d => d.parameters.length) = some 1 := by decide +kernel
theorem plmJ0_charAt_5068e : plainName mJ0_charAt_5068e.y.cls = true := by decide +kernel
theorem npmJ0_indexOf_0f7a4 : (parseMethodDescriptor mJ0_indexOf_0f7a4.y.desc).map (fun d => d.parameters.length) = some 1 := by decide +kernel
theorem plmJ0_indexOf_0f7a4 : plainName mJ0_indexOf_0f7a4.y.cls = true := by decide +kernel
theorem npmJ0_indexOf_7cf53 : (parseMethodDescriptor mJ0_indexOf_7cf53.y.desc).map (fun d => d.parameters.length) = some 2 := by decide +kernel
theorem plmJ0_indexOf_7cf53 : plainName mJ0_indexOf_7cf53.y.cls = true := by decide +kernel
theorem npmJ0_coder_7d493 : (parseMethodDescriptor mJ0_coder_7d493.y.desc).map (fun d => d.parameters.length) = some 0 := by decide +kernel
theorem plmJ0_coder_7d493 : plainName mJ0_coder_7d493.y.cls = true := by decide +kernel
theorem npmJ0_isLatin1_aae02 : (parseMethodDescriptor mJ0_isLatin1_aae02.y.desc).map (fun d => d.parameters.length) = some 0 := by decide +kernel
theorem plmJ0_isLatin1_aae02 : plainName mJ0_isLatin1_aae02.y.cls = true := by decide +kernel
theorem npmJ0_checkIndex_df160 : (parseMethodDescriptor mJ0_checkIndex_df160.y.desc).map (fun d => d.parameters.length) = some 2 := by decide +kernel
theorem plmJ0_checkIndex_df160 : plainName mJ0_checkIndex_df160.y.cls = true := by decide +kernel
theorem npmJ0_checkBoundsBeginEnd_23922 : (parseMethodDescriptor mJ0_checkBoundsBeginEnd_23922.y.desc).map (fun d => d.parameters.length) = some 3 := by decide +kernel
theorem plmJ0_checkBoundsBeginEnd_23922 : plainName mJ0_checkBoundsBeginEnd_23922.y.cls = true := by decide +kernel
theorem npmJ1_charAt_3b067 : (parseMethodDescriptor mJ1_charAt_3b067.y.desc).map (fun d => d.parameters.length) = some 2 := by decide +kernel
theorem plmJ1_charAt_3b067 : plainName mJ1_charAt_3b067.y.cls = true := by decide +kernel
theorem npmJ1_canEncode_9a6ad : (parseMethodDescriptor mJ1_canEncode_9a6ad.y.desc).map (fun d => d.parameters.length) = some 1 := by decide +kernel
theorem plmJ1_canEncode_9a6ad : plainName mJ1_canEncode_9a6ad.y.cls = true := by decide +kernel
theorem npmJ1_indexOf_4cfef : (parseMethodDescriptor mJ1_indexOf_4cfef.y.desc).map (fun d => d.parameters.length) = some 4 := by decide +kernel
theorem plmJ1_indexOf_4cfef : plainName mJ1_indexOf_4cfef.y.cls = true := by decide +kernel
theorem npmJ1_indexOfChar_4cfef : (parseMethodDescriptor mJ1_indexOfChar_4cfef.y.desc).map (fun d => d.parameters.length) = some 4 := by decide +kernel
theorem plmJ1_indexOfChar_4cfef : plainName mJ1_indexOfChar_4cfef.y.cls = true := by decide +kernel
theorem npmJ2_getChar_3b067 : (parseMethodDescriptor mJ2_getChar_3b067.y.desc).map (fun d => d.parameters.length) = some 2 := by decide +kernel
theorem plmJ2_getChar_3b067 : plainName mJ2_getChar_3b067.y.cls = true := by decide +kernel
theorem npmJ2_length_9d52b : (parseMethodDescriptor mJ2_length_9d52b.y.desc).map (fun d => d.parameters.length) = some 1 := by decide +kernel
theorem plmJ2_length_9d52b : plainName mJ2_length_9d52b.y.cls = true := by decide +kernel
theorem npmJ2_indexOf_4cfef : (parseMethodDescriptor mJ2_indexOf_4cfef.y.desc).map (fun d => d.parameters.length) = some 4 := by decide +kernel
theorem plmJ2_indexOf_4cfef : plainName mJ2_indexOf_4cfef.y.cls = true := by decide +kernel
theorem npmJ2_indexOfChar_4cfef : (parseMethodDescriptor mJ2_indexOfChar_4cfef.y.desc).map (fun d => d.parameters.length) = some 4 := by decide +kernel
theorem plmJ2_indexOfChar_4cfef : plainName mJ2_indexOfChar_4cfef.y.cls = true := by decide +kernel
theorem npmJ2_indexOfCharUnsafe_4cfef : (parseMethodDescriptor mJ2_indexOfCharUnsafe_4cfef.y.desc).map (fun d => d.parameters.length) = some 4 := by decide +kernel
theorem plmJ2_indexOfCharUnsafe_4cfef : plainName mJ2_indexOfCharUnsafe_4cfef.y.cls = true := by decide +kernel
theorem npmJ2_indexOfSupplementary_4cfef : (parseMethodDescriptor mJ2_indexOfSupplementary_4cfef.y.desc).map (fun d => d.parameters.length) = some 4 := by decide +kernel
theorem plmJ2_indexOfSupplementary_4cfef : plainName mJ2_indexOfSupplementary_4cfef.y.cls = true := by decide +kernel
theorem npmJ2_charAt_3b067 : (parseMethodDescriptor mJ2_charAt_3b067.y.desc).map (fun d => d.parameters.length) = some 2 := by decide +kernel
theorem plmJ2_charAt_3b067 : plainName mJ2_charAt_3b067.y.cls = true := by decide +kernel
theorem npmJ2_checkIndex_2214a : (parseMethodDescriptor mJ2_checkIndex_2214a.y.desc).map (fun d => d.parameters.length) = some 2 := by decide +kernel
theorem plmJ2_checkIndex_2214a : plainName mJ2_checkIndex_2214a.y.cls = true := by decide +kernel
theorem npmJ2_checkBoundsBeginEnd_d044e : (parseMethodDescriptor mJ2_checkBoundsBeginEnd_d044e.y.desc).map (fun d => d.parameters.length) = some 3 := by decide +kernel
theorem plmJ2_checkBoundsBeginEnd_d044e : plainName mJ2_checkBoundsBeginEnd_d044e.y.cls = true := by decide +kernel
theorem npmJ3_checkIndex_8e157 : (parseMethodDescriptor mJ3_checkIndex_8e157.y.desc).map (fun d => d.parameters.length) = some 3 := by decide +kernel
theorem plmJ3_checkIndex_8e157 : plainName mJ3_checkIndex_8e157.y.cls = true := by decide +kernel
theorem npmJ3_checkFromToIndex_8c36e : (parseMethodDescriptor mJ3_checkFromToIndex_8c36e.y.desc).map (fun d => d.parameters.length) = some 4 := by decide +kernel
theorem plmJ3_checkFromToIndex_8c36e : plainName mJ3_checkFromToIndex_8c36e.y.cls = true := by decide +kernel
