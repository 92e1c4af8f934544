theorem mw_5_149 : (.constant RJ6 265 1431655765 : Cond) ∈ wsA := wsA_t (List.mem_append_right _ (List.mem_append_right _ (List.mem_append_right _ (List.mem_append_right _ (List.mem_append_left _ (List.mem_of_getElem? (l := tables_1_5) (i := 149) rfl)))))) rfl
theorem mw_5_150 : (.constant RJ6 266 858993459 : Cond) ∈ wsA := wsA_t (List.mem_append_right _ (List.mem_append_right _ (List.mem_append_right _ (List.mem_append_right _ (List.mem_append_left _ (List.mem_of_getElem? (l := tables_1_5) (i := 150) rfl)))))) rfl
theorem mw_5_151 : (.constant RJ6 267 252645135 : Cond) ∈ wsA := wsA_t (List.mem_append_right _ (List.mem_append_right _ (List.mem_append_right _ (List.mem_append_right _ (List.mem_append_left _ (List.mem_of_getElem? (l := tables_1_5) (i := 151) rfl)))))) rfl
theorem mw_1_41 : (.fieldLink RX9 24 "HillBends$Tape" "size" "I" : Cond) ∈ wsA := wsA_t (List.mem_append_left _ (List.mem_of_getElem? (l := tables_1_1) (i := 41) rfl)) rfl
theorem mw_1_36 : (.fieldLink RX9 11 "HillBends$Tape" "bytes" "[I" : Cond) ∈ wsA := wsA_t (List.mem_append_left _ (List.mem_of_getElem? (l := tables_1_1) (i := 36) rfl)) rfl
theorem mw_1_42 : (.fieldLink RX9 28 "HillBends$Tape" "tokens" "I" : Cond) ∈ wsA := wsA_t (List.mem_append_left _ (List.mem_of_getElem? (l := tables_1_1) (i := 42) rfl)) rfl
theorem mw_1_37 : (.fieldLink RX9 15 "HillBends$Tape" "kinds" "[I" : Cond) ∈ wsA := wsA_t (List.mem_append_left _ (List.mem_of_getElem? (l := tables_1_1) (i := 37) rfl)) rfl
theorem mw_1_39 : (.fieldLink RX9 21 "HillBends$Tape" "values" "[I" : Cond) ∈ wsA := wsA_t (List.mem_append_left _ (List.mem_of_getElem? (l := tables_1_1) (i := 39) rfl)) rfl
theorem mw_1_45 : (.fieldLink RX9 31 "HillBends$Tape" "fault" "I" : Cond) ∈ wsA := wsA_t (List.mem_append_left _ (List.mem_of_getElem? (l := tables_1_1) (i := 45) rfl)) rfl
theorem mw_1_38 : (.fieldLink RX9 18 "HillBends$Tape" "places" "[I" : Cond) ∈ wsA := wsA_t (List.mem_append_left _ (List.mem_of_getElem? (l := tables_1_1) (i := 38) rfl)) rfl
theorem mw_1_95 : (.fieldLink RX8 24 "HillBends$Scene" "has" "[I" : Cond) ∈ wsA := wsA_t (List.mem_append_left _ (List.mem_of_getElem? (l := tables_1_1) (i := 95) rfl)) rfl
theorem mw_1_100 : (.fieldLink RX8 27 "HillBends$Scene" "heap" "[I" : Cond) ∈ wsA := wsA_t (List.mem_append_left _ (List.mem_of_getElem? (l := tables_1_1) (i := 100) rfl)) rfl
theorem mw_1_106 : (.fieldLink RX8 30 "HillBends$Scene" "seconds" "I" : Cond) ∈ wsA := wsA_t (List.mem_append_left _ (List.mem_of_getElem? (l := tables_1_1) (i := 106) rfl)) rfl
theorem mw_1_110 : (.fieldLink RX8 34 "HillBends$Scene" "night" "I" : Cond) ∈ wsA := wsA_t (List.mem_append_left _ (List.mem_of_getElem? (l := tables_1_1) (i := 110) rfl)) rfl
theorem mw_1_80 : (.fieldLink RX8 9 "HillBends$Scene" "height" "[I" : Cond) ∈ wsA := wsA_t (List.mem_append_left _ (List.mem_of_getElem? (l := tables_1_1) (i := 80) rfl)) rfl
theorem mw_1_85 : (.fieldLink RX8 15 "HillBends$Scene" "money" "[I" : Cond) ∈ wsA := wsA_t (List.mem_append_left _ (List.mem_of_getElem? (l := tables_1_1) (i := 85) rfl)) rfl
theorem mw_1_89 : (.fieldLink RX8 18 "HillBends$Scene" "left" "[I" : Cond) ∈ wsA := wsA_t (List.mem_append_left _ (List.mem_of_getElem? (l := tables_1_1) (i := 89) rfl)) rfl
theorem mw_1_92 : (.fieldLink RX8 21 "HillBends$Scene" "taken" "[I" : Cond) ∈ wsA := wsA_t (List.mem_append_left _ (List.mem_of_getElem? (l := tables_1_1) (i := 92) rfl)) rfl
theorem mw_3_239 : (.native arraycopyName : Cond) ∈ wsA := wsA_t (List.mem_append_right _ (List.mem_append_right _ (List.mem_append_left _ (List.mem_of_getElem? (l := tables_1_3) (i := 239) rfl)))) rfl
theorem mw_3_238 : (.static arraycopyName : Cond) ∈ wsA := wsA_t (List.mem_append_right _ (List.mem_append_right _ (List.mem_append_left _ (List.mem_of_getElem? (l := tables_1_3) (i := 238) rfl)))) rfl
theorem mw_1_20 : (.initialized "java/lang/System" : Cond) ∈ wsA := wsA_t (List.mem_append_left _ (List.mem_of_getElem? (l := tables_1_1) (i := 20) rfl)) rfl
theorem mw_4_4 : (.methodLink RX8 37 arraycopyName : Cond) ∈ wsA := wsA_t (List.mem_append_right _ (List.mem_append_right _ (List.mem_append_right _ (List.mem_append_left _ (List.mem_of_getElem? (l := tables_1_4) (i := 4) rfl))))) rfl
theorem mw_1_174 : (.fieldLink RX8 43 "HillBends$Hill" "sorts" "I" : Cond) ∈ wsA := wsA_t (List.mem_append_left _ (List.mem_of_getElem? (l := tables_1_1) (i := 174) rfl)) rfl
theorem mw_1_131 : (.fieldLink RX8 48 "HillBends$Hill" "weight" "[I" : Cond) ∈ wsA := wsA_t (List.mem_append_left _ (List.mem_of_getElem? (l := tables_1_1) (i := 131) rfl)) rfl
theorem mw_1_138 : (.fieldLink RX8 51 "HillBends$Hill" "worth" "[I" : Cond) ∈ wsA := wsA_t (List.mem_append_left _ (List.mem_of_getElem? (l := tables_1_1) (i := 138) rfl)) rfl
theorem mw_1_188 : (.fieldLink RX8 54 "HillBends$Hill" "pilgrims" "I" : Cond) ∈ wsA := wsA_t (List.mem_append_left _ (List.mem_of_getElem? (l := tables_1_1) (i := 188) rfl)) rfl
theorem mw_1_183 : (.fieldLink RX8 57 "HillBends$Hill" "bends" "I" : Cond) ∈ wsA := wsA_t (List.mem_append_left _ (List.mem_of_getElem? (l := tables_1_1) (i := 183) rfl)) rfl
theorem mw_1_152 : (.fieldLink RX3 24 "HillBends$Hill" "second" "[I" : Cond) ∈ wsA := wsA_t (List.mem_append_left _ (List.mem_of_getElem? (l := tables_1_1) (i := 152) rfl)) rfl
theorem mw_1_146 : (.fieldLink RX3 21 "HillBends$Hill" "first" "[I" : Cond) ∈ wsA := wsA_t (List.mem_append_left _ (List.mem_of_getElem? (l := tables_1_1) (i := 146) rfl)) rfl
theorem mw_1_179 : (.fieldLink RX3 45 "HillBends$Hill" "bends" "I" : Cond) ∈ wsA := wsA_t (List.mem_append_left _ (List.mem_of_getElem? (l := tables_1_1) (i := 179) rfl)) rfl
theorem mw_4_84 : (.instanceMethod yX3_askedAt : Cond) ∈ wsA := wsA_t (List.mem_append_right _ (List.mem_append_right _ (List.mem_append_right _ (List.mem_append_left _ (List.mem_of_getElem? (l := tables_1_4) (i := 84) rfl))))) rfl
theorem mw_4_85 : (.selects RX3 yX3_askedAt yX3_askedAt : Cond) ∈ wsA := wsA_t (List.mem_append_right _ (List.mem_append_right _ (List.mem_append_right _ (List.mem_append_left _ (List.mem_of_getElem? (l := tables_1_4) (i := 85) rfl))))) rfl
theorem mw_1_4 : (.initialized RX3 : Cond) ∈ wsA := wsA_t (List.mem_append_left _ (List.mem_of_getElem? (l := tables_1_1) (i := 4) rfl)) rfl
theorem mw_4_86 : (.code yX3_askedAt cX3_askedAt 3 (some .int) : Cond) ∈ wsA := wsA_t (List.mem_append_right _ (List.mem_append_right _ (List.mem_append_right _ (List.mem_append_left _ (List.mem_of_getElem? (l := tables_1_4) (i := 86) rfl))))) rfl
theorem mw_4_103 : (.methodLink RX3 64 yX3_askedAt : Cond) ∈ wsA := wsA_t (List.mem_append_right _ (List.mem_append_right _ (List.mem_append_right _ (List.mem_append_left _ (List.mem_of_getElem? (l := tables_1_4) (i := 103) rfl))))) rfl
theorem mw_1_162 : (.fieldLink RX3 34 "HillBends$Hill" "told" "Z" : Cond) ∈ wsA := wsA_t (List.mem_append_left _ (List.mem_of_getElem? (l := tables_1_1) (i := 162) rfl)) rfl
theorem mw_1_165 : (.fieldLink RX3 38 "HillBends$Hill" "burden" "I" : Cond) ∈ wsA := wsA_t (List.mem_append_left _ (List.mem_of_getElem? (l := tables_1_1) (i := 165) rfl)) rfl
theorem mw_1_171 : (.fieldLink RX3 42 "HillBends$Hill" "sorts" "I" : Cond) ∈ wsA := wsA_t (List.mem_append_left _ (List.mem_of_getElem? (l := tables_1_1) (i := 171) rfl)) rfl
theorem mw_1_185 : (.fieldLink RX3 48 "HillBends$Hill" "pilgrims" "I" : Cond) ∈ wsA := wsA_t (List.mem_append_left _ (List.mem_of_getElem? (l := tables_1_1) (i := 185) rfl)) rfl
theorem mw_1_158 : (.fieldLink RX3 30 "HillBends$Hill" "begin" "LHillBends$Scene;" : Cond) ∈ wsA := wsA_t (List.mem_append_left _ (List.mem_of_getElem? (l := tables_1_1) (i := 158) rfl)) rfl
theorem mw_3_168 : (.instanceMethod yX8_clear : Cond) ∈ wsA := wsA_t (List.mem_append_right _ (List.mem_append_right _ (List.mem_append_left _ (List.mem_of_getElem? (l := tables_1_3) (i := 168) rfl)))) rfl
theorem mw_3_169 : (.selects RX8 yX8_clear yX8_clear : Cond) ∈ wsA := wsA_t (List.mem_append_right _ (List.mem_append_right _ (List.mem_append_left _ (List.mem_of_getElem? (l := tables_1_3) (i := 169) rfl)))) rfl
theorem mw_1_5 : (.initialized RX8 : Cond) ∈ wsA := wsA_t (List.mem_append_left _ (List.mem_of_getElem? (l := tables_1_1) (i := 5) rfl)) rfl
theorem mw_3_170 : (.code yX8_clear cX8_clear 2 none : Cond) ∈ wsA := wsA_t (List.mem_append_right _ (List.mem_append_right _ (List.mem_append_left _ (List.mem_of_getElem? (l := tables_1_3) (i := 170) rfl)))) rfl
theorem mw_3_167 : (.methodLink RX3 51 yX8_clear : Cond) ∈ wsA := wsA_t (List.mem_append_right _ (List.mem_append_right _ (List.mem_append_left _ (List.mem_of_getElem? (l := tables_1_3) (i := 167) rfl)))) rfl
theorem mw_1_130 : (.fieldLink RX3 9 "HillBends$Hill" "weight" "[I" : Cond) ∈ wsA := wsA_t (List.mem_append_left _ (List.mem_of_getElem? (l := tables_1_1) (i := 130) rfl)) rfl
theorem mw_3_237 : (.methodLink RX3 54 arraycopyName : Cond) ∈ wsA := wsA_t (List.mem_append_right _ (List.mem_append_right _ (List.mem_append_left _ (List.mem_of_getElem? (l := tables_1_3) (i := 237) rfl)))) rfl
theorem mw_1_136 : (.fieldLink RX3 15 "HillBends$Hill" "worth" "[I" : Cond) ∈ wsA := wsA_t (List.mem_append_left _ (List.mem_of_getElem? (l := tables_1_1) (i := 136) rfl)) rfl
theorem mw_1_141 : (.fieldLink RX3 18 "HillBends$Hill" "price" "[I" : Cond) ∈ wsA := wsA_t (List.mem_append_left _ (List.mem_of_getElem? (l := tables_1_1) (i := 141) rfl)) rfl
theorem mw_4_1 : (.instanceMethod yX8_copyFrom : Cond) ∈ wsA := wsA_t (List.mem_append_right _ (List.mem_append_right _ (List.mem_append_right _ (List.mem_append_left _ (List.mem_of_getElem? (l := tables_1_4) (i := 1) rfl))))) rfl
theorem mw_4_2 : (.selects RX8 yX8_copyFrom yX8_copyFrom : Cond) ∈ wsA := wsA_t (List.mem_append_right _ (List.mem_append_right _ (List.mem_append_right _ (List.mem_append_left _ (List.mem_of_getElem? (l := tables_1_4) (i := 2) rfl))))) rfl
theorem mw_4_3 : (.code yX8_copyFrom cX8_copyFrom 2 none : Cond) ∈ wsA := wsA_t (List.mem_append_right _ (List.mem_append_right _ (List.mem_append_right _ (List.mem_append_left _ (List.mem_of_getElem? (l := tables_1_4) (i := 3) rfl))))) rfl
theorem mw_4_0 : (.methodLink RX3 60 yX8_copyFrom : Cond) ∈ wsA := wsA_t (List.mem_append_right _ (List.mem_append_right _ (List.mem_append_right _ (List.mem_append_left _ (List.mem_of_getElem? (l := tables_1_4) (i := 0) rfl))))) rfl
theorem mw_3_221 : (.instanceMethod yX8_weightOf : Cond) ∈ wsA := wsA_t (List.mem_append_right _ (List.mem_append_right _ (List.mem_append_left _ (List.mem_of_getElem? (l := tables_1_3) (i := 221) rfl)))) rfl
theorem mw_3_222 : (.selects RX8 yX8_weightOf yX8_weightOf : Cond) ∈ wsA := wsA_t (List.mem_append_right _ (List.mem_append_right _ (List.mem_append_left _ (List.mem_of_getElem? (l := tables_1_3) (i := 222) rfl)))) rfl
theorem mw_3_223 : (.code yX8_weightOf cX8_weightOf 5 (some .int) : Cond) ∈ wsA := wsA_t (List.mem_append_right _ (List.mem_append_right _ (List.mem_append_left _ (List.mem_of_getElem? (l := tables_1_3) (i := 223) rfl)))) rfl
theorem mw_4_165 : (.methodLink RX8 60 yX8_weightOf : Cond) ∈ wsA := wsA_t (List.mem_append_right _ (List.mem_append_right _ (List.mem_append_right _ (List.mem_append_left _ (List.mem_of_getElem? (l := tables_1_4) (i := 165) rfl))))) rfl
theorem mw_1_168 : (.fieldLink RX8 64 "HillBends$Hill" "burden" "I" : Cond) ∈ wsA := wsA_t (List.mem_append_left _ (List.mem_of_getElem? (l := tables_1_1) (i := 168) rfl)) rfl
theorem mw_1_145 : (.fieldLink RX8 80 "HillBends$Hill" "price" "[I" : Cond) ∈ wsA := wsA_t (List.mem_append_left _ (List.mem_of_getElem? (l := tables_1_1) (i := 145) rfl)) rfl
theorem mw_4_162 : (.instanceMethod yX8_canCarry : Cond) ∈ wsA := wsA_t (List.mem_append_right _ (List.mem_append_right _ (List.mem_append_right _ (List.mem_append_left _ (List.mem_of_getElem? (l := tables_1_4) (i := 162) rfl))))) rfl
theorem mw_4_163 : (.selects RX8 yX8_canCarry yX8_canCarry : Cond) ∈ wsA := wsA_t (List.mem_append_right _ (List.mem_append_right _ (List.mem_append_right _ (List.mem_append_left _ (List.mem_of_getElem? (l := tables_1_4) (i := 163) rfl))))) rfl
theorem mw_4_164 : (.code yX8_canCarry cX8_canCarry 4 (some .boolean) : Cond) ∈ wsA := wsA_t (List.mem_append_right _ (List.mem_append_right _ (List.mem_append_right _ (List.mem_append_left _ (List.mem_of_getElem? (l := tables_1_4) (i := 164) rfl))))) rfl
theorem mw_4_161 : (.methodLink RX8 76 yX8_canCarry : Cond) ∈ wsA := wsA_t (List.mem_append_right _ (List.mem_append_right _ (List.mem_append_right _ (List.mem_append_left _ (List.mem_of_getElem? (l := tables_1_4) (i := 161) rfl))))) rfl
theorem mw_4_148 : (.methodLink RX8 71 yJ9_min_7cf53 : Cond) ∈ wsA := wsA_t (List.mem_append_right _ (List.mem_append_right _ (List.mem_append_right _ (List.mem_append_left _ (List.mem_of_getElem? (l := tables_1_4) (i := 148) rfl))))) rfl
theorem mw_3_123 : (.static yJ9_min_7cf53 : Cond) ∈ wsA := wsA_t (List.mem_append_right _ (List.mem_append_right _ (List.mem_append_left _ (List.mem_of_getElem? (l := tables_1_3) (i := 123) rfl)))) rfl
theorem mw_1_18 : (.initialized RJ9 : Cond) ∈ wsA := wsA_t (List.mem_append_left _ (List.mem_of_getElem? (l := tables_1_1) (i := 18) rfl)) rfl
theorem mw_3_124 : (.code yJ9_min_7cf53 cJ9_min_7cf53 2 (some .int) : Cond) ∈ wsA := wsA_t (List.mem_append_right _ (List.mem_append_right _ (List.mem_append_left _ (List.mem_of_getElem? (l := tables_1_3) (i := 124) rfl)))) rfl
theorem mw_1_233 : (.fieldLink RX10 12 "HillBends$World" "hill" "LHillBends$Hill;" : Cond) ∈ wsA := wsA_t (List.mem_append_left _ (List.mem_of_getElem? (l := tables_1_1) (i := 233) rfl)) rfl
theorem mw_3_234 : (.instanceMethod yX3_copyFrom : Cond) ∈ wsA := wsA_t (List.mem_append_right _ (List.mem_append_right _ (List.mem_append_left _ (List.mem_of_getElem? (l := tables_1_3) (i := 234) rfl)))) rfl
theorem mw_3_235 : (.selects RX3 yX3_copyFrom yX3_copyFrom : Cond) ∈ wsA := wsA_t (List.mem_append_right _ (List.mem_append_right _ (List.mem_append_left _ (List.mem_of_getElem? (l := tables_1_3) (i := 235) rfl)))) rfl
theorem mw_3_236 : (.code yX3_copyFrom cX3_copyFrom 2 none : Cond) ∈ wsA := wsA_t (List.mem_append_right _ (List.mem_append_right _ (List.mem_append_left _ (List.mem_of_getElem? (l := tables_1_3) (i := 236) rfl)))) rfl
theorem mw_3_233 : (.methodLink RX10 42 yX3_copyFrom : Cond) ∈ wsA := wsA_t (List.mem_append_right _ (List.mem_append_right _ (List.mem_append_left _ (List.mem_of_getElem? (l := tables_1_3) (i := 233) rfl)))) rfl
theorem mw_1_237 : (.fieldLink RX10 21 "HillBends$World" "now" "LHillBends$Scene;" : Cond) ∈ wsA := wsA_t (List.mem_append_left _ (List.mem_of_getElem? (l := tables_1_1) (i := 237) rfl)) rfl
theorem mw_1_159 : (.fieldLink RX10 46 "HillBends$Hill" "begin" "LHillBends$Scene;" : Cond) ∈ wsA := wsA_t (List.mem_append_left _ (List.mem_of_getElem? (l := tables_1_1) (i := 159) rfl)) rfl
theorem mw_4_5 : (.methodLink RX10 49 yX8_copyFrom : Cond) ∈ wsA := wsA_t (List.mem_append_right _ (List.mem_append_right _ (List.mem_append_right _ (List.mem_append_left _ (List.mem_of_getElem? (l := tables_1_4) (i := 5) rfl))))) rfl
theorem mw_2_11 : (.fieldLink RX10 52 "HillBends$World" "notes" "I" : Cond) ∈ wsA := wsA_t (List.mem_append_right _ (List.mem_append_left _ (List.mem_of_getElem? (l := tables_1_2) (i := 11) rfl))) rfl
theorem mw_2_0 : (.fieldLink RX10 25 "HillBends$World" "leaves" "[I" : Cond) ∈ wsA := wsA_t (List.mem_append_right _ (List.mem_append_left _ (List.mem_of_getElem? (l := tables_1_2) (i := 0) rfl))) rfl
theorem mw_5_205 : (.methodLink RX10 55 arraycopyName : Cond) ∈ wsA := wsA_t (List.mem_append_right _ (List.mem_append_right _ (List.mem_append_right _ (List.mem_append_right _ (List.mem_append_left _ (List.mem_of_getElem? (l := tables_1_5) (i := 205) rfl)))))) rfl
theorem mw_2_2 : (.fieldLink RX10 29 "HillBends$World" "noteNight" "[I" : Cond) ∈ wsA := wsA_t (List.mem_append_right _ (List.mem_append_left _ (List.mem_of_getElem? (l := tables_1_2) (i := 2) rfl))) rfl
theorem mw_2_5 : (.fieldLink RX10 32 "HillBends$World" "noteBend" "[I" : Cond) ∈ wsA := wsA_t (List.mem_append_right _ (List.mem_append_left _ (List.mem_of_getElem? (l := tables_1_2) (i := 5) rfl))) rfl
theorem mw_2_8 : (.fieldLink RX10 35 "HillBends$World" "noteSort" "[I" : Cond) ∈ wsA := wsA_t (List.mem_append_right _ (List.mem_append_left _ (List.mem_of_getElem? (l := tables_1_2) (i := 8) rfl))) rfl
theorem mw_2_14 : (.fieldLink RX10 38 "HillBends$World" "force" "I" : Cond) ∈ wsA := wsA_t (List.mem_append_right _ (List.mem_append_left _ (List.mem_of_getElem? (l := tables_1_2) (i := 14) rfl))) rfl
theorem mw_2_16 : (.fieldLink RX10 61 "HillBends$World" "x" "I" : Cond) ∈ wsA := wsA_t (List.mem_append_right _ (List.mem_append_left _ (List.mem_of_getElem? (l := tables_1_2) (i := 16) rfl))) rfl
theorem mw_2_49 : (.fieldLink RX5 16 "HillBends$History" "size" "I" : Cond) ∈ wsA := wsA_t (List.mem_append_right _ (List.mem_append_left _ (List.mem_of_getElem? (l := tables_1_2) (i := 49) rfl))) rfl
theorem mw_2_48 : (.fieldLink RX5 11 "HillBends$History" "scenes" "[LHillBends$Scene;" : Cond) ∈ wsA := wsA_t (List.mem_append_right _ (List.mem_append_left _ (List.mem_of_getElem? (l := tables_1_2) (i := 48) rfl))) rfl
theorem mw_2_51 : (.fieldLink RX5 20 "HillBends$History" "next" "I" : Cond) ∈ wsA := wsA_t (List.mem_append_right _ (List.mem_append_left _ (List.mem_of_getElem? (l := tables_1_2) (i := 51) rfl))) rfl
theorem mw_4_108 : (.methodLink RX5 23 yX8_copyFrom : Cond) ∈ wsA := wsA_t (List.mem_append_right _ (List.mem_append_right _ (List.mem_append_right _ (List.mem_append_left _ (List.mem_of_getElem? (l := tables_1_4) (i := 108) rfl))))) rfl
theorem mw_4_109 : (.methodLink RX5 27 yJ9_min_7cf53 : Cond) ∈ wsA := wsA_t (List.mem_append_right _ (List.mem_append_right _ (List.mem_append_right _ (List.mem_append_left _ (List.mem_of_getElem? (l := tables_1_4) (i := 109) rfl))))) rfl
theorem mw_2_167 : (.fieldLink RX2 25 "HillBends$Forecast" "foreseen" "I" : Cond) ∈ wsA := wsA_t (List.mem_append_right _ (List.mem_append_left _ (List.mem_of_getElem? (l := tables_1_2) (i := 167) rfl))) rfl
theorem mw_2_95 : (.fieldLink RX0 9 "HillBends$Chances" "stock" "[I" : Cond) ∈ wsA := wsA_t (List.mem_append_right _ (List.mem_append_left _ (List.mem_of_getElem? (l := tables_1_2) (i := 95) rfl))) rfl
theorem mw_1_96 : (.fieldLink RX0 24 "HillBends$Scene" "has" "[I" : Cond) ∈ wsA := wsA_t (List.mem_append_left _ (List.mem_of_getElem? (l := tables_1_1) (i := 96) rfl)) rfl
theorem mw_2_97 : (.fieldLink RX0 15 "HillBends$Chances" "need" "[I" : Cond) ∈ wsA := wsA_t (List.mem_append_right _ (List.mem_append_left _ (List.mem_of_getElem? (l := tables_1_2) (i := 97) rfl))) rfl
theorem mw_5_0 : (.methodLink RX0 61 yJ9_max_7cf53 : Cond) ∈ wsA := wsA_t (List.mem_append_right _ (List.mem_append_right _ (List.mem_append_right _ (List.mem_append_right _ (List.mem_append_left _ (List.mem_of_getElem? (l := tables_1_5) (i := 0) rfl)))))) rfl
theorem mw_3_120 : (.static yJ9_max_7cf53 : Cond) ∈ wsA := wsA_t (List.mem_append_right _ (List.mem_append_right _ (List.mem_append_left _ (List.mem_of_getElem? (l := tables_1_3) (i := 120) rfl)))) rfl
theorem mw_3_121 : (.code yJ9_max_7cf53 cJ9_max_7cf53 2 (some .int) : Cond) ∈ wsA := wsA_t (List.mem_append_right _ (List.mem_append_right _ (List.mem_append_left _ (List.mem_of_getElem? (l := tables_1_3) (i := 121) rfl)))) rfl
theorem mw_1_176 : (.fieldLink RX0 66 "HillBends$Hill" "sorts" "I" : Cond) ∈ wsA := wsA_t (List.mem_append_left _ (List.mem_of_getElem? (l := tables_1_1) (i := 176) rfl)) rfl
theorem mw_1_143 : (.fieldLink RX0 69 "HillBends$Hill" "price" "[I" : Cond) ∈ wsA := wsA_t (List.mem_append_left _ (List.mem_of_getElem? (l := tables_1_1) (i := 143) rfl)) rfl
theorem mw_4_221 : (.instanceMethod yX0_stockUp : Cond) ∈ wsA := wsA_t (List.mem_append_right _ (List.mem_append_right _ (List.mem_append_right _ (List.mem_append_left _ (List.mem_of_getElem? (l := tables_1_4) (i := 221) rfl))))) rfl
theorem mp_2_14 : (.selects RX0 yX0_stockUp yX0_stockUp : Cond) ∈ wsA := wsA_p (q := (yX0_stockUp, 6)) (List.mem_append_right _ (List.mem_append_left _ (List.mem_of_getElem? (l := lw_privs_2) (i := 14) rfl)))
theorem mw_1_9 : (.initialized RX0 : Cond) ∈ wsA := wsA_t (List.mem_append_left _ (List.mem_of_getElem? (l := tables_1_1) (i := 9) rfl)) rfl
theorem mw_4_222 : (.code yX0_stockUp cX0_stockUp 4 none : Cond) ∈ wsA := wsA_t (List.mem_append_right _ (List.mem_append_right _ (List.mem_append_right _ (List.mem_append_left _ (List.mem_of_getElem? (l := tables_1_4) (i := 222) rfl))))) rfl
theorem mw_4_219 : (.methodLink RX0 29 yX0_stockUp : Cond) ∈ wsA := wsA_t (List.mem_append_right _ (List.mem_append_right _ (List.mem_append_right _ (List.mem_append_left _ (List.mem_of_getElem? (l := tables_1_4) (i := 219) rfl))))) rfl
theorem mw_1_81 : (.fieldLink RX0 33 "HillBends$Scene" "height" "[I" : Cond) ∈ wsA := wsA_t (List.mem_append_left _ (List.mem_of_getElem? (l := tables_1_1) (i := 81) rfl)) rfl
theorem mw_1_180 : (.fieldLink RX0 36 "HillBends$Hill" "bends" "I" : Cond) ∈ wsA := wsA_t (List.mem_append_left _ (List.mem_of_getElem? (l := tables_1_1) (i := 180) rfl)) rfl
theorem mw_1_107 : (.fieldLink RX0 42 "HillBends$Scene" "seconds" "I" : Cond) ∈ wsA := wsA_t (List.mem_append_left _ (List.mem_of_getElem? (l := tables_1_1) (i := 107) rfl)) rfl
theorem mw_4_223 : (.methodLink RX0 45 yX3_askedAt : Cond) ∈ wsA := wsA_t (List.mem_append_right _ (List.mem_append_right _ (List.mem_append_right _ (List.mem_append_left _ (List.mem_of_getElem? (l := tables_1_4) (i := 223) rfl))))) rfl
theorem mw_4_234 : (.instanceMethod yX0_clearNeed : Cond) ∈ wsA := wsA_t (List.mem_append_right _ (List.mem_append_right _ (List.mem_append_right _ (List.mem_append_left _ (List.mem_of_getElem? (l := tables_1_4) (i := 234) rfl))))) rfl
theorem mp_2_15 : (.selects RX0 yX0_clearNeed yX0_clearNeed : Cond) ∈ wsA := wsA_p (q := (yX0_clearNeed, 6)) (List.mem_append_right _ (List.mem_append_left _ (List.mem_of_getElem? (l := lw_privs_2) (i := 15) rfl)))
theorem mw_4_235 : (.code yX0_clearNeed cX0_clearNeed 2 none : Cond) ∈ wsA := wsA_t (List.mem_append_right _ (List.mem_append_right _ (List.mem_append_right _ (List.mem_append_left _ (List.mem_of_getElem? (l := tables_1_4) (i := 235) rfl))))) rfl
theorem mw_4_232 : (.methodLink RX0 49 yX0_clearNeed : Cond) ∈ wsA := wsA_t (List.mem_append_right _ (List.mem_append_right _ (List.mem_append_right _ (List.mem_append_left _ (List.mem_of_getElem? (l := tables_1_4) (i := 232) rfl))))) rfl
theorem mw_4_238 : (.instanceMethod yX0_lessenNeed : Cond) ∈ wsA := wsA_t (List.mem_append_right _ (List.mem_append_right _ (List.mem_append_right _ (List.mem_append_left _ (List.mem_of_getElem? (l := tables_1_4) (i := 238) rfl))))) rfl
theorem mp_3_0 : (.selects RX0 yX0_lessenNeed yX0_lessenNeed : Cond) ∈ wsA := wsA_p (q := (yX0_lessenNeed, 6)) (List.mem_append_right _ (List.mem_append_right _ (List.mem_append_left _ (List.mem_of_getElem? (l := lw_privs_3) (i := 0) rfl))))
theorem mw_4_239 : (.code yX0_lessenNeed cX0_lessenNeed 4 none : Cond) ∈ wsA := wsA_t (List.mem_append_right _ (List.mem_append_right _ (List.mem_append_right _ (List.mem_append_left _ (List.mem_of_getElem? (l := tables_1_4) (i := 239) rfl))))) rfl
theorem mw_4_236 : (.methodLink RX0 52 yX0_lessenNeed : Cond) ∈ wsA := wsA_t (List.mem_append_right _ (List.mem_append_right _ (List.mem_append_right _ (List.mem_append_left _ (List.mem_of_getElem? (l := tables_1_4) (i := 236) rfl))))) rfl
theorem mw_1_148 : (.fieldLink RX0 55 "HillBends$Hill" "first" "[I" : Cond) ∈ wsA := wsA_t (List.mem_append_left _ (List.mem_of_getElem? (l := tables_1_1) (i := 148) rfl)) rfl
theorem mw_1_154 : (.fieldLink RX0 58 "HillBends$Hill" "second" "[I" : Cond) ∈ wsA := wsA_t (List.mem_append_left _ (List.mem_of_getElem? (l := tables_1_1) (i := 154) rfl)) rfl
theorem mw_1_82 : (.fieldLink RX1 68 "HillBends$Scene" "height" "[I" : Cond) ∈ wsA := wsA_t (List.mem_append_left _ (List.mem_of_getElem? (l := tables_1_1) (i := 82) rfl)) rfl
theorem mw_1_97 : (.fieldLink RX1 74 "HillBends$Scene" "has" "[I" : Cond) ∈ wsA := wsA_t (List.mem_append_left _ (List.mem_of_getElem? (l := tables_1_1) (i := 97) rfl)) rfl
theorem mw_5_78 : (.methodLink RX1 77 yJ9_min_7cf53 : Cond) ∈ wsA := wsA_t (List.mem_append_right _ (List.mem_append_right _ (List.mem_append_right _ (List.mem_append_right _ (List.mem_append_left _ (List.mem_of_getElem? (l := tables_1_5) (i := 78) rfl)))))) rfl
theorem mw_1_101 : (.fieldLink RX1 71 "HillBends$Scene" "heap" "[I" : Cond) ∈ wsA := wsA_t (List.mem_append_left _ (List.mem_of_getElem? (l := tables_1_1) (i := 101) rfl)) rfl
theorem mw_1_172 : (.fieldLink RX1 33 "HillBends$Hill" "sorts" "I" : Cond) ∈ wsA := wsA_t (List.mem_append_left _ (List.mem_of_getElem? (l := tables_1_1) (i := 172) rfl)) rfl
theorem mw_2_125 : (.fieldLink RX1 9 "HillBends$Choices" "limit" "[I" : Cond) ∈ wsA := wsA_t (List.mem_append_right _ (List.mem_append_left _ (List.mem_of_getElem? (l := tables_1_2) (i := 125) rfl))) rfl
theorem mw_2_126 : (.fieldLink RX1 15 "HillBends$Choices" "gain" "[I" : Cond) ∈ wsA := wsA_t (List.mem_append_right _ (List.mem_append_left _ (List.mem_of_getElem? (l := tables_1_2) (i := 126) rfl))) rfl
theorem mw_5_89 : (.methodLink RX1 95 yJ9_max_7cf53 : Cond) ∈ wsA := wsA_t (List.mem_append_right _ (List.mem_append_right _ (List.mem_append_right _ (List.mem_append_right _ (List.mem_append_left _ (List.mem_of_getElem? (l := tables_1_5) (i := 89) rfl)))))) rfl
theorem mw_2_128 : (.fieldLink RX1 21 "HillBends$Choices" "best" "[I" : Cond) ∈ wsA := wsA_t (List.mem_append_right _ (List.mem_append_left _ (List.mem_of_getElem? (l := tables_1_2) (i := 128) rfl))) rfl
theorem mw_1_137 : (.fieldLink RX1 39 "HillBends$Hill" "worth" "[I" : Cond) ∈ wsA := wsA_t (List.mem_append_left _ (List.mem_of_getElem? (l := tables_1_1) (i := 137) rfl)) rfl
theorem mw_2_210 : (.fieldLink RX11 32 "HillBends" "world" "LHillBends$World;" : Cond) ∈ wsA := wsA_t (List.mem_append_right _ (List.mem_append_left _ (List.mem_of_getElem? (l := tables_1_2) (i := 210) rfl))) rfl
theorem mw_1_236 : (.fieldLink RX11 102 "HillBends$World" "hill" "LHillBends$Hill;" : Cond) ∈ wsA := wsA_t (List.mem_append_left _ (List.mem_of_getElem? (l := tables_1_1) (i := 236) rfl)) rfl
theorem mw_1_189 : (.fieldLink RX11 281 "HillBends$Hill" "pilgrims" "I" : Cond) ∈ wsA := wsA_t (List.mem_append_left _ (List.mem_of_getElem? (l := tables_1_1) (i := 189) rfl)) rfl
theorem mw_1_182 : (.fieldLink RX11 105 "HillBends$Hill" "bends" "I" : Cond) ∈ wsA := wsA_t (List.mem_append_left _ (List.mem_of_getElem? (l := tables_1_1) (i := 182) rfl)) rfl
theorem mw_1_177 : (.fieldLink RX11 350 "HillBends$Hill" "sorts" "I" : Cond) ∈ wsA := wsA_t (List.mem_append_left _ (List.mem_of_getElem? (l := tables_1_1) (i := 177) rfl)) rfl
theorem mw_4_93 : (.instanceMethod yX11_isSort : Cond) ∈ wsA := wsA_t (List.mem_append_right _ (List.mem_append_right _ (List.mem_append_right _ (List.mem_append_left _ (List.mem_of_getElem? (l := tables_1_4) (i := 93) rfl))))) rfl
theorem mp_2_8 : (.selects RX11 yX11_isSort yX11_isSort : Cond) ∈ wsA := wsA_p (q := (yX11_isSort, 12)) (List.mem_append_right _ (List.mem_append_left _ (List.mem_of_getElem? (l := lw_privs_2) (i := 8) rfl)))
theorem mw_1_1 : (.initialized RX11 : Cond) ∈ wsA := wsA_t (List.mem_append_left _ (List.mem_of_getElem? (l := tables_1_1) (i := 1) rfl)) rfl
theorem mw_4_94 : (.code yX11_isSort cX11_isSort 2 (some .boolean) : Cond) ∈ wsA := wsA_t (List.mem_append_right _ (List.mem_append_right _ (List.mem_append_right _ (List.mem_append_left _ (List.mem_of_getElem? (l := tables_1_4) (i := 94) rfl))))) rfl
theorem mw_4_91 : (.methodLink RX11 166 yX11_isSort : Cond) ∈ wsA := wsA_t (List.mem_append_right _ (List.mem_append_right _ (List.mem_append_right _ (List.mem_append_left _ (List.mem_of_getElem? (l := tables_1_4) (i := 91) rfl))))) rfl
theorem mw_4_72 : (.instanceMethod yX11_isPilgrim : Cond) ∈ wsA := wsA_t (List.mem_append_right _ (List.mem_append_right _ (List.mem_append_right _ (List.mem_append_left _ (List.mem_of_getElem? (l := tables_1_4) (i := 72) rfl))))) rfl
theorem mp_2_6 : (.selects RX11 yX11_isPilgrim yX11_isPilgrim : Cond) ∈ wsA := wsA_p (q := (yX11_isPilgrim, 12)) (List.mem_append_right _ (List.mem_append_left _ (List.mem_of_getElem? (l := lw_privs_2) (i := 6) rfl)))
theorem mw_4_73 : (.code yX11_isPilgrim cX11_isPilgrim 2 (some .boolean) : Cond) ∈ wsA := wsA_t (List.mem_append_right _ (List.mem_append_right _ (List.mem_append_right _ (List.mem_append_left _ (List.mem_of_getElem? (l := tables_1_4) (i := 73) rfl))))) rfl
theorem mw_4_70 : (.methodLink RX11 117 yX11_isPilgrim : Cond) ∈ wsA := wsA_t (List.mem_append_right _ (List.mem_append_right _ (List.mem_append_right _ (List.mem_append_left _ (List.mem_of_getElem? (l := tables_1_4) (i := 70) rfl))))) rfl
theorem mw_1_239 : (.fieldLink RX11 121 "HillBends$World" "now" "LHillBends$Scene;" : Cond) ∈ wsA := wsA_t (List.mem_append_left _ (List.mem_of_getElem? (l := tables_1_1) (i := 239) rfl)) rfl
theorem mw_1_84 : (.fieldLink RX11 125 "HillBends$Scene" "height" "[I" : Cond) ∈ wsA := wsA_t (List.mem_append_left _ (List.mem_of_getElem? (l := tables_1_1) (i := 84) rfl)) rfl
theorem mw_4_143 : (.methodLink RX8 67 yX3_askedAt : Cond) ∈ wsA := wsA_t (List.mem_append_right _ (List.mem_append_right _ (List.mem_append_right _ (List.mem_append_left _ (List.mem_of_getElem? (l := tables_1_4) (i := 143) rfl))))) rfl
theorem mw_1_44 : (.fieldLink RX4 45 "HillBends$Tape" "fault" "I" : Cond) ∈ wsA := wsA_t (List.mem_append_left _ (List.mem_of_getElem? (l := tables_1_1) (i := 44) rfl)) rfl
theorem mw_1_215 : (.fieldLink RX4 29 "HillBends$HillReader" "at" "I" : Cond) ∈ wsA := wsA_t (List.mem_append_left _ (List.mem_of_getElem? (l := tables_1_1) (i := 215) rfl)) rfl
theorem mw_3_176 : (.instanceMethod yX9_kindAt : Cond) ∈ wsA := wsA_t (List.mem_append_right _ (List.mem_append_right _ (List.mem_append_left _ (List.mem_of_getElem? (l := tables_1_3) (i := 176) rfl)))) rfl
theorem mw_3_177 : (.selects RX9 yX9_kindAt yX9_kindAt : Cond) ∈ wsA := wsA_t (List.mem_append_right _ (List.mem_append_right _ (List.mem_append_left _ (List.mem_of_getElem? (l := tables_1_3) (i := 177) rfl)))) rfl
theorem mw_1_2 : (.initialized RX9 : Cond) ∈ wsA := wsA_t (List.mem_append_left _ (List.mem_of_getElem? (l := tables_1_1) (i := 2) rfl)) rfl
theorem mw_3_178 : (.code yX9_kindAt cX9_kindAt 2 (some .int) : Cond) ∈ wsA := wsA_t (List.mem_append_right _ (List.mem_append_right _ (List.mem_append_left _ (List.mem_of_getElem? (l := tables_1_3) (i := 178) rfl)))) rfl
theorem mw_3_175 : (.methodLink RX4 37 yX9_kindAt : Cond) ∈ wsA := wsA_t (List.mem_append_right _ (List.mem_append_right _ (List.mem_append_left _ (List.mem_of_getElem? (l := tables_1_3) (i := 175) rfl)))) rfl
theorem mw_3_180 : (.instanceMethod yX9_valueAt : Cond) ∈ wsA := wsA_t (List.mem_append_right _ (List.mem_append_right _ (List.mem_append_left _ (List.mem_of_getElem? (l := tables_1_3) (i := 180) rfl)))) rfl
theorem mw_3_181 : (.selects RX9 yX9_valueAt yX9_valueAt : Cond) ∈ wsA := wsA_t (List.mem_append_right _ (List.mem_append_right _ (List.mem_append_left _ (List.mem_of_getElem? (l := tables_1_3) (i := 181) rfl)))) rfl
theorem mw_3_182 : (.code yX9_valueAt cX9_valueAt 2 (some .int) : Cond) ∈ wsA := wsA_t (List.mem_append_right _ (List.mem_append_right _ (List.mem_append_left _ (List.mem_of_getElem? (l := tables_1_3) (i := 182) rfl)))) rfl
theorem mw_3_179 : (.methodLink RX4 48 yX9_valueAt : Cond) ∈ wsA := wsA_t (List.mem_append_right _ (List.mem_append_right _ (List.mem_append_left _ (List.mem_of_getElem? (l := tables_1_3) (i := 179) rfl)))) rfl
theorem mw_3_184 : (.instanceMethod yX9_wrong : Cond) ∈ wsA := wsA_t (List.mem_append_right _ (List.mem_append_right _ (List.mem_append_left _ (List.mem_of_getElem? (l := tables_1_3) (i := 184) rfl)))) rfl
theorem mw_3_185 : (.selects RX9 yX9_wrong yX9_wrong : Cond) ∈ wsA := wsA_t (List.mem_append_right _ (List.mem_append_right _ (List.mem_append_left _ (List.mem_of_getElem? (l := tables_1_3) (i := 185) rfl)))) rfl
theorem mw_3_186 : (.code yX9_wrong cX9_wrong 4 (some .boolean) : Cond) ∈ wsA := wsA_t (List.mem_append_right _ (List.mem_append_right _ (List.mem_append_left _ (List.mem_of_getElem? (l := tables_1_3) (i := 186) rfl)))) rfl
theorem mw_3_183 : (.methodLink RX4 41 yX9_wrong : Cond) ∈ wsA := wsA_t (List.mem_append_right _ (List.mem_append_right _ (List.mem_append_left _ (List.mem_of_getElem? (l := tables_1_3) (i := 183) rfl)))) rfl
theorem mw_1_213 : (.fieldLink RX4 12 "HillBends$HillReader" "told" "LHillBends$Hill;" : Cond) ∈ wsA := wsA_t (List.mem_append_left _ (List.mem_of_getElem? (l := tables_1_1) (i := 213) rfl)) rfl
theorem mw_3_197 : (.instanceMethod yX4_number : Cond) ∈ wsA := wsA_t (List.mem_append_right _ (List.mem_append_right _ (List.mem_append_left _ (List.mem_of_getElem? (l := tables_1_3) (i := 197) rfl)))) rfl
theorem mp_1_8 : (.selects RX4 yX4_number yX4_number : Cond) ∈ wsA := wsA_p (q := (yX4_number, 2)) (List.mem_append_left _ (List.mem_of_getElem? (l := lw_privs_1) (i := 8) rfl))
theorem mw_1_3 : (.initialized RX4 : Cond) ∈ wsA := wsA_t (List.mem_append_left _ (List.mem_of_getElem? (l := tables_1_1) (i := 3) rfl)) rfl
theorem mw_3_198 : (.code yX4_number cX4_number 5 (some .int) : Cond) ∈ wsA := wsA_t (List.mem_append_right _ (List.mem_append_right _ (List.mem_append_left _ (List.mem_of_getElem? (l := tables_1_3) (i := 198) rfl)))) rfl
theorem mw_3_195 : (.methodLink RX4 83 yX4_number : Cond) ∈ wsA := wsA_t (List.mem_append_right _ (List.mem_append_right _ (List.mem_append_left _ (List.mem_of_getElem? (l := tables_1_3) (i := 195) rfl)))) rfl
theorem mw_1_167 : (.fieldLink RX4 87 "HillBends$Hill" "burden" "I" : Cond) ∈ wsA := wsA_t (List.mem_append_left _ (List.mem_of_getElem? (l := tables_1_1) (i := 167) rfl)) rfl
theorem mw_1_133 : (.fieldLink RX4 90 "HillBends$Hill" "weight" "[I" : Cond) ∈ wsA := wsA_t (List.mem_append_left _ (List.mem_of_getElem? (l := tables_1_1) (i := 133) rfl)) rfl
theorem mw_1_175 : (.fieldLink RX4 74 "HillBends$Hill" "sorts" "I" : Cond) ∈ wsA := wsA_t (List.mem_append_left _ (List.mem_of_getElem? (l := tables_1_1) (i := 175) rfl)) rfl
theorem mw_1_139 : (.fieldLink RX4 94 "HillBends$Hill" "worth" "[I" : Cond) ∈ wsA := wsA_t (List.mem_append_left _ (List.mem_of_getElem? (l := tables_1_1) (i := 139) rfl)) rfl
theorem mw_1_142 : (.fieldLink RX4 97 "HillBends$Hill" "price" "[I" : Cond) ∈ wsA := wsA_t (List.mem_append_left _ (List.mem_of_getElem? (l := tables_1_1) (i := 142) rfl)) rfl
theorem mw_1_150 : (.fieldLink RX4 100 "HillBends$Hill" "first" "[I" : Cond) ∈ wsA := wsA_t (List.mem_append_left _ (List.mem_of_getElem? (l := tables_1_1) (i := 150) rfl)) rfl
theorem mw_1_181 : (.fieldLink RX4 77 "HillBends$Hill" "bends" "I" : Cond) ∈ wsA := wsA_t (List.mem_append_left _ (List.mem_of_getElem? (l := tables_1_1) (i := 181) rfl)) rfl
theorem mw_1_157 : (.fieldLink RX4 103 "HillBends$Hill" "second" "[I" : Cond) ∈ wsA := wsA_t (List.mem_append_left _ (List.mem_of_getElem? (l := tables_1_1) (i := 157) rfl)) rfl
theorem mw_1_161 : (.fieldLink RX4 106 "HillBends$Hill" "begin" "LHillBends$Scene;" : Cond) ∈ wsA := wsA_t (List.mem_append_left _ (List.mem_of_getElem? (l := tables_1_1) (i := 161) rfl)) rfl
theorem mw_1_87 : (.fieldLink RX4 110 "HillBends$Scene" "money" "[I" : Cond) ∈ wsA := wsA_t (List.mem_append_left _ (List.mem_of_getElem? (l := tables_1_1) (i := 87) rfl)) rfl
theorem mw_1_187 : (.fieldLink RX4 80 "HillBends$Hill" "pilgrims" "I" : Cond) ∈ wsA := wsA_t (List.mem_append_left _ (List.mem_of_getElem? (l := tables_1_1) (i := 187) rfl)) rfl
theorem mw_1_99 : (.fieldLink RX4 119 "HillBends$Scene" "has" "[I" : Cond) ∈ wsA := wsA_t (List.mem_append_left _ (List.mem_of_getElem? (l := tables_1_1) (i := 99) rfl)) rfl
theorem mw_3_219 : (.methodLink RX4 122 yJ9_min_7cf53 : Cond) ∈ wsA := wsA_t (List.mem_append_right _ (List.mem_append_right _ (List.mem_append_left _ (List.mem_of_getElem? (l := tables_1_3) (i := 219) rfl)))) rfl
theorem mw_3_220 : (.methodLink RX4 127 yX8_weightOf : Cond) ∈ wsA := wsA_t (List.mem_append_right _ (List.mem_append_right _ (List.mem_append_left _ (List.mem_of_getElem? (l := tables_1_3) (i := 220) rfl)))) rfl
theorem mw_3_224 : (.methodLink RX4 131 yJ9_max_7cf53 : Cond) ∈ wsA := wsA_t (List.mem_append_right _ (List.mem_append_right _ (List.mem_append_left _ (List.mem_of_getElem? (l := tables_1_3) (i := 224) rfl)))) rfl
theorem mw_3_217 : (.instanceMethod yX4_mostMore : Cond) ∈ wsA := wsA_t (List.mem_append_right _ (List.mem_append_right _ (List.mem_append_left _ (List.mem_of_getElem? (l := tables_1_3) (i := 217) rfl)))) rfl
theorem mp_1_13 : (.selects RX4 yX4_mostMore yX4_mostMore : Cond) ∈ wsA := wsA_p (q := (yX4_mostMore, 2)) (List.mem_append_left _ (List.mem_of_getElem? (l := lw_privs_1) (i := 13) rfl))
theorem mw_3_218 : (.code yX4_mostMore cX4_mostMore 5 (some .int) : Cond) ∈ wsA := wsA_t (List.mem_append_right _ (List.mem_append_right _ (List.mem_append_left _ (List.mem_of_getElem? (l := tables_1_3) (i := 218) rfl)))) rfl
theorem mw_3_215 : (.methodLink RX4 115 yX4_mostMore : Cond) ∈ wsA := wsA_t (List.mem_append_right _ (List.mem_append_right _ (List.mem_append_left _ (List.mem_of_getElem? (l := tables_1_3) (i := 215) rfl)))) rfl
theorem mw_1_104 : (.fieldLink RX4 134 "HillBends$Scene" "heap" "[I" : Cond) ∈ wsA := wsA_t (List.mem_append_left _ (List.mem_of_getElem? (l := tables_1_1) (i := 104) rfl)) rfl
theorem mw_3_189 : (.instanceMethod yX4_isFull : Cond) ∈ wsA := wsA_t (List.mem_append_right _ (List.mem_append_right _ (List.mem_append_left _ (List.mem_of_getElem? (l := tables_1_3) (i := 189) rfl)))) rfl
theorem mp_1_6 : (.selects RX4 yX4_isFull yX4_isFull : Cond) ∈ wsA := wsA_p (q := (yX4_isFull, 2)) (List.mem_append_left _ (List.mem_of_getElem? (l := lw_privs_1) (i := 6) rfl))
theorem mw_3_190 : (.code yX4_isFull cX4_isFull 2 (some .boolean) : Cond) ∈ wsA := wsA_t (List.mem_append_right _ (List.mem_append_right _ (List.mem_append_left _ (List.mem_of_getElem? (l := tables_1_3) (i := 190) rfl)))) rfl
theorem mw_3_187 : (.methodLink RX4 51 yX4_isFull : Cond) ∈ wsA := wsA_t (List.mem_append_right _ (List.mem_append_right _ (List.mem_append_left _ (List.mem_of_getElem? (l := tables_1_3) (i := 187) rfl)))) rfl
theorem mw_3_227 : (.instanceMethod yX4_heapClause : Cond) ∈ wsA := wsA_t (List.mem_append_right _ (List.mem_append_right _ (List.mem_append_left _ (List.mem_of_getElem? (l := tables_1_3) (i := 227) rfl)))) rfl
theorem mp_1_14 : (.selects RX4 yX4_heapClause yX4_heapClause : Cond) ∈ wsA := wsA_p (q := (yX4_heapClause, 2)) (List.mem_append_left _ (List.mem_of_getElem? (l := lw_privs_1) (i := 14) rfl))
theorem mw_3_228 : (.code yX4_heapClause cX4_heapClause 5 (some .boolean) : Cond) ∈ wsA := wsA_t (List.mem_append_right _ (List.mem_append_right _ (List.mem_append_left _ (List.mem_of_getElem? (l := tables_1_3) (i := 228) rfl)))) rfl
theorem mw_3_225 : (.methodLink RX4 71 yX4_heapClause : Cond) ∈ wsA := wsA_t (List.mem_append_right _ (List.mem_append_right _ (List.mem_append_left _ (List.mem_of_getElem? (l := tables_1_3) (i := 225) rfl)))) rfl
theorem mw_3_193 : (.instanceMethod yX4_burdenClause : Cond) ∈ wsA := wsA_t (List.mem_append_right _ (List.mem_append_right _ (List.mem_append_left _ (List.mem_of_getElem? (l := tables_1_3) (i := 193) rfl)))) rfl
theorem mp_1_7 : (.selects RX4 yX4_burdenClause yX4_burdenClause : Cond) ∈ wsA := wsA_p (q := (yX4_burdenClause, 2)) (List.mem_append_left _ (List.mem_of_getElem? (l := lw_privs_1) (i := 7) rfl))
theorem mw_3_194 : (.code yX4_burdenClause cX4_burdenClause 2 (some .boolean) : Cond) ∈ wsA := wsA_t (List.mem_append_right _ (List.mem_append_right _ (List.mem_append_left _ (List.mem_of_getElem? (l := tables_1_3) (i := 194) rfl)))) rfl
theorem mw_3_191 : (.methodLink RX4 55 yX4_burdenClause : Cond) ∈ wsA := wsA_t (List.mem_append_right _ (List.mem_append_right _ (List.mem_append_left _ (List.mem_of_getElem? (l := tables_1_3) (i := 191) rfl)))) rfl
theorem mw_3_201 : (.instanceMethod yX4_sortClause : Cond) ∈ wsA := wsA_t (List.mem_append_right _ (List.mem_append_right _ (List.mem_append_left _ (List.mem_of_getElem? (l := tables_1_3) (i := 201) rfl)))) rfl
theorem mp_1_9 : (.selects RX4 yX4_sortClause yX4_sortClause : Cond) ∈ wsA := wsA_p (q := (yX4_sortClause, 2)) (List.mem_append_left _ (List.mem_of_getElem? (l := lw_privs_1) (i := 9) rfl))
theorem mw_3_202 : (.code yX4_sortClause cX4_sortClause 5 (some .boolean) : Cond) ∈ wsA := wsA_t (List.mem_append_right _ (List.mem_append_right _ (List.mem_append_left _ (List.mem_of_getElem? (l := tables_1_3) (i := 202) rfl)))) rfl
theorem mw_3_199 : (.methodLink RX4 59 yX4_sortClause : Cond) ∈ wsA := wsA_t (List.mem_append_right _ (List.mem_append_right _ (List.mem_append_left _ (List.mem_of_getElem? (l := tables_1_3) (i := 199) rfl)))) rfl
theorem mw_3_205 : (.instanceMethod yX4_bendClause : Cond) ∈ wsA := wsA_t (List.mem_append_right _ (List.mem_append_right _ (List.mem_append_left _ (List.mem_of_getElem? (l := tables_1_3) (i := 205) rfl)))) rfl
theorem mp_1_10 : (.selects RX4 yX4_bendClause yX4_bendClause : Cond) ∈ wsA := wsA_p (q := (yX4_bendClause, 2)) (List.mem_append_left _ (List.mem_of_getElem? (l := lw_privs_1) (i := 10) rfl))
theorem mw_3_206 : (.code yX4_bendClause cX4_bendClause 4 (some .boolean) : Cond) ∈ wsA := wsA_t (List.mem_append_right _ (List.mem_append_right _ (List.mem_append_left _ (List.mem_of_getElem? (l := tables_1_3) (i := 206) rfl)))) rfl
theorem mw_3_203 : (.methodLink RX4 62 yX4_bendClause : Cond) ∈ wsA := wsA_t (List.mem_append_right _ (List.mem_append_right _ (List.mem_append_left _ (List.mem_of_getElem? (l := tables_1_3) (i := 203) rfl)))) rfl
theorem mw_3_209 : (.instanceMethod yX4_pilgrimClause : Cond) ∈ wsA := wsA_t (List.mem_append_right _ (List.mem_append_right _ (List.mem_append_left _ (List.mem_of_getElem? (l := tables_1_3) (i := 209) rfl)))) rfl
theorem mp_1_11 : (.selects RX4 yX4_pilgrimClause yX4_pilgrimClause : Cond) ∈ wsA := wsA_p (q := (yX4_pilgrimClause, 2)) (List.mem_append_left _ (List.mem_of_getElem? (l := lw_privs_1) (i := 11) rfl))
theorem mw_3_210 : (.code yX4_pilgrimClause cX4_pilgrimClause 3 (some .boolean) : Cond) ∈ wsA := wsA_t (List.mem_append_right _ (List.mem_append_right _ (List.mem_append_left _ (List.mem_of_getElem? (l := tables_1_3) (i := 210) rfl)))) rfl
theorem mw_3_207 : (.methodLink RX4 65 yX4_pilgrimClause : Cond) ∈ wsA := wsA_t (List.mem_append_right _ (List.mem_append_right _ (List.mem_append_left _ (List.mem_of_getElem? (l := tables_1_3) (i := 207) rfl)))) rfl
theorem mw_3_213 : (.instanceMethod yX4_hasClause : Cond) ∈ wsA := wsA_t (List.mem_append_right _ (List.mem_append_right _ (List.mem_append_left _ (List.mem_of_getElem? (l := tables_1_3) (i := 213) rfl)))) rfl
theorem mp_1_12 : (.selects RX4 yX4_hasClause yX4_hasClause : Cond) ∈ wsA := wsA_p (q := (yX4_hasClause, 2)) (List.mem_append_left _ (List.mem_of_getElem? (l := lw_privs_1) (i := 12) rfl))
theorem mw_3_214 : (.code yX4_hasClause cX4_hasClause 5 (some .boolean) : Cond) ∈ wsA := wsA_t (List.mem_append_right _ (List.mem_append_right _ (List.mem_append_left _ (List.mem_of_getElem? (l := tables_1_3) (i := 214) rfl)))) rfl
theorem mw_3_211 : (.methodLink RX4 68 yX4_hasClause : Cond) ∈ wsA := wsA_t (List.mem_append_right _ (List.mem_append_right _ (List.mem_append_left _ (List.mem_of_getElem? (l := tables_1_3) (i := 211) rfl)))) rfl
theorem mw_2_67 : (.fieldLink RX6 11 "HillBends$Nights" "words" "[J" : Cond) ∈ wsA := wsA_t (List.mem_append_right _ (List.mem_append_left _ (List.mem_of_getElem? (l := tables_1_2) (i := 67) rfl))) rfl
theorem mw_1_147 : (.fieldLink RX6 53 "HillBends$Hill" "first" "[I" : Cond) ∈ wsA := wsA_t (List.mem_append_left _ (List.mem_of_getElem? (l := tables_1_1) (i := 147) rfl)) rfl
theorem mw_1_153 : (.fieldLink RX6 57 "HillBends$Hill" "second" "[I" : Cond) ∈ wsA := wsA_t (List.mem_append_left _ (List.mem_of_getElem? (l := tables_1_1) (i := 153) rfl)) rfl
theorem mw_1_105 : (.fieldLink RX6 33 "HillBends$Scene" "seconds" "I" : Cond) ∈ wsA := wsA_t (List.mem_append_left _ (List.mem_of_getElem? (l := tables_1_1) (i := 105) rfl)) rfl
theorem mw_4_122 : (.methodLink RX6 60 yX3_askedAt : Cond) ∈ wsA := wsA_t (List.mem_append_right _ (List.mem_append_right _ (List.mem_append_right _ (List.mem_append_left _ (List.mem_of_getElem? (l := tables_1_4) (i := 122) rfl))))) rfl
theorem mw_1_111 : (.fieldLink RX6 44 "HillBends$Scene" "night" "I" : Cond) ∈ wsA := wsA_t (List.mem_append_left _ (List.mem_of_getElem? (l := tables_1_1) (i := 111) rfl)) rfl
theorem mw_1_102 : (.fieldLink RX6 63 "HillBends$Scene" "heap" "[I" : Cond) ∈ wsA := wsA_t (List.mem_append_left _ (List.mem_of_getElem? (l := tables_1_1) (i := 102) rfl)) rfl
theorem mw_1_173 : (.fieldLink RX6 66 "HillBends$Hill" "sorts" "I" : Cond) ∈ wsA := wsA_t (List.mem_append_left _ (List.mem_of_getElem? (l := tables_1_1) (i := 173) rfl)) rfl
theorem mw_1_186 : (.fieldLink RX6 69 "HillBends$Hill" "pilgrims" "I" : Cond) ∈ wsA := wsA_t (List.mem_append_left _ (List.mem_of_getElem? (l := tables_1_1) (i := 186) rfl)) rfl
theorem mw_1_83 : (.fieldLink RX6 72 "HillBends$Scene" "height" "[I" : Cond) ∈ wsA := wsA_t (List.mem_append_left _ (List.mem_of_getElem? (l := tables_1_1) (i := 83) rfl)) rfl
theorem mw_2_182 : (.fieldLink RX7 11 "HillBends$Rule" "code" "[I" : Cond) ∈ wsA := wsA_t (List.mem_append_right _ (List.mem_append_left _ (List.mem_of_getElem? (l := tables_1_2) (i := 182) rfl))) rfl
theorem mw_2_186 : (.fieldLink RX7 29 "HillBends$Rule" "clauses" "I" : Cond) ∈ wsA := wsA_t (List.mem_append_right _ (List.mem_append_left _ (List.mem_of_getElem? (l := tables_1_2) (i := 186) rfl))) rfl
theorem mw_2_184 : (.fieldLink RX7 20 "HillBends$Rule" "testFrom" "[I" : Cond) ∈ wsA := wsA_t (List.mem_append_right _ (List.mem_append_left _ (List.mem_of_getElem? (l := tables_1_2) (i := 184) rfl))) rfl
theorem mw_2_185 : (.fieldLink RX7 23 "HillBends$Rule" "clauseTo" "[I" : Cond) ∈ wsA := wsA_t (List.mem_append_right _ (List.mem_append_left _ (List.mem_of_getElem? (l := tables_1_2) (i := 185) rfl))) rfl
theorem mw_1_178 : (.fieldLink RX6 27 "HillBends$Hill" "bends" "I" : Cond) ∈ wsA := wsA_t (List.mem_append_left _ (List.mem_of_getElem? (l := tables_1_1) (i := 178) rfl)) rfl
theorem mw_4_134 : (.methodLink RX6 47 yJ9_min_7cf53 : Cond) ∈ wsA := wsA_t (List.mem_append_right _ (List.mem_append_right _ (List.mem_append_right _ (List.mem_append_left _ (List.mem_of_getElem? (l := tables_1_4) (i := 134) rfl))))) rfl
theorem mw_2_70 : (.fieldLink RX6 80 "HillBends$Nights" "x" "I" : Cond) ∈ wsA := wsA_t (List.mem_append_right _ (List.mem_append_left _ (List.mem_of_getElem? (l := tables_1_2) (i := 70) rfl))) rfl
theorem mw_5_178 : (.constant RX6 106 1103515245 : Cond) ∈ wsA := wsA_t (List.mem_append_right _ (List.mem_append_right _ (List.mem_append_right _ (List.mem_append_right _ (List.mem_append_left _ (List.mem_of_getElem? (l := tables_1_5) (i := 178) rfl)))))) rfl
theorem mw_5_179 : (.constant RX6 107 2147483647 : Cond) ∈ wsA := wsA_t (List.mem_append_right _ (List.mem_append_right _ (List.mem_append_right _ (List.mem_append_right _ (List.mem_append_left _ (List.mem_of_getElem? (l := tables_1_5) (i := 179) rfl)))))) rfl
theorem mw_5_180 : (.constant RX6 108 65536 : Cond) ∈ wsA := wsA_t (List.mem_append_right _ (List.mem_append_right _ (List.mem_append_right _ (List.mem_append_right _ (List.mem_append_left _ (List.mem_of_getElem? (l := tables_1_5) (i := 180) rfl)))))) rfl
theorem mw_2_69 : (.fieldLink RX6 23 "HillBends$Nights" "scene" "LHillBends$Scene;" : Cond) ∈ wsA := wsA_t (List.mem_append_right _ (List.mem_append_left _ (List.mem_of_getElem? (l := tables_1_2) (i := 69) rfl))) rfl
theorem mw_4_140 : (.instanceMethod yX8_canGoUp : Cond) ∈ wsA := wsA_t (List.mem_append_right _ (List.mem_append_right _ (List.mem_append_right _ (List.mem_append_left _ (List.mem_of_getElem? (l := tables_1_4) (i := 140) rfl))))) rfl
theorem mw_4_141 : (.selects RX8 yX8_canGoUp yX8_canGoUp : Cond) ∈ wsA := wsA_t (List.mem_append_right _ (List.mem_append_right _ (List.mem_append_right _ (List.mem_append_left _ (List.mem_of_getElem? (l := tables_1_4) (i := 141) rfl))))) rfl
theorem mw_4_142 : (.code yX8_canGoUp cX8_canGoUp 4 (some .boolean) : Cond) ∈ wsA := wsA_t (List.mem_append_right _ (List.mem_append_right _ (List.mem_append_right _ (List.mem_append_left _ (List.mem_of_getElem? (l := tables_1_4) (i := 142) rfl))))) rfl
theorem mw_5_182 : (.methodLink RX6 112 yX8_canGoUp : Cond) ∈ wsA := wsA_t (List.mem_append_right _ (List.mem_append_right _ (List.mem_append_right _ (List.mem_append_right _ (List.mem_append_left _ (List.mem_of_getElem? (l := tables_1_5) (i := 182) rfl)))))) rfl
theorem mw_4_145 : (.instanceMethod yX8_goUp : Cond) ∈ wsA := wsA_t (List.mem_append_right _ (List.mem_append_right _ (List.mem_append_right _ (List.mem_append_left _ (List.mem_of_getElem? (l := tables_1_4) (i := 145) rfl))))) rfl
theorem mw_4_146 : (.selects RX8 yX8_goUp yX8_goUp : Cond) ∈ wsA := wsA_t (List.mem_append_right _ (List.mem_append_right _ (List.mem_append_right _ (List.mem_append_left _ (List.mem_of_getElem? (l := tables_1_4) (i := 146) rfl))))) rfl
theorem mw_4_147 : (.code yX8_goUp cX8_goUp 6 none : Cond) ∈ wsA := wsA_t (List.mem_append_right _ (List.mem_append_right _ (List.mem_append_right _ (List.mem_append_left _ (List.mem_of_getElem? (l := tables_1_4) (i := 147) rfl))))) rfl
theorem mw_5_183 : (.methodLink RX6 116 yX8_goUp : Cond) ∈ wsA := wsA_t (List.mem_append_right _ (List.mem_append_right _ (List.mem_append_right _ (List.mem_append_right _ (List.mem_append_left _ (List.mem_of_getElem? (l := tables_1_5) (i := 183) rfl)))))) rfl
theorem mw_2_73 : (.fieldLink RX6 84 "HillBends$Nights" "things" "I" : Cond) ∈ wsA := wsA_t (List.mem_append_right _ (List.mem_append_left _ (List.mem_of_getElem? (l := tables_1_2) (i := 73) rfl))) rfl
theorem mw_5_181 : (.methodLink RX6 109 yJ9_max_7cf53 : Cond) ∈ wsA := wsA_t (List.mem_append_right _ (List.mem_append_right _ (List.mem_append_right _ (List.mem_append_right _ (List.mem_append_left _ (List.mem_of_getElem? (l := tables_1_5) (i := 181) rfl)))))) rfl
theorem mw_2_17 : (.fieldLink RX6 75 "HillBends$World" "x" "I" : Cond) ∈ wsA := wsA_t (List.mem_append_right _ (List.mem_append_left _ (List.mem_of_getElem? (l := tables_1_2) (i := 17) rfl))) rfl
theorem mw_2_71 : (.fieldLink RX6 81 "HillBends$Nights" "heights" "I" : Cond) ∈ wsA := wsA_t (List.mem_append_right _ (List.mem_append_left _ (List.mem_of_getElem? (l := tables_1_2) (i := 71) rfl))) rfl
theorem mw_1_238 : (.fieldLink RX6 87 "HillBends$World" "now" "LHillBends$Scene;" : Cond) ∈ wsA := wsA_t (List.mem_append_left _ (List.mem_of_getElem? (l := tables_1_1) (i := 238) rfl)) rfl
theorem mw_5_173 : (.methodLink RX6 90 yX8_copyFrom : Cond) ∈ wsA := wsA_t (List.mem_append_right _ (List.mem_append_right _ (List.mem_append_right _ (List.mem_append_right _ (List.mem_append_left _ (List.mem_of_getElem? (l := tables_1_5) (i := 173) rfl)))))) rfl
theorem mw_1_235 : (.fieldLink RX6 94 "HillBends$World" "hill" "LHillBends$Hill;" : Cond) ∈ wsA := wsA_t (List.mem_append_left _ (List.mem_of_getElem? (l := tables_1_1) (i := 235) rfl)) rfl
theorem mw_5_176 : (.instanceMethod yX6_moveAll : Cond) ∈ wsA := wsA_t (List.mem_append_right _ (List.mem_append_right _ (List.mem_append_right _ (List.mem_append_right _ (List.mem_append_left _ (List.mem_of_getElem? (l := tables_1_5) (i := 176) rfl)))))) rfl
theorem mp_3_9 : (.selects RX6 yX6_moveAll yX6_moveAll : Cond) ∈ wsA := wsA_p (q := (yX6_moveAll, 6)) (List.mem_append_right _ (List.mem_append_right _ (List.mem_append_left _ (List.mem_of_getElem? (l := lw_privs_3) (i := 9) rfl))))
theorem mw_1_8 : (.initialized RX6 : Cond) ∈ wsA := wsA_t (List.mem_append_left _ (List.mem_of_getElem? (l := tables_1_1) (i := 8) rfl)) rfl
theorem mw_5_177 : (.code yX6_moveAll cX6_moveAll 3 none : Cond) ∈ wsA := wsA_t (List.mem_append_right _ (List.mem_append_right _ (List.mem_append_right _ (List.mem_append_right _ (List.mem_append_left _ (List.mem_of_getElem? (l := tables_1_5) (i := 177) rfl)))))) rfl
theorem mw_5_174 : (.methodLink RX6 98 yX6_moveAll : Cond) ∈ wsA := wsA_t (List.mem_append_right _ (List.mem_append_right _ (List.mem_append_right _ (List.mem_append_right _ (List.mem_append_left _ (List.mem_of_getElem? (l := tables_1_5) (i := 174) rfl)))))) rfl
theorem dJ6_bitCount_0f7a4_0 : decode cJ6_bitCount_0f7a4 0 = .ok (.iload_n 0, 1) := by decide +kernel
theorem dJ6_bitCount_0f7a4_1 : decode cJ6_bitCount_0f7a4 1 = .ok (.iload_n 0, 1) := by decide +kernel
theorem dJ6_bitCount_0f7a4_2 : decode cJ6_bitCount_0f7a4 2 = .ok (.iconst 1, 1) := by decide +kernel
theorem dJ6_bitCount_0f7a4_3 : decode cJ6_bitCount_0f7a4 3 = .ok (.iushr, 1) := by decide +kernel
theorem dJ6_bitCount_0f7a4_4 : decode cJ6_bitCount_0f7a4 4 = .ok (.ldc_w 265, 3) := by decide +kernel
theorem dJ6_bitCount_0f7a4_7 : decode cJ6_bitCount_0f7a4 7 = .ok (.iand, 1) := by decide +kernel
theorem dJ6_bitCount_0f7a4_8 : decode cJ6_bitCount_0f7a4 8 = .ok (.isub, 1) := by decide +kernel
theorem dJ6_bitCount_0f7a4_9 : decode cJ6_bitCount_0f7a4 9 = .ok (.istore_n 0, 1) := by decide +kernel
theorem dJ6_bitCount_0f7a4_10 : decode cJ6_bitCount_0f7a4 10 = .ok (.iload_n 0, 1) := by decide +kernel
theorem dJ6_bitCount_0f7a4_11 : decode cJ6_bitCount_0f7a4 11 = .ok (.ldc_w 266, 3) := by decide +kernel
theorem dJ6_bitCount_0f7a4_14 : decode cJ6_bitCount_0f7a4 14 = .ok (.iand, 1) := by decide +kernel
theorem dJ6_bitCount_0f7a4_15 : decode cJ6_bitCount_0f7a4 15 = .ok (.iload_n 0, 1) := by decide +kernel
theorem dJ6_bitCount_0f7a4_16 : decode cJ6_bitCount_0f7a4 16 = .ok (.iconst 2, 1) := by decide +kernel
theorem dJ6_bitCount_0f7a4_17 : decode cJ6_bitCount_0f7a4 17 = .ok (.iushr, 1) := by decide +kernel
theorem dJ6_bitCount_0f7a4_18 : decode cJ6_bitCount_0f7a4 18 = .ok (.ldc_w 266, 3) := by decide +kernel
theorem dJ6_bitCount_0f7a4_21 : decode cJ6_bitCount_0f7a4 21 = .ok (.iand, 1) := by decide +kernel
theorem dJ6_bitCount_0f7a4_22 : decode cJ6_bitCount_0f7a4 22 = .ok (.iadd, 1) := by decide +kernel
theorem dJ6_bitCount_0f7a4_23 : decode cJ6_bitCount_0f7a4 23 = .ok (.istore_n 0, 1) := by decide +kernel
theorem dJ6_bitCount_0f7a4_24 : decode cJ6_bitCount_0f7a4 24 = .ok (.iload_n 0, 1) := by decide +kernel
theorem dJ6_bitCount_0f7a4_25 : decode cJ6_bitCount_0f7a4 25 = .ok (.iload_n 0, 1) := by decide +kernel
theorem dJ6_bitCount_0f7a4_26 : decode cJ6_bitCount_0f7a4 26 = .ok (.iconst 4, 1) := by decide +kernel
theorem dJ6_bitCount_0f7a4_27 : decode cJ6_bitCount_0f7a4 27 = .ok (.iushr, 1) := by decide +kernel
theorem dJ6_bitCount_0f7a4_28 : decode cJ6_bitCount_0f7a4 28 = .ok (.iadd, 1) := by decide +kernel
theorem dJ6_bitCount_0f7a4_29 : decode cJ6_bitCount_0f7a4 29 = .ok (.ldc_w 267, 3) := by decide +kernel
theorem dJ6_bitCount_0f7a4_32 : decode cJ6_bitCount_0f7a4 32 = .ok (.iand, 1) := by decide +kernel
theorem dJ6_bitCount_0f7a4_33 : decode cJ6_bitCount_0f7a4 33 = .ok (.istore_n 0, 1) := by decide +kernel
theorem dJ6_bitCount_0f7a4_34 : decode cJ6_bitCount_0f7a4 34 = .ok (.iload_n 0, 1) := by decide +kernel
theorem dJ6_bitCount_0f7a4_35 : decode cJ6_bitCount_0f7a4 35 = .ok (.iload_n 0, 1) := by decide +kernel
theorem dJ6_bitCount_0f7a4_36 : decode cJ6_bitCount_0f7a4 36 = .ok (.bipush 8, 2) := by decide +kernel
theorem dJ6_bitCount_0f7a4_38 : decode cJ6_bitCount_0f7a4 38 = .ok (.iushr, 1) := by decide +kernel
theorem dJ6_bitCount_0f7a4_39 : decode cJ6_bitCount_0f7a4 39 = .ok (.iadd, 1) := by decide +kernel
theorem dJ6_bitCount_0f7a4_40 : decode cJ6_bitCount_0f7a4 40 = .ok (.istore_n 0, 1) := by decide +kernel
theorem dJ6_bitCount_0f7a4_41 : decode cJ6_bitCount_0f7a4 41 = .ok (.iload_n 0, 1) := by decide +kernel
theorem dJ6_bitCount_0f7a4_42 : decode cJ6_bitCount_0f7a4 42 = .ok (.iload_n 0, 1) := by decide +kernel
theorem dJ6_bitCount_0f7a4_43 : decode cJ6_bitCount_0f7a4 43 = .ok (.bipush 16, 2) := by decide +kernel
theorem dJ6_bitCount_0f7a4_45 : decode cJ6_bitCount_0f7a4 45 = .ok (.iushr, 1) := by decide +kernel
theorem dJ6_bitCount_0f7a4_46 : decode cJ6_bitCount_0f7a4 46 = .ok (.iadd, 1) := by decide +kernel
theorem dJ6_bitCount_0f7a4_47 : decode cJ6_bitCount_0f7a4 47 = .ok (.istore_n 0, 1) := by decide +kernel
theorem dJ6_bitCount_0f7a4_48 : decode cJ6_bitCount_0f7a4 48 = .ok (.iload_n 0, 1) := by decide +kernel
theorem dJ6_bitCount_0f7a4_49 : decode cJ6_bitCount_0f7a4 49 = .ok (.bipush 63, 2) := by decide +kernel
theorem dJ6_bitCount_0f7a4_51 : decode cJ6_bitCount_0f7a4 51 = .ok (.iand, 1) := by decide +kernel
theorem dJ6_bitCount_0f7a4_52 : decode cJ6_bitCount_0f7a4 52 = .ok (.ireturn, 1) := by decide +kernel
theorem dX9_append_0 : decode cX9_append 0 = .ok (.bipush 24, 2) := by decide +kernel
theorem dX9_append_2 : decode cX9_append 2 = .ok (.istore_n 2, 1) := by decide +kernel
theorem dX9_append_3 : decode cX9_append 3 = .ok (.iload_n 2, 1) := by decide +kernel
theorem dX9_append_4 : decode cX9_append 4 = .ok (.ifCond .lt 45, 3) := by decide +kernel
theorem dX9_append_7 : decode cX9_append 7 = .ok (.aload_n 0, 1) := by decide +kernel
theorem dX9_append_8 : decode cX9_append 8 = .ok (.getfield 24, 3) := by decide +kernel
theorem dX9_append_11 : decode cX9_append 11 = .ok (.sipush 400, 3) := by decide +kernel
theorem dX9_append_14 : decode cX9_append 14 = .ok (.if_icmp .ge 35, 3) := by decide +kernel
theorem dX9_append_49 : decode cX9_append 49 = .ok (.return_, 1) := by decide +kernel
theorem dX9_append_17 : decode cX9_append 17 = .ok (.aload_n 0, 1) := by decide +kernel
theorem dX9_append_18 : decode cX9_append 18 = .ok (.getfield 11, 3) := by decide +kernel
theorem dX9_append_21 : decode cX9_append 21 = .ok (.aload_n 0, 1) := by decide +kernel
theorem dX9_append_22 : decode cX9_append 22 = .ok (.getfield 24, 3) := by decide +kernel
theorem dX9_append_25 : decode cX9_append 25 = .ok (.iload_n 1, 1) := by decide +kernel
theorem dX9_append_26 : decode cX9_append 26 = .ok (.iload_n 2, 1) := by decide +kernel
theorem dX9_append_27 : decode cX9_append 27 = .ok (.iushr, 1) := by decide +kernel
theorem dX9_append_28 : decode cX9_append 28 = .ok (.sipush 255, 3) := by decide +kernel
theorem dX9_append_31 : decode cX9_append 31 = .ok (.iand, 1) := by decide +kernel
theorem dX9_append_32 : decode cX9_append 32 = .ok (.iastore, 1) := by decide +kernel
theorem dX9_append_33 : decode cX9_append 33 = .ok (.aload_n 0, 1) := by decide +kernel
theorem dX9_append_34 : decode cX9_append 34 = .ok (.dup, 1) := by decide +kernel
theorem dX9_append_35 : decode cX9_append 35 = .ok (.getfield 24, 3) := by decide +kernel
theorem dX9_append_38 : decode cX9_append 38 = .ok (.iconst 1, 1) := by decide +kernel
theorem dX9_append_39 : decode cX9_append 39 = .ok (.iadd, 1) := by decide +kernel
theorem dX9_append_40 : decode cX9_append 40 = .ok (.putfield 24, 3) := by decide +kernel
theorem dX9_append_43 : decode cX9_append 43 = .ok (.iinc 2 (-8), 3) := by decide +kernel
theorem dX9_append_46 : decode cX9_append 46 = .ok (.goto (-43), 3) := by decide +kernel
theorem dX9_kindAt_0 : decode cX9_kindAt 0 = .ok (.iload_n 1, 1) := by decide +kernel
theorem dX9_kindAt_1 : decode cX9_kindAt 1 = .ok (.ifCond .lt 20, 3) := by decide +kernel
theorem dX9_kindAt_21 : decode cX9_kindAt 21 = .ok (.sipush 133, 3) := by decide +kernel
theorem dX9_kindAt_24 : decode cX9_kindAt 24 = .ok (.ireturn, 1) := by decide +kernel
theorem dX9_kindAt_4 : decode cX9_kindAt 4 = .ok (.iload_n 1, 1) := by decide +kernel
theorem dX9_kindAt_5 : decode cX9_kindAt 5 = .ok (.aload_n 0, 1) := by decide +kernel
theorem dX9_kindAt_6 : decode cX9_kindAt 6 = .ok (.getfield 28, 3) := by decide +kernel
theorem dX9_kindAt_9 : decode cX9_kindAt 9 = .ok (.if_icmp .ge 12, 3) := by decide +kernel
theorem dX9_kindAt_12 : decode cX9_kindAt 12 = .ok (.aload_n 0, 1) := by decide +kernel
theorem dX9_kindAt_13 : decode cX9_kindAt 13 = .ok (.getfield 15, 3) := by decide +kernel
theorem dX9_kindAt_16 : decode cX9_kindAt 16 = .ok (.iload_n 1, 1) := by decide +kernel
theorem dX9_kindAt_17 : decode cX9_kindAt 17 = .ok (.iaload, 1) := by decide +kernel
theorem dX9_kindAt_18 : decode cX9_kindAt 18 = .ok (.goto 6, 3) := by decide +kernel
theorem dX9_valueAt_0 : decode cX9_valueAt 0 = .ok (.iload_n 1, 1) := by decide +kernel
theorem dX9_valueAt_1 : decode cX9_valueAt 1 = .ok (.ifCond .lt 20, 3) := by decide +kernel
theorem dX9_valueAt_21 : decode cX9_valueAt 21 = .ok (.iconst (-1), 1) := by decide +kernel
theorem dX9_valueAt_22 : decode cX9_valueAt 22 = .ok (.ireturn, 1) := by decide +kernel
theorem dX9_valueAt_4 : decode cX9_valueAt 4 = .ok (.iload_n 1, 1) := by decide +kernel
theorem dX9_valueAt_5 : decode cX9_valueAt 5 = .ok (.aload_n 0, 1) := by decide +kernel
theorem dX9_valueAt_6 : decode cX9_valueAt 6 = .ok (.getfield 28, 3) := by decide +kernel
theorem dX9_valueAt_9 : decode cX9_valueAt 9 = .ok (.if_icmp .ge 12, 3) := by decide +kernel
theorem dX9_valueAt_12 : decode cX9_valueAt 12 = .ok (.aload_n 0, 1) := by decide +kernel
theorem dX9_valueAt_13 : decode cX9_valueAt 13 = .ok (.getfield 21, 3) := by decide +kernel
theorem dX9_valueAt_16 : decode cX9_valueAt 16 = .ok (.iload_n 1, 1) := by decide +kernel
theorem dX9_valueAt_17 : decode cX9_valueAt 17 = .ok (.iaload, 1) := by decide +kernel
theorem dX9_valueAt_18 : decode cX9_valueAt 18 = .ok (.goto 4, 3) := by decide +kernel
theorem dX9_isWord_0 : decode cX9_isWord 0 = .ok (.iload_n 1, 1) := by decide +kernel
theorem dX9_isWord_1 : decode cX9_isWord 1 = .ok (.ifCond .lt 37, 3) := by decide +kernel
theorem dX9_isWord_38 : decode cX9_isWord 38 = .ok (.iconst 0, 1) := by decide +kernel
theorem dX9_isWord_39 : decode cX9_isWord 39 = .ok (.ireturn, 1) := by decide +kernel
theorem dX9_isWord_4 : decode cX9_isWord 4 = .ok (.iload_n 1, 1) := by decide +kernel
theorem dX9_isWord_5 : decode cX9_isWord 5 = .ok (.aload_n 0, 1) := by decide +kernel
theorem dX9_isWord_6 : decode cX9_isWord 6 = .ok (.getfield 28, 3) := by decide +kernel
theorem dX9_isWord_9 : decode cX9_isWord 9 = .ok (.if_icmp .ge 29, 3) := by decide +kernel
theorem dX9_isWord_12 : decode cX9_isWord 12 = .ok (.aload_n 0, 1) := by decide +kernel
theorem dX9_isWord_13 : decode cX9_isWord 13 = .ok (.getfield 15, 3) := by decide +kernel
theorem dX9_isWord_16 : decode cX9_isWord 16 = .ok (.iload_n 1, 1) := by decide +kernel
theorem dX9_isWord_17 : decode cX9_isWord 17 = .ok (.iaload, 1) := by decide +kernel
theorem dX9_isWord_18 : decode cX9_isWord 18 = .ok (.sipush 131, 3) := by decide +kernel
theorem dX9_isWord_21 : decode cX9_isWord 21 = .ok (.if_icmp .ne 17, 3) := by decide +kernel
theorem dX9_isWord_24 : decode cX9_isWord 24 = .ok (.aload_n 0, 1) := by decide +kernel
theorem dX9_isWord_25 : decode cX9_isWord 25 = .ok (.getfield 21, 3) := by decide +kernel
theorem dX9_isWord_28 : decode cX9_isWord 28 = .ok (.iload_n 1, 1) := by decide +kernel
theorem dX9_isWord_29 : decode cX9_isWord 29 = .ok (.iaload, 1) := by decide +kernel
theorem dX9_isWord_30 : decode cX9_isWord 30 = .ok (.iload_n 2, 1) := by decide +kernel
theorem dX9_isWord_31 : decode cX9_isWord 31 = .ok (.if_icmp .ne 7, 3) := by decide +kernel
theorem dX9_isWord_34 : decode cX9_isWord 34 = .ok (.iconst 1, 1) := by decide +kernel
theorem dX9_isWord_35 : decode cX9_isWord 35 = .ok (.goto 4, 3) := by decide +kernel
theorem dX9_wrong_0 : decode cX9_wrong 0 = .ok (.iload_n 1, 1) := by decide +kernel
theorem dX9_wrong_1 : decode cX9_wrong 1 = .ok (.ifCond .lt 20, 3) := by decide +kernel
theorem dX9_wrong_21 : decode cX9_wrong 21 = .ok (.aload_n 0, 1) := by decide +kernel
theorem dX9_wrong_22 : decode cX9_wrong 22 = .ok (.getfield 24, 3) := by decide +kernel
theorem dX9_wrong_25 : decode cX9_wrong 25 = .ok (.istore_n 3, 1) := by decide +kernel
theorem dX9_wrong_26 : decode cX9_wrong 26 = .ok (.aload_n 0, 1) := by decide +kernel
theorem dX9_wrong_27 : decode cX9_wrong 27 = .ok (.iconst 1, 1) := by decide +kernel
theorem dX9_wrong_28 : decode cX9_wrong 28 = .ok (.bipush 8, 2) := by decide +kernel
theorem dX9_wrong_30 : decode cX9_wrong 30 = .ok (.iload_n 3, 1) := by decide +kernel
theorem dX9_wrong_31 : decode cX9_wrong 31 = .ok (.imul, 1) := by decide +kernel
theorem dX9_wrong_32 : decode cX9_wrong 32 = .ok (.iadd, 1) := by decide +kernel
theorem dX9_wrong_33 : decode cX9_wrong 33 = .ok (.iload_n 2, 1) := by decide +kernel
theorem dX9_wrong_34 : decode cX9_wrong 34 = .ok (.iadd, 1) := by decide +kernel
theorem dX9_wrong_35 : decode cX9_wrong 35 = .ok (.putfield 31, 3) := by decide +kernel
theorem dX9_wrong_38 : decode cX9_wrong 38 = .ok (.iconst 0, 1) := by decide +kernel
theorem dX9_wrong_39 : decode cX9_wrong 39 = .ok (.ireturn, 1) := by decide +kernel
theorem dX9_wrong_4 : decode cX9_wrong 4 = .ok (.iload_n 1, 1) := by decide +kernel
theorem dX9_wrong_5 : decode cX9_wrong 5 = .ok (.aload_n 0, 1) := by decide +kernel
theorem dX9_wrong_6 : decode cX9_wrong 6 = .ok (.getfield 28, 3) := by decide +kernel
theorem dX9_wrong_9 : decode cX9_wrong 9 = .ok (.if_icmp .ge 12, 3) := by decide +kernel
theorem dX9_wrong_12 : decode cX9_wrong 12 = .ok (.aload_n 0, 1) := by decide +kernel
theorem dX9_wrong_13 : decode cX9_wrong 13 = .ok (.getfield 18, 3) := by decide +kernel
theorem dX9_wrong_16 : decode cX9_wrong 16 = .ok (.iload_n 1, 1) := by decide +kernel
theorem dX9_wrong_17 : decode cX9_wrong 17 = .ok (.iaload, 1) := by decide +kernel
theorem dX9_wrong_18 : decode cX9_wrong 18 = .ok (.goto 7, 3) := by decide +kernel
theorem dX9_put_0 : decode cX9_put 0 = .ok (.aload_n 0, 1) := by decide +kernel
theorem dX9_put_1 : decode cX9_put 1 = .ok (.getfield 28, 3) := by decide +kernel
theorem dX9_put_4 : decode cX9_put 4 = .ok (.aload_n 0, 1) := by decide +kernel
theorem dX9_put_5 : decode cX9_put 5 = .ok (.getfield 15, 3) := by decide +kernel
theorem dX9_put_8 : decode cX9_put 8 = .ok (.arraylength, 1) := by decide +kernel
theorem dX9_put_9 : decode cX9_put 9 = .ok (.if_icmp .ge 43, 3) := by decide +kernel
theorem dX9_put_52 : decode cX9_put 52 = .ok (.return_, 1) := by decide +kernel
theorem dX9_put_12 : decode cX9_put 12 = .ok (.aload_n 0, 1) := by decide +kernel
theorem dX9_put_13 : decode cX9_put 13 = .ok (.getfield 15, 3) := by decide +kernel
theorem dX9_put_16 : decode cX9_put 16 = .ok (.aload_n 0, 1) := by decide +kernel
theorem dX9_put_17 : decode cX9_put 17 = .ok (.getfield 28, 3) := by decide +kernel
theorem dX9_put_20 : decode cX9_put 20 = .ok (.iload_n 1, 1) := by decide +kernel
theorem dX9_put_21 : decode cX9_put 21 = .ok (.iastore, 1) := by decide +kernel
theorem dX9_put_22 : decode cX9_put 22 = .ok (.aload_n 0, 1) := by decide +kernel
theorem dX9_put_23 : decode cX9_put 23 = .ok (.getfield 18, 3) := by decide +kernel
theorem dX9_put_26 : decode cX9_put 26 = .ok (.aload_n 0, 1) := by decide +kernel
theorem dX9_put_27 : decode cX9_put 27 = .ok (.getfield 28, 3) := by decide +kernel
theorem dX9_put_30 : decode cX9_put 30 = .ok (.iload_n 2, 1) := by decide +kernel
theorem dX9_put_31 : decode cX9_put 31 = .ok (.iastore, 1) := by decide +kernel
theorem dX9_put_32 : decode cX9_put 32 = .ok (.aload_n 0, 1) := by decide +kernel
theorem dX9_put_33 : decode cX9_put 33 = .ok (.getfield 21, 3) := by decide +kernel
theorem dX9_put_36 : decode cX9_put 36 = .ok (.aload_n 0, 1) := by decide +kernel
theorem dX9_put_37 : decode cX9_put 37 = .ok (.getfield 28, 3) := by decide +kernel
theorem dX9_put_40 : decode cX9_put 40 = .ok (.iload_n 3, 1) := by decide +kernel
theorem dX9_put_41 : decode cX9_put 41 = .ok (.iastore, 1) := by decide +kernel
theorem dX9_put_42 : decode cX9_put 42 = .ok (.aload_n 0, 1) := by decide +kernel
theorem dX9_put_43 : decode cX9_put 43 = .ok (.dup, 1) := by decide +kernel
theorem dX9_put_44 : decode cX9_put 44 = .ok (.getfield 28, 3) := by decide +kernel
theorem dX9_put_47 : decode cX9_put 47 = .ok (.iconst 1, 1) := by decide +kernel
theorem dX9_put_48 : decode cX9_put 48 = .ok (.iadd, 1) := by decide +kernel
theorem dX9_put_49 : decode cX9_put 49 = .ok (.putfield 28, 3) := by decide +kernel
theorem dX9_isDigit_0 : decode cX9_isDigit 0 = .ok (.iload_n 0, 1) := by decide +kernel
theorem dX9_isDigit_1 : decode cX9_isDigit 1 = .ok (.bipush 48, 2) := by decide +kernel
theorem dX9_isDigit_3 : decode cX9_isDigit 3 = .ok (.if_icmp .lt 13, 3) := by decide +kernel
theorem dX9_isDigit_16 : decode cX9_isDigit 16 = .ok (.iconst 0, 1) := by decide +kernel
theorem dX9_isDigit_17 : decode cX9_isDigit 17 = .ok (.ireturn, 1) := by decide +kernel
theorem dX9_isDigit_6 : decode cX9_isDigit 6 = .ok (.iload_n 0, 1) := by decide +kernel
theorem dX9_isDigit_7 : decode cX9_isDigit 7 = .ok (.bipush 57, 2) := by decide +kernel
theorem dX9_isDigit_9 : decode cX9_isDigit 9 = .ok (.if_icmp .gt 7, 3) := by decide +kernel
theorem dX9_isDigit_12 : decode cX9_isDigit 12 = .ok (.iconst 1, 1) := by decide +kernel
theorem dX9_isDigit_13 : decode cX9_isDigit 13 = .ok (.goto 4, 3) := by decide +kernel
theorem dX9_isLetter_0 : decode cX9_isLetter 0 = .ok (.iload_n 0, 1) := by decide +kernel
theorem dX9_isLetter_1 : decode cX9_isLetter 1 = .ok (.bipush 97, 2) := by decide +kernel
theorem dX9_isLetter_3 : decode cX9_isLetter 3 = .ok (.if_icmp .lt 13, 3) := by decide +kernel
theorem dX9_isLetter_16 : decode cX9_isLetter 16 = .ok (.iconst 0, 1) := by decide +kernel
theorem dX9_isLetter_17 : decode cX9_isLetter 17 = .ok (.ireturn, 1) := by decide +kernel
theorem dX9_isLetter_6 : decode cX9_isLetter 6 = .ok (.iload_n 0, 1) := by decide +kernel
theorem dX9_isLetter_7 : decode cX9_isLetter 7 = .ok (.bipush 122, 2) := by decide +kernel
theorem dX9_isLetter_9 : decode cX9_isLetter 9 = .ok (.if_icmp .gt 7, 3) := by decide +kernel
theorem dX9_isLetter_12 : decode cX9_isLetter 12 = .ok (.iconst 1, 1) := by decide +kernel
theorem dX9_isLetter_13 : decode cX9_isLetter 13 = .ok (.goto 4, 3) := by decide +kernel
theorem dX8_clear_0 : decode cX8_clear 0 = .ok (.iconst 0, 1) := by decide +kernel
theorem dX8_clear_1 : decode cX8_clear 1 = .ok (.istore_n 1, 1) := by decide +kernel
theorem dX8_clear_2 : decode cX8_clear 2 = .ok (.iload_n 1, 1) := by decide +kernel
theorem dX8_clear_3 : decode cX8_clear 3 = .ok (.iconst 4, 1) := by decide +kernel
theorem dX8_clear_4 : decode cX8_clear 4 = .ok (.if_icmp .ge 37, 3) := by decide +kernel
theorem dX8_clear_41 : decode cX8_clear 41 = .ok (.iconst 0, 1) := by decide +kernel
theorem dX8_clear_42 : decode cX8_clear 42 = .ok (.istore_n 1, 1) := by decide +kernel
theorem dX8_clear_43 : decode cX8_clear 43 = .ok (.iload_n 1, 1) := by decide +kernel
theorem dX8_clear_44 : decode cX8_clear 44 = .ok (.aload_n 0, 1) := by decide +kernel
theorem dX8_clear_45 : decode cX8_clear 45 = .ok (.getfield 24, 3) := by decide +kernel
theorem dX8_clear_48 : decode cX8_clear 48 = .ok (.arraylength, 1) := by decide +kernel
theorem dX8_clear_49 : decode cX8_clear 49 = .ok (.if_icmp .ge 16, 3) := by decide +kernel
theorem dX8_clear_65 : decode cX8_clear 65 = .ok (.iconst 0, 1) := by decide +kernel
theorem dX8_clear_66 : decode cX8_clear 66 = .ok (.istore_n 1, 1) := by decide +kernel
theorem dX8_clear_67 : decode cX8_clear 67 = .ok (.iload_n 1, 1) := by decide +kernel
theorem dX8_clear_68 : decode cX8_clear 68 = .ok (.aload_n 0, 1) := by decide +kernel
theorem dX8_clear_69 : decode cX8_clear 69 = .ok (.getfield 27, 3) := by decide +kernel
theorem dX8_clear_72 : decode cX8_clear 72 = .ok (.arraylength, 1) := by decide +kernel
theorem dX8_clear_73 : decode cX8_clear 73 = .ok (.if_icmp .ge 16, 3) := by decide +kernel
theorem dX8_clear_89 : decode cX8_clear 89 = .ok (.aload_n 0, 1) := by decide +kernel
theorem dX8_clear_90 : decode cX8_clear 90 = .ok (.iconst 0, 1) := by decide +kernel
theorem dX8_clear_91 : decode cX8_clear 91 = .ok (.putfield 30, 3) := by decide +kernel
theorem dX8_clear_94 : decode cX8_clear 94 = .ok (.aload_n 0, 1) := by decide +kernel
theorem dX8_clear_95 : decode cX8_clear 95 = .ok (.iconst 0, 1) := by decide +kernel
theorem dX8_clear_96 : decode cX8_clear 96 = .ok (.putfield 34, 3) := by decide +kernel
theorem dX8_clear_99 : decode cX8_clear 99 = .ok (.return_, 1) := by decide +kernel
theorem dX8_clear_76 : decode cX8_clear 76 = .ok (.aload_n 0, 1) := by decide +kernel
theorem dX8_clear_77 : decode cX8_clear 77 = .ok (.getfield 27, 3) := by decide +kernel
theorem dX8_clear_80 : decode cX8_clear 80 = .ok (.iload_n 1, 1) := by decide +kernel
theorem dX8_clear_81 : decode cX8_clear 81 = .ok (.iconst 0, 1) := by decide +kernel
theorem dX8_clear_82 : decode cX8_clear 82 = .ok (.iastore, 1) := by decide +kernel
theorem dX8_clear_83 : decode cX8_clear 83 = .ok (.iinc 1 1, 3) := by decide +kernel
theorem dX8_clear_86 : decode cX8_clear 86 = .ok (.goto (-19), 3) := by decide +kernel
theorem dX8_clear_52 : decode cX8_clear 52 = .ok (.aload_n 0, 1) := by decide +kernel
theorem dX8_clear_53 : decode cX8_clear 53 = .ok (.getfield 24, 3) := by decide +kernel
theorem dX8_clear_56 : decode cX8_clear 56 = .ok (.iload_n 1, 1) := by decide +kernel
theorem dX8_clear_57 : decode cX8_clear 57 = .ok (.iconst 0, 1) := by decide +kernel
theorem dX8_clear_58 : decode cX8_clear 58 = .ok (.iastore, 1) := by decide +kernel
theorem dX8_clear_59 : decode cX8_clear 59 = .ok (.iinc 1 1, 3) := by decide +kernel
theorem dX8_clear_62 : decode cX8_clear 62 = .ok (.goto (-19), 3) := by decide +kernel
theorem dX8_clear_7 : decode cX8_clear 7 = .ok (.aload_n 0, 1) := by decide +kernel
theorem dX8_clear_8 : decode cX8_clear 8 = .ok (.getfield 9, 3) := by decide +kernel
theorem dX8_clear_11 : decode cX8_clear 11 = .ok (.iload_n 1, 1) := by decide +kernel
theorem dX8_clear_12 : decode cX8_clear 12 = .ok (.iconst 0, 1) := by decide +kernel
theorem dX8_clear_13 : decode cX8_clear 13 = .ok (.iastore, 1) := by decide +kernel
theorem dX8_clear_14 : decode cX8_clear 14 = .ok (.aload_n 0, 1) := by decide +kernel
theorem dX8_clear_15 : decode cX8_clear 15 = .ok (.getfield 15, 3) := by decide +kernel
theorem dX8_clear_18 : decode cX8_clear 18 = .ok (.iload_n 1, 1) := by decide +kernel
theorem dX8_clear_19 : decode cX8_clear 19 = .ok (.iconst 0, 1) := by decide +kernel
theorem dX8_clear_20 : decode cX8_clear 20 = .ok (.iastore, 1) := by decide +kernel
theorem dX8_clear_21 : decode cX8_clear 21 = .ok (.aload_n 0, 1) := by decide +kernel
theorem dX8_clear_22 : decode cX8_clear 22 = .ok (.getfield 18, 3) := by decide +kernel
theorem dX8_clear_25 : decode cX8_clear 25 = .ok (.iload_n 1, 1) := by decide +kernel
theorem dX8_clear_26 : decode cX8_clear 26 = .ok (.iconst 0, 1) := by decide +kernel
theorem dX8_clear_27 : decode cX8_clear 27 = .ok (.iastore, 1) := by decide +kernel
theorem dX8_clear_28 : decode cX8_clear 28 = .ok (.aload_n 0, 1) := by decide +kernel
theorem dX8_clear_29 : decode cX8_clear 29 = .ok (.getfield 21, 3) := by decide +kernel
theorem dX8_clear_32 : decode cX8_clear 32 = .ok (.iload_n 1, 1) := by decide +kernel
theorem dX8_clear_33 : decode cX8_clear 33 = .ok (.iconst 0, 1) := by decide +kernel
theorem dX8_clear_34 : decode cX8_clear 34 = .ok (.iastore, 1) := by decide +kernel
theorem dX8_clear_35 : decode cX8_clear 35 = .ok (.iinc 1 1, 3) := by decide +kernel
theorem dX8_clear_38 : decode cX8_clear 38 = .ok (.goto (-36), 3) := by decide +kernel
theorem dX8_copyFrom_0 : decode cX8_copyFrom 0 = .ok (.aload_n 1, 1) := by decide +kernel
theorem dX8_copyFrom_1 : decode cX8_copyFrom 1 = .ok (.getfield 9, 3) := by decide +kernel
theorem dX8_copyFrom_4 : decode cX8_copyFrom 4 = .ok (.iconst 0, 1) := by decide +kernel
theorem dX8_copyFrom_5 : decode cX8_copyFrom 5 = .ok (.aload_n 0, 1) := by decide +kernel
theorem dX8_copyFrom_6 : decode cX8_copyFrom 6 = .ok (.getfield 9, 3) := by decide +kernel
theorem dX8_copyFrom_9 : decode cX8_copyFrom 9 = .ok (.iconst 0, 1) := by decide +kernel
theorem dX8_copyFrom_10 : decode cX8_copyFrom 10 = .ok (.iconst 4, 1) := by decide +kernel
theorem dX8_copyFrom_11 : decode cX8_copyFrom 11 = .ok (.invokestatic 37, 3) := by decide +kernel
theorem dX8_copyFrom_14 : decode cX8_copyFrom 14 = .ok (.aload_n 1, 1) := by decide +kernel
theorem dX8_copyFrom_15 : decode cX8_copyFrom 15 = .ok (.getfield 15, 3) := by decide +kernel
theorem dX8_copyFrom_18 : decode cX8_copyFrom 18 = .ok (.iconst 0, 1) := by decide +kernel
theorem dX8_copyFrom_19 : decode cX8_copyFrom 19 = .ok (.aload_n 0, 1) := by decide +kernel
theorem dX8_copyFrom_20 : decode cX8_copyFrom 20 = .ok (.getfield 15, 3) := by decide +kernel
theorem dX8_copyFrom_23 : decode cX8_copyFrom 23 = .ok (.iconst 0, 1) := by decide +kernel
theorem dX8_copyFrom_24 : decode cX8_copyFrom 24 = .ok (.iconst 4, 1) := by decide +kernel
theorem dX8_copyFrom_25 : decode cX8_copyFrom 25 = .ok (.invokestatic 37, 3) := by decide +kernel
theorem dX8_copyFrom_28 : decode cX8_copyFrom 28 = .ok (.aload_n 1, 1) := by decide +kernel
theorem dX8_copyFrom_29 : decode cX8_copyFrom 29 = .ok (.getfield 18, 3) := by decide +kernel
theorem dX8_copyFrom_32 : decode cX8_copyFrom 32 = .ok (.iconst 0, 1) := by decide +kernel
theorem dX8_copyFrom_33 : decode cX8_copyFrom 33 = .ok (.aload_n 0, 1) := by decide +kernel
theorem dX8_copyFrom_34 : decode cX8_copyFrom 34 = .ok (.getfield 18, 3) := by decide +kernel
theorem dX8_copyFrom_37 : decode cX8_copyFrom 37 = .ok (.iconst 0, 1) := by decide +kernel
theorem dX8_copyFrom_38 : decode cX8_copyFrom 38 = .ok (.iconst 4, 1) := by decide +kernel
theorem dX8_copyFrom_39 : decode cX8_copyFrom 39 = .ok (.invokestatic 37, 3) := by decide +kernel
theorem dX8_copyFrom_42 : decode cX8_copyFrom 42 = .ok (.aload_n 1, 1) := by decide +kernel
theorem dX8_copyFrom_43 : decode cX8_copyFrom 43 = .ok (.getfield 21, 3) := by decide +kernel
theorem dX8_copyFrom_46 : decode cX8_copyFrom 46 = .ok (.iconst 0, 1) := by decide +kernel
theorem dX8_copyFrom_47 : decode cX8_copyFrom 47 = .ok (.aload_n 0, 1) := by decide +kernel
theorem dX8_copyFrom_48 : decode cX8_copyFrom 48 = .ok (.getfield 21, 3) := by decide +kernel
theorem dX8_copyFrom_51 : decode cX8_copyFrom 51 = .ok (.iconst 0, 1) := by decide +kernel
theorem dX8_copyFrom_52 : decode cX8_copyFrom 52 = .ok (.iconst 4, 1) := by decide +kernel
theorem dX8_copyFrom_53 : decode cX8_copyFrom 53 = .ok (.invokestatic 37, 3) := by decide +kernel
theorem dX8_copyFrom_56 : decode cX8_copyFrom 56 = .ok (.aload_n 1, 1) := by decide +kernel
theorem dX8_copyFrom_57 : decode cX8_copyFrom 57 = .ok (.getfield 24, 3) := by decide +kernel
theorem dX8_copyFrom_60 : decode cX8_copyFrom 60 = .ok (.iconst 0, 1) := by decide +kernel
theorem dX8_copyFrom_61 : decode cX8_copyFrom 61 = .ok (.aload_n 0, 1) := by decide +kernel
theorem dX8_copyFrom_62 : decode cX8_copyFrom 62 = .ok (.getfield 24, 3) := by decide +kernel
theorem dX8_copyFrom_65 : decode cX8_copyFrom 65 = .ok (.iconst 0, 1) := by decide +kernel
theorem dX8_copyFrom_66 : decode cX8_copyFrom 66 = .ok (.bipush 20, 2) := by decide +kernel
theorem dX8_copyFrom_68 : decode cX8_copyFrom 68 = .ok (.invokestatic 37, 3) := by decide +kernel
theorem dX8_copyFrom_71 : decode cX8_copyFrom 71 = .ok (.aload_n 1, 1) := by decide +kernel
theorem dX8_copyFrom_72 : decode cX8_copyFrom 72 = .ok (.getfield 27, 3) := by decide +kernel
theorem dX8_copyFrom_75 : decode cX8_copyFrom 75 = .ok (.iconst 0, 1) := by decide +kernel
theorem dX8_copyFrom_76 : decode cX8_copyFrom 76 = .ok (.aload_n 0, 1) := by decide +kernel
theorem dX8_copyFrom_77 : decode cX8_copyFrom 77 = .ok (.getfield 27, 3) := by decide +kernel
theorem dX8_copyFrom_80 : decode cX8_copyFrom 80 = .ok (.iconst 0, 1) := by decide +kernel
theorem dX8_copyFrom_81 : decode cX8_copyFrom 81 = .ok (.bipush 40, 2) := by decide +kernel
theorem dX8_copyFrom_83 : decode cX8_copyFrom 83 = .ok (.invokestatic 37, 3) := by decide +kernel
theorem dX8_copyFrom_86 : decode cX8_copyFrom 86 = .ok (.aload_n 0, 1) := by decide +kernel
theorem dX8_copyFrom_87 : decode cX8_copyFrom 87 = .ok (.aload_n 1, 1) := by decide +kernel
theorem dX8_copyFrom_88 : decode cX8_copyFrom 88 = .ok (.getfield 30, 3) := by decide +kernel
theorem dX8_copyFrom_91 : decode cX8_copyFrom 91 = .ok (.putfield 30, 3) := by decide +kernel
theorem dX8_copyFrom_94 : decode cX8_copyFrom 94 = .ok (.aload_n 0, 1) := by decide +kernel
theorem dX8_copyFrom_95 : decode cX8_copyFrom 95 = .ok (.aload_n 1, 1) := by decide +kernel
theorem dX8_copyFrom_96 : decode cX8_copyFrom 96 = .ok (.getfield 34, 3) := by decide +kernel
theorem dX8_copyFrom_99 : decode cX8_copyFrom 99 = .ok (.putfield 34, 3) := by decide +kernel
theorem dX8_copyFrom_102 : decode cX8_copyFrom 102 = .ok (.return_, 1) := by decide +kernel
theorem dX8_weightOf_0 : decode cX8_weightOf 0 = .ok (.iconst 0, 1) := by decide +kernel
theorem dX8_weightOf_1 : decode cX8_weightOf 1 = .ok (.istore_n 3, 1) := by decide +kernel
theorem dX8_weightOf_2 : decode cX8_weightOf 2 = .ok (.iconst 0, 1) := by decide +kernel
theorem dX8_weightOf_3 : decode cX8_weightOf 3 = .ok (.istore 4, 2) := by decide +kernel
theorem dX8_weightOf_5 : decode cX8_weightOf 5 = .ok (.iload 4, 2) := by decide +kernel
theorem dX8_weightOf_7 : decode cX8_weightOf 7 = .ok (.aload_n 1, 1) := by decide +kernel
theorem dX8_weightOf_8 : decode cX8_weightOf 8 = .ok (.getfield 43, 3) := by decide +kernel
theorem dX8_weightOf_11 : decode cX8_weightOf 11 = .ok (.if_icmp .ge 31, 3) := by decide +kernel
theorem dX8_weightOf_42 : decode cX8_weightOf 42 = .ok (.iload_n 3, 1) := by decide +kernel
theorem dX8_weightOf_43 : decode cX8_weightOf 43 = .ok (.ireturn, 1) := by decide +kernel
theorem dX8_weightOf_14 : decode cX8_weightOf 14 = .ok (.iload_n 3, 1) := by decide +kernel
theorem dX8_weightOf_15 : decode cX8_weightOf 15 = .ok (.aload_n 0, 1) := by decide +kernel
theorem dX8_weightOf_16 : decode cX8_weightOf 16 = .ok (.getfield 24, 3) := by decide +kernel
theorem dX8_weightOf_19 : decode cX8_weightOf 19 = .ok (.iload_n 2, 1) := by decide +kernel
theorem dX8_weightOf_20 : decode cX8_weightOf 20 = .ok (.iconst 5, 1) := by decide +kernel
theorem dX8_weightOf_21 : decode cX8_weightOf 21 = .ok (.imul, 1) := by decide +kernel
theorem dX8_weightOf_22 : decode cX8_weightOf 22 = .ok (.iload 4, 2) := by decide +kernel
theorem dX8_weightOf_24 : decode cX8_weightOf 24 = .ok (.iadd, 1) := by decide +kernel
theorem dX8_weightOf_25 : decode cX8_weightOf 25 = .ok (.iaload, 1) := by decide +kernel
theorem dX8_weightOf_26 : decode cX8_weightOf 26 = .ok (.aload_n 1, 1) := by decide +kernel
theorem dX8_weightOf_27 : decode cX8_weightOf 27 = .ok (.getfield 48, 3) := by decide +kernel
theorem dX8_weightOf_30 : decode cX8_weightOf 30 = .ok (.iload 4, 2) := by decide +kernel
theorem dX8_weightOf_32 : decode cX8_weightOf 32 = .ok (.iaload, 1) := by decide +kernel
theorem dX8_weightOf_33 : decode cX8_weightOf 33 = .ok (.imul, 1) := by decide +kernel
theorem dX8_weightOf_34 : decode cX8_weightOf 34 = .ok (.iadd, 1) := by decide +kernel
theorem dX8_weightOf_35 : decode cX8_weightOf 35 = .ok (.istore_n 3, 1) := by decide +kernel
theorem dX8_weightOf_36 : decode cX8_weightOf 36 = .ok (.iinc 4 1, 3) := by decide +kernel
theorem dX8_weightOf_39 : decode cX8_weightOf 39 = .ok (.goto (-34), 3) := by decide +kernel
theorem dX8_wealthOf_0 : decode cX8_wealthOf 0 = .ok (.aload_n 0, 1) := by decide +kernel
theorem dX8_wealthOf_1 : decode cX8_wealthOf 1 = .ok (.getfield 15, 3) := by decide +kernel
theorem dX8_wealthOf_4 : decode cX8_wealthOf 4 = .ok (.iload_n 2, 1) := by decide +kernel
theorem dX8_wealthOf_5 : decode cX8_wealthOf 5 = .ok (.iaload, 1) := by decide +kernel
theorem dX8_wealthOf_6 : decode cX8_wealthOf 6 = .ok (.istore_n 3, 1) := by decide +kernel
theorem dX8_wealthOf_7 : decode cX8_wealthOf 7 = .ok (.iconst 0, 1) := by decide +kernel
theorem dX8_wealthOf_8 : decode cX8_wealthOf 8 = .ok (.istore 4, 2) := by decide +kernel
theorem dX8_wealthOf_10 : decode cX8_wealthOf 10 = .ok (.iload 4, 2) := by decide +kernel
theorem dX8_wealthOf_12 : decode cX8_wealthOf 12 = .ok (.aload_n 1, 1) := by decide +kernel
theorem dX8_wealthOf_13 : decode cX8_wealthOf 13 = .ok (.getfield 43, 3) := by decide +kernel
theorem dX8_wealthOf_16 : decode cX8_wealthOf 16 = .ok (.if_icmp .ge 31, 3) := by decide +kernel
theorem dX8_wealthOf_47 : decode cX8_wealthOf 47 = .ok (.iload_n 3, 1) := by decide +kernel
theorem dX8_wealthOf_48 : decode cX8_wealthOf 48 = .ok (.ireturn, 1) := by decide +kernel
theorem dX8_wealthOf_19 : decode cX8_wealthOf 19 = .ok (.iload_n 3, 1) := by decide +kernel
theorem dX8_wealthOf_20 : decode cX8_wealthOf 20 = .ok (.aload_n 0, 1) := by decide +kernel
theorem dX8_wealthOf_21 : decode cX8_wealthOf 21 = .ok (.getfield 24, 3) := by decide +kernel
theorem dX8_wealthOf_24 : decode cX8_wealthOf 24 = .ok (.iload_n 2, 1) := by decide +kernel
theorem dX8_wealthOf_25 : decode cX8_wealthOf 25 = .ok (.iconst 5, 1) := by decide +kernel
theorem dX8_wealthOf_26 : decode cX8_wealthOf 26 = .ok (.imul, 1) := by decide +kernel
theorem dX8_wealthOf_27 : decode cX8_wealthOf 27 = .ok (.iload 4, 2) := by decide +kernel
theorem dX8_wealthOf_29 : decode cX8_wealthOf 29 = .ok (.iadd, 1) := by decide +kernel
theorem dX8_wealthOf_30 : decode cX8_wealthOf 30 = .ok (.iaload, 1) := by decide +kernel
theorem dX8_wealthOf_31 : decode cX8_wealthOf 31 = .ok (.aload_n 1, 1) := by decide +kernel
theorem dX8_wealthOf_32 : decode cX8_wealthOf 32 = .ok (.getfield 51, 3) := by decide +kernel
theorem dX8_wealthOf_35 : decode cX8_wealthOf 35 = .ok (.iload 4, 2) := by decide +kernel
theorem dX8_wealthOf_37 : decode cX8_wealthOf 37 = .ok (.iaload, 1) := by decide +kernel
theorem dX8_wealthOf_38 : decode cX8_wealthOf 38 = .ok (.imul, 1) := by decide +kernel
theorem dX8_wealthOf_39 : decode cX8_wealthOf 39 = .ok (.iadd, 1) := by decide +kernel
theorem dX8_wealthOf_40 : decode cX8_wealthOf 40 = .ok (.istore_n 3, 1) := by decide +kernel
theorem dX8_wealthOf_41 : decode cX8_wealthOf 41 = .ok (.iinc 4 1, 3) := by decide +kernel
theorem dX8_wealthOf_44 : decode cX8_wealthOf 44 = .ok (.goto (-34), 3) := by decide +kernel
theorem dX8_atTop_0 : decode cX8_atTop 0 = .ok (.iconst 0, 1) := by decide +kernel
theorem dX8_atTop_1 : decode cX8_atTop 1 = .ok (.istore_n 2, 1) := by decide +kernel
theorem dX8_atTop_2 : decode cX8_atTop 2 = .ok (.iconst 0, 1) := by decide +kernel
theorem dX8_atTop_3 : decode cX8_atTop 3 = .ok (.istore_n 3, 1) := by decide +kernel
theorem dX8_atTop_4 : decode cX8_atTop 4 = .ok (.iload_n 3, 1) := by decide +kernel
theorem dX8_atTop_5 : decode cX8_atTop 5 = .ok (.aload_n 1, 1) := by decide +kernel
theorem dX8_atTop_6 : decode cX8_atTop 6 = .ok (.getfield 54, 3) := by decide +kernel
theorem dX8_atTop_9 : decode cX8_atTop 9 = .ok (.if_icmp .ge 28, 3) := by decide +kernel
theorem dX8_atTop_37 : decode cX8_atTop 37 = .ok (.iload_n 2, 1) := by decide +kernel
theorem dX8_atTop_38 : decode cX8_atTop 38 = .ok (.ireturn, 1) := by decide +kernel
theorem dX8_atTop_12 : decode cX8_atTop 12 = .ok (.aload_n 0, 1) := by decide +kernel
theorem dX8_atTop_13 : decode cX8_atTop 13 = .ok (.getfield 9, 3) := by decide +kernel
theorem dX8_atTop_16 : decode cX8_atTop 16 = .ok (.iload_n 3, 1) := by decide +kernel
theorem dX8_atTop_17 : decode cX8_atTop 17 = .ok (.iaload, 1) := by decide +kernel
theorem dX8_atTop_18 : decode cX8_atTop 18 = .ok (.aload_n 1, 1) := by decide +kernel
theorem dX8_atTop_19 : decode cX8_atTop 19 = .ok (.getfield 57, 3) := by decide +kernel
theorem dX8_atTop_22 : decode cX8_atTop 22 = .ok (.if_icmp .lt 9, 3) := by decide +kernel
theorem dX8_atTop_31 : decode cX8_atTop 31 = .ok (.iinc 3 1, 3) := by decide +kernel
theorem dX8_atTop_34 : decode cX8_atTop 34 = .ok (.goto (-30), 3) := by decide +kernel
theorem dX8_atTop_25 : decode cX8_atTop 25 = .ok (.iload_n 2, 1) := by decide +kernel
theorem dX8_atTop_26 : decode cX8_atTop 26 = .ok (.iconst 1, 1) := by decide +kernel
theorem dX8_atTop_27 : decode cX8_atTop 27 = .ok (.iload_n 3, 1) := by decide +kernel
theorem dX8_atTop_28 : decode cX8_atTop 28 = .ok (.ishl, 1) := by decide +kernel
theorem dX8_atTop_29 : decode cX8_atTop 29 = .ok (.ior, 1) := by decide +kernel
theorem dX8_atTop_30 : decode cX8_atTop 30 = .ok (.istore_n 2, 1) := by decide +kernel
theorem dX8_lying_0 : decode cX8_lying 0 = .ok (.iconst 0, 1) := by decide +kernel
theorem dX8_lying_1 : decode cX8_lying 1 = .ok (.istore_n 1, 1) := by decide +kernel
theorem dX8_lying_2 : decode cX8_lying 2 = .ok (.iconst 0, 1) := by decide +kernel
theorem dX8_lying_3 : decode cX8_lying 3 = .ok (.istore_n 2, 1) := by decide +kernel
theorem dX8_lying_4 : decode cX8_lying 4 = .ok (.iload_n 2, 1) := by decide +kernel
theorem dX8_lying_5 : decode cX8_lying 5 = .ok (.aload_n 0, 1) := by decide +kernel
theorem dX8_lying_6 : decode cX8_lying 6 = .ok (.getfield 27, 3) := by decide +kernel
theorem dX8_lying_9 : decode cX8_lying 9 = .ok (.arraylength, 1) := by decide +kernel
theorem dX8_lying_10 : decode cX8_lying 10 = .ok (.if_icmp .ge 18, 3) := by decide +kernel
theorem dX8_lying_28 : decode cX8_lying 28 = .ok (.iload_n 1, 1) := by decide +kernel
theorem dX8_lying_29 : decode cX8_lying 29 = .ok (.ireturn, 1) := by decide +kernel
theorem dX8_lying_13 : decode cX8_lying 13 = .ok (.iload_n 1, 1) := by decide +kernel
theorem dX8_lying_14 : decode cX8_lying 14 = .ok (.aload_n 0, 1) := by decide +kernel
theorem dX8_lying_15 : decode cX8_lying 15 = .ok (.getfield 27, 3) := by decide +kernel
theorem dX8_lying_18 : decode cX8_lying 18 = .ok (.iload_n 2, 1) := by decide +kernel
theorem dX8_lying_19 : decode cX8_lying 19 = .ok (.iaload, 1) := by decide +kernel
theorem dX8_lying_20 : decode cX8_lying 20 = .ok (.iadd, 1) := by decide +kernel
theorem dX8_lying_21 : decode cX8_lying 21 = .ok (.istore_n 1, 1) := by decide +kernel
theorem dX8_lying_22 : decode cX8_lying 22 = .ok (.iinc 2 1, 3) := by decide +kernel
theorem dX8_lying_25 : decode cX8_lying 25 = .ok (.goto (-21), 3) := by decide +kernel
theorem dX3_askedAt_0 : decode cX3_askedAt 0 = .ok (.iload_n 2, 1) := by decide +kernel
theorem dX3_askedAt_1 : decode cX3_askedAt 1 = .ok (.iload_n 1, 1) := by decide +kernel
theorem dX3_askedAt_2 : decode cX3_askedAt 2 = .ok (.ishr, 1) := by decide +kernel
theorem dX3_askedAt_3 : decode cX3_askedAt 3 = .ok (.iconst 1, 1) := by decide +kernel
theorem dX3_askedAt_4 : decode cX3_askedAt 4 = .ok (.iand, 1) := by decide +kernel
theorem dX3_askedAt_5 : decode cX3_askedAt 5 = .ok (.ifCond .ne 12, 3) := by decide +kernel
theorem dX3_askedAt_17 : decode cX3_askedAt 17 = .ok (.aload_n 0, 1) := by decide +kernel
theorem dX3_askedAt_18 : decode cX3_askedAt 18 = .ok (.getfield 24, 3) := by decide +kernel
theorem dX3_askedAt_21 : decode cX3_askedAt 21 = .ok (.iload_n 1, 1) := by decide +kernel
theorem dX3_askedAt_22 : decode cX3_askedAt 22 = .ok (.iaload, 1) := by decide +kernel
theorem dX3_askedAt_23 : decode cX3_askedAt 23 = .ok (.ireturn, 1) := by decide +kernel
theorem dX3_askedAt_8 : decode cX3_askedAt 8 = .ok (.aload_n 0, 1) := by decide +kernel
theorem dX3_askedAt_9 : decode cX3_askedAt 9 = .ok (.getfield 21, 3) := by decide +kernel
theorem dX3_askedAt_12 : decode cX3_askedAt 12 = .ok (.iload_n 1, 1) := by decide +kernel
theorem dX3_askedAt_13 : decode cX3_askedAt 13 = .ok (.iaload, 1) := by decide +kernel
theorem dX3_askedAt_14 : decode cX3_askedAt 14 = .ok (.goto 9, 3) := by decide +kernel
theorem dX3_turned_0 : decode cX3_turned 0 = .ok (.iconst 0, 1) := by decide +kernel
theorem dX3_turned_1 : decode cX3_turned 1 = .ok (.istore_n 2, 1) := by decide +kernel
theorem dX3_turned_2 : decode cX3_turned 2 = .ok (.iconst 0, 1) := by decide +kernel
theorem dX3_turned_3 : decode cX3_turned 3 = .ok (.istore_n 3, 1) := by decide +kernel
theorem dX3_turned_4 : decode cX3_turned 4 = .ok (.iload_n 3, 1) := by decide +kernel
theorem dX3_turned_5 : decode cX3_turned 5 = .ok (.aload_n 0, 1) := by decide +kernel
theorem dX3_turned_6 : decode cX3_turned 6 = .ok (.getfield 45, 3) := by decide +kernel
theorem dX3_turned_9 : decode cX3_turned 9 = .ok (.if_icmp .ge 30, 3) := by decide +kernel
theorem dX3_turned_39 : decode cX3_turned 39 = .ok (.iload_n 2, 1) := by decide +kernel
theorem dX3_turned_40 : decode cX3_turned 40 = .ok (.ireturn, 1) := by decide +kernel
theorem dX3_turned_12 : decode cX3_turned 12 = .ok (.aload_n 0, 1) := by decide +kernel
theorem dX3_turned_13 : decode cX3_turned 13 = .ok (.iload_n 3, 1) := by decide +kernel
theorem dX3_turned_14 : decode cX3_turned 14 = .ok (.iload_n 1, 1) := by decide +kernel
theorem dX3_turned_15 : decode cX3_turned 15 = .ok (.invokevirtual 64, 3) := by decide +kernel
theorem dX3_turned_18 : decode cX3_turned 18 = .ok (.aload_n 0, 1) := by decide +kernel
theorem dX3_turned_19 : decode cX3_turned 19 = .ok (.getfield 21, 3) := by decide +kernel
theorem dX3_turned_22 : decode cX3_turned 22 = .ok (.iload_n 3, 1) := by decide +kernel
theorem dX3_turned_23 : decode cX3_turned 23 = .ok (.iaload, 1) := by decide +kernel
theorem dX3_turned_24 : decode cX3_turned 24 = .ok (.if_icmp .eq 9, 3) := by decide +kernel
theorem dX3_turned_33 : decode cX3_turned 33 = .ok (.iinc 3 1, 3) := by decide +kernel
theorem dX3_turned_36 : decode cX3_turned 36 = .ok (.goto (-32), 3) := by decide +kernel
theorem dX3_turned_27 : decode cX3_turned 27 = .ok (.iload_n 2, 1) := by decide +kernel
theorem dX3_turned_28 : decode cX3_turned 28 = .ok (.iconst 1, 1) := by decide +kernel
theorem dX3_turned_29 : decode cX3_turned 29 = .ok (.iload_n 3, 1) := by decide +kernel
theorem dX3_turned_30 : decode cX3_turned 30 = .ok (.ishl, 1) := by decide +kernel
theorem dX3_turned_31 : decode cX3_turned 31 = .ok (.ior, 1) := by decide +kernel
theorem dX3_turned_32 : decode cX3_turned 32 = .ok (.istore_n 2, 1) := by decide +kernel
theorem dX3_clear_0 : decode cX3_clear 0 = .ok (.aload_n 0, 1) := by decide +kernel
theorem dX3_clear_1 : decode cX3_clear 1 = .ok (.iconst 0, 1) := by decide +kernel
theorem dX3_clear_2 : decode cX3_clear 2 = .ok (.putfield 34, 3) := by decide +kernel
theorem dX3_clear_5 : decode cX3_clear 5 = .ok (.aload_n 0, 1) := by decide +kernel
theorem dX3_clear_6 : decode cX3_clear 6 = .ok (.iconst 0, 1) := by decide +kernel
theorem dX3_clear_7 : decode cX3_clear 7 = .ok (.putfield 38, 3) := by decide +kernel
theorem dX3_clear_10 : decode cX3_clear 10 = .ok (.aload_n 0, 1) := by decide +kernel
theorem dX3_clear_11 : decode cX3_clear 11 = .ok (.iconst 0, 1) := by decide +kernel
theorem dX3_clear_12 : decode cX3_clear 12 = .ok (.putfield 42, 3) := by decide +kernel
theorem dX3_clear_15 : decode cX3_clear 15 = .ok (.aload_n 0, 1) := by decide +kernel
theorem dX3_clear_16 : decode cX3_clear 16 = .ok (.iconst 0, 1) := by decide +kernel
theorem dX3_clear_17 : decode cX3_clear 17 = .ok (.putfield 45, 3) := by decide +kernel
theorem dX3_clear_20 : decode cX3_clear 20 = .ok (.aload_n 0, 1) := by decide +kernel
theorem dX3_clear_21 : decode cX3_clear 21 = .ok (.iconst 0, 1) := by decide +kernel
theorem dX3_clear_22 : decode cX3_clear 22 = .ok (.putfield 48, 3) := by decide +kernel
theorem dX3_clear_25 : decode cX3_clear 25 = .ok (.aload_n 0, 1) := by decide +kernel
theorem dX3_clear_26 : decode cX3_clear 26 = .ok (.getfield 30, 3) := by decide +kernel
theorem dX3_clear_29 : decode cX3_clear 29 = .ok (.invokevirtual 51, 3) := by decide +kernel
theorem dX3_clear_32 : decode cX3_clear 32 = .ok (.return_, 1) := by decide +kernel
theorem dX3_copyFrom_0 : decode cX3_copyFrom 0 = .ok (.aload_n 1, 1) := by decide +kernel
theorem dX3_copyFrom_1 : decode cX3_copyFrom 1 = .ok (.getfield 9, 3) := by decide +kernel
theorem dX3_copyFrom_4 : decode cX3_copyFrom 4 = .ok (.iconst 0, 1) := by decide +kernel
theorem dX3_copyFrom_5 : decode cX3_copyFrom 5 = .ok (.aload_n 0, 1) := by decide +kernel
theorem dX3_copyFrom_6 : decode cX3_copyFrom 6 = .ok (.getfield 9, 3) := by decide +kernel
theorem dX3_copyFrom_9 : decode cX3_copyFrom 9 = .ok (.iconst 0, 1) := by decide +kernel
theorem dX3_copyFrom_10 : decode cX3_copyFrom 10 = .ok (.iconst 5, 1) := by decide +kernel
theorem dX3_copyFrom_11 : decode cX3_copyFrom 11 = .ok (.invokestatic 54, 3) := by decide +kernel
theorem dX3_copyFrom_14 : decode cX3_copyFrom 14 = .ok (.aload_n 1, 1) := by decide +kernel
theorem dX3_copyFrom_15 : decode cX3_copyFrom 15 = .ok (.getfield 15, 3) := by decide +kernel
theorem dX3_copyFrom_18 : decode cX3_copyFrom 18 = .ok (.iconst 0, 1) := by decide +kernel
theorem dX3_copyFrom_19 : decode cX3_copyFrom 19 = .ok (.aload_n 0, 1) := by decide +kernel
theorem dX3_copyFrom_20 : decode cX3_copyFrom 20 = .ok (.getfield 15, 3) := by decide +kernel
theorem dX3_copyFrom_23 : decode cX3_copyFrom 23 = .ok (.iconst 0, 1) := by decide +kernel
theorem dX3_copyFrom_24 : decode cX3_copyFrom 24 = .ok (.iconst 5, 1) := by decide +kernel
theorem dX3_copyFrom_25 : decode cX3_copyFrom 25 = .ok (.invokestatic 54, 3) := by decide +kernel
theorem dX3_copyFrom_28 : decode cX3_copyFrom 28 = .ok (.aload_n 1, 1) := by decide +kernel
theorem dX3_copyFrom_29 : decode cX3_copyFrom 29 = .ok (.getfield 18, 3) := by decide +kernel
theorem dX3_copyFrom_32 : decode cX3_copyFrom 32 = .ok (.iconst 0, 1) := by decide +kernel
theorem dX3_copyFrom_33 : decode cX3_copyFrom 33 = .ok (.aload_n 0, 1) := by decide +kernel
theorem dX3_copyFrom_34 : decode cX3_copyFrom 34 = .ok (.getfield 18, 3) := by decide +kernel
theorem dX3_copyFrom_37 : decode cX3_copyFrom 37 = .ok (.iconst 0, 1) := by decide +kernel
theorem dX3_copyFrom_38 : decode cX3_copyFrom 38 = .ok (.iconst 5, 1) := by decide +kernel
theorem dX3_copyFrom_39 : decode cX3_copyFrom 39 = .ok (.invokestatic 54, 3) := by decide +kernel
theorem dX3_copyFrom_42 : decode cX3_copyFrom 42 = .ok (.aload_n 1, 1) := by decide +kernel
theorem dX3_copyFrom_43 : decode cX3_copyFrom 43 = .ok (.getfield 21, 3) := by decide +kernel
theorem dX3_copyFrom_46 : decode cX3_copyFrom 46 = .ok (.iconst 0, 1) := by decide +kernel
theorem dX3_copyFrom_47 : decode cX3_copyFrom 47 = .ok (.aload_n 0, 1) := by decide +kernel
theorem dX3_copyFrom_48 : decode cX3_copyFrom 48 = .ok (.getfield 21, 3) := by decide +kernel
theorem dX3_copyFrom_51 : decode cX3_copyFrom 51 = .ok (.iconst 0, 1) := by decide +kernel
theorem dX3_copyFrom_52 : decode cX3_copyFrom 52 = .ok (.bipush 8, 2) := by decide +kernel
theorem dX3_copyFrom_54 : decode cX3_copyFrom 54 = .ok (.invokestatic 54, 3) := by decide +kernel
theorem dX3_copyFrom_57 : decode cX3_copyFrom 57 = .ok (.aload_n 1, 1) := by decide +kernel
theorem dX3_copyFrom_58 : decode cX3_copyFrom 58 = .ok (.getfield 24, 3) := by decide +kernel
theorem dX3_copyFrom_61 : decode cX3_copyFrom 61 = .ok (.iconst 0, 1) := by decide +kernel
theorem dX3_copyFrom_62 : decode cX3_copyFrom 62 = .ok (.aload_n 0, 1) := by decide +kernel
theorem dX3_copyFrom_63 : decode cX3_copyFrom 63 = .ok (.getfield 24, 3) := by decide +kernel
theorem dX3_copyFrom_66 : decode cX3_copyFrom 66 = .ok (.iconst 0, 1) := by decide +kernel
theorem dX3_copyFrom_67 : decode cX3_copyFrom 67 = .ok (.bipush 8, 2) := by decide +kernel
theorem dX3_copyFrom_69 : decode cX3_copyFrom 69 = .ok (.invokestatic 54, 3) := by decide +kernel
theorem dX3_copyFrom_72 : decode cX3_copyFrom 72 = .ok (.aload_n 0, 1) := by decide +kernel
theorem dX3_copyFrom_73 : decode cX3_copyFrom 73 = .ok (.getfield 30, 3) := by decide +kernel
theorem dX3_copyFrom_76 : decode cX3_copyFrom 76 = .ok (.aload_n 1, 1) := by decide +kernel
theorem dX3_copyFrom_77 : decode cX3_copyFrom 77 = .ok (.getfield 30, 3) := by decide +kernel
theorem dX3_copyFrom_80 : decode cX3_copyFrom 80 = .ok (.invokevirtual 60, 3) := by decide +kernel
theorem dX3_copyFrom_83 : decode cX3_copyFrom 83 = .ok (.aload_n 0, 1) := by decide +kernel
theorem dX3_copyFrom_84 : decode cX3_copyFrom 84 = .ok (.aload_n 1, 1) := by decide +kernel
theorem dX3_copyFrom_85 : decode cX3_copyFrom 85 = .ok (.getfield 34, 3) := by decide +kernel
theorem dX3_copyFrom_88 : decode cX3_copyFrom 88 = .ok (.putfield 34, 3) := by decide +kernel
theorem dX3_copyFrom_91 : decode cX3_copyFrom 91 = .ok (.aload_n 0, 1) := by decide +kernel
theorem dX3_copyFrom_92 : decode cX3_copyFrom 92 = .ok (.aload_n 1, 1) := by decide +kernel
theorem dX3_copyFrom_93 : decode cX3_copyFrom 93 = .ok (.getfield 38, 3) := by decide +kernel
theorem dX3_copyFrom_96 : decode cX3_copyFrom 96 = .ok (.putfield 38, 3) := by decide +kernel
theorem dX3_copyFrom_99 : decode cX3_copyFrom 99 = .ok (.aload_n 0, 1) := by decide +kernel
theorem dX3_copyFrom_100 : decode cX3_copyFrom 100 = .ok (.aload_n 1, 1) := by decide +kernel
theorem dX3_copyFrom_101 : decode cX3_copyFrom 101 = .ok (.getfield 42, 3) := by decide +kernel
theorem dX3_copyFrom_104 : decode cX3_copyFrom 104 = .ok (.putfield 42, 3) := by decide +kernel
theorem dX3_copyFrom_107 : decode cX3_copyFrom 107 = .ok (.aload_n 0, 1) := by decide +kernel
theorem dX3_copyFrom_108 : decode cX3_copyFrom 108 = .ok (.aload_n 1, 1) := by decide +kernel
theorem dX3_copyFrom_109 : decode cX3_copyFrom 109 = .ok (.getfield 45, 3) := by decide +kernel
theorem dX3_copyFrom_112 : decode cX3_copyFrom 112 = .ok (.putfield 45, 3) := by decide +kernel
theorem dX3_copyFrom_115 : decode cX3_copyFrom 115 = .ok (.aload_n 0, 1) := by decide +kernel
theorem dX3_copyFrom_116 : decode cX3_copyFrom 116 = .ok (.aload_n 1, 1) := by decide +kernel
theorem dX3_copyFrom_117 : decode cX3_copyFrom 117 = .ok (.getfield 48, 3) := by decide +kernel
theorem dX3_copyFrom_120 : decode cX3_copyFrom 120 = .ok (.putfield 48, 3) := by decide +kernel
theorem dX3_copyFrom_123 : decode cX3_copyFrom 123 = .ok (.return_, 1) := by decide +kernel
theorem dX8_canCarry_0 : decode cX8_canCarry 0 = .ok (.aload_n 0, 1) := by decide +kernel
theorem dX8_canCarry_1 : decode cX8_canCarry 1 = .ok (.getfield 24, 3) := by decide +kernel
theorem dX8_canCarry_4 : decode cX8_canCarry 4 = .ok (.iload_n 2, 1) := by decide +kernel
theorem dX8_canCarry_5 : decode cX8_canCarry 5 = .ok (.iconst 5, 1) := by decide +kernel
theorem dX8_canCarry_6 : decode cX8_canCarry 6 = .ok (.imul, 1) := by decide +kernel
theorem dX8_canCarry_7 : decode cX8_canCarry 7 = .ok (.iload_n 3, 1) := by decide +kernel
theorem dX8_canCarry_8 : decode cX8_canCarry 8 = .ok (.iadd, 1) := by decide +kernel
theorem dX8_canCarry_9 : decode cX8_canCarry 9 = .ok (.iaload, 1) := by decide +kernel
theorem dX8_canCarry_10 : decode cX8_canCarry 10 = .ok (.bipush 9, 2) := by decide +kernel
theorem dX8_canCarry_12 : decode cX8_canCarry 12 = .ok (.if_icmp .ge 27, 3) := by decide +kernel
theorem dX8_canCarry_39 : decode cX8_canCarry 39 = .ok (.iconst 0, 1) := by decide +kernel
theorem dX8_canCarry_40 : decode cX8_canCarry 40 = .ok (.ireturn, 1) := by decide +kernel
theorem dX8_canCarry_15 : decode cX8_canCarry 15 = .ok (.aload_n 0, 1) := by decide +kernel
theorem dX8_canCarry_16 : decode cX8_canCarry 16 = .ok (.aload_n 1, 1) := by decide +kernel
theorem dX8_canCarry_17 : decode cX8_canCarry 17 = .ok (.iload_n 2, 1) := by decide +kernel
theorem dX8_canCarry_18 : decode cX8_canCarry 18 = .ok (.invokevirtual 60, 3) := by decide +kernel
theorem dX8_canCarry_21 : decode cX8_canCarry 21 = .ok (.aload_n 1, 1) := by decide +kernel
theorem dX8_canCarry_22 : decode cX8_canCarry 22 = .ok (.getfield 48, 3) := by decide +kernel
theorem dX8_canCarry_25 : decode cX8_canCarry 25 = .ok (.iload_n 3, 1) := by decide +kernel
theorem dX8_canCarry_26 : decode cX8_canCarry 26 = .ok (.iaload, 1) := by decide +kernel
theorem dX8_canCarry_27 : decode cX8_canCarry 27 = .ok (.iadd, 1) := by decide +kernel
theorem dX8_canCarry_28 : decode cX8_canCarry 28 = .ok (.aload_n 1, 1) := by decide +kernel
theorem dX8_canCarry_29 : decode cX8_canCarry 29 = .ok (.getfield 64, 3) := by decide +kernel
theorem dX8_canCarry_32 : decode cX8_canCarry 32 = .ok (.if_icmp .gt 7, 3) := by decide +kernel
theorem dX8_canCarry_35 : decode cX8_canCarry 35 = .ok (.iconst 1, 1) := by decide +kernel
theorem dX8_canCarry_36 : decode cX8_canCarry 36 = .ok (.goto 4, 3) := by decide +kernel
theorem dX8_canPay_0 : decode cX8_canPay 0 = .ok (.aload_n 0, 1) := by decide +kernel
theorem dX8_canPay_1 : decode cX8_canPay 1 = .ok (.getfield 9, 3) := by decide +kernel
theorem dX8_canPay_4 : decode cX8_canPay 4 = .ok (.iload_n 2, 1) := by decide +kernel
theorem dX8_canPay_5 : decode cX8_canPay 5 = .ok (.iaload, 1) := by decide +kernel
theorem dX8_canPay_6 : decode cX8_canPay 6 = .ok (.ifCond .ne 32, 3) := by decide +kernel
theorem dX8_canPay_38 : decode cX8_canPay 38 = .ok (.iconst 0, 1) := by decide +kernel
theorem dX8_canPay_39 : decode cX8_canPay 39 = .ok (.ireturn, 1) := by decide +kernel
theorem dX8_canPay_9 : decode cX8_canPay 9 = .ok (.aload_n 0, 1) := by decide +kernel
theorem dX8_canPay_10 : decode cX8_canPay 10 = .ok (.getfield 15, 3) := by decide +kernel
theorem dX8_canPay_13 : decode cX8_canPay 13 = .ok (.iload_n 2, 1) := by decide +kernel
theorem dX8_canPay_14 : decode cX8_canPay 14 = .ok (.iaload, 1) := by decide +kernel
theorem dX8_canPay_15 : decode cX8_canPay 15 = .ok (.aload_n 1, 1) := by decide +kernel
theorem dX8_canPay_16 : decode cX8_canPay 16 = .ok (.getfield 80, 3) := by decide +kernel
theorem dX8_canPay_19 : decode cX8_canPay 19 = .ok (.iload_n 3, 1) := by decide +kernel
theorem dX8_canPay_20 : decode cX8_canPay 20 = .ok (.iaload, 1) := by decide +kernel
theorem dX8_canPay_21 : decode cX8_canPay 21 = .ok (.if_icmp .lt 17, 3) := by decide +kernel
theorem dX8_canPay_24 : decode cX8_canPay 24 = .ok (.aload_n 0, 1) := by decide +kernel
theorem dX8_canPay_25 : decode cX8_canPay 25 = .ok (.aload_n 1, 1) := by decide +kernel
theorem dX8_canPay_26 : decode cX8_canPay 26 = .ok (.iload_n 2, 1) := by decide +kernel
theorem dX8_canPay_27 : decode cX8_canPay 27 = .ok (.iload_n 3, 1) := by decide +kernel
theorem dX8_canPay_28 : decode cX8_canPay 28 = .ok (.invokevirtual 76, 3) := by decide +kernel
theorem dX8_canPay_31 : decode cX8_canPay 31 = .ok (.ifCond .eq 7, 3) := by decide +kernel
theorem dX8_canPay_34 : decode cX8_canPay 34 = .ok (.iconst 1, 1) := by decide +kernel
theorem dX8_canPay_35 : decode cX8_canPay 35 = .ok (.goto 4, 3) := by decide +kernel
theorem dX8_canPart_0 : decode cX8_canPart 0 = .ok (.aload_n 0, 1) := by decide +kernel
theorem dX8_canPart_1 : decode cX8_canPart 1 = .ok (.getfield 9, 3) := by decide +kernel
theorem dX8_canPart_4 : decode cX8_canPart 4 = .ok (.iload_n 1, 1) := by decide +kernel
theorem dX8_canPart_5 : decode cX8_canPart 5 = .ok (.iaload, 1) := by decide +kernel
theorem dX8_canPart_6 : decode cX8_canPart 6 = .ok (.ifCond .ne 20, 3) := by decide +kernel
theorem dX8_canPart_26 : decode cX8_canPart 26 = .ok (.iconst 0, 1) := by decide +kernel
theorem dX8_canPart_27 : decode cX8_canPart 27 = .ok (.ireturn, 1) := by decide +kernel
theorem dX8_canPart_9 : decode cX8_canPart 9 = .ok (.aload_n 0, 1) := by decide +kernel
theorem dX8_canPart_10 : decode cX8_canPart 10 = .ok (.getfield 24, 3) := by decide +kernel
theorem dX8_canPart_13 : decode cX8_canPart 13 = .ok (.iload_n 1, 1) := by decide +kernel
theorem dX8_canPart_14 : decode cX8_canPart 14 = .ok (.iconst 5, 1) := by decide +kernel
theorem dX8_canPart_15 : decode cX8_canPart 15 = .ok (.imul, 1) := by decide +kernel
theorem dX8_canPart_16 : decode cX8_canPart 16 = .ok (.iload_n 2, 1) := by decide +kernel
theorem dX8_canPart_17 : decode cX8_canPart 17 = .ok (.iadd, 1) := by decide +kernel
theorem dX8_canPart_18 : decode cX8_canPart 18 = .ok (.iaload, 1) := by decide +kernel
theorem dX8_canPart_19 : decode cX8_canPart 19 = .ok (.ifCond .le 7, 3) := by decide +kernel
theorem dX8_canPart_22 : decode cX8_canPart 22 = .ok (.iconst 1, 1) := by decide +kernel
theorem dX8_canPart_23 : decode cX8_canPart 23 = .ok (.goto 4, 3) := by decide +kernel
theorem dX8_part_0 : decode cX8_part 0 = .ok (.aload_n 0, 1) := by decide +kernel
theorem dX8_part_1 : decode cX8_part 1 = .ok (.getfield 24, 3) := by decide +kernel
theorem dX8_part_4 : decode cX8_part 4 = .ok (.iload_n 2, 1) := by decide +kernel
theorem dX8_part_5 : decode cX8_part 5 = .ok (.iconst 5, 1) := by decide +kernel
theorem dX8_part_6 : decode cX8_part 6 = .ok (.imul, 1) := by decide +kernel
theorem dX8_part_7 : decode cX8_part 7 = .ok (.iload_n 3, 1) := by decide +kernel
theorem dX8_part_8 : decode cX8_part 8 = .ok (.iadd, 1) := by decide +kernel
theorem dX8_part_9 : decode cX8_part 9 = .ok (.dup2, 1) := by decide +kernel
theorem dX8_part_10 : decode cX8_part 10 = .ok (.iaload, 1) := by decide +kernel
theorem dX8_part_11 : decode cX8_part 11 = .ok (.iconst 1, 1) := by decide +kernel
theorem dX8_part_12 : decode cX8_part 12 = .ok (.isub, 1) := by decide +kernel
theorem dX8_part_13 : decode cX8_part 13 = .ok (.iastore, 1) := by decide +kernel
theorem dX8_part_14 : decode cX8_part 14 = .ok (.aload_n 0, 1) := by decide +kernel
theorem dX8_part_15 : decode cX8_part 15 = .ok (.getfield 15, 3) := by decide +kernel
theorem dX8_part_18 : decode cX8_part 18 = .ok (.iload_n 2, 1) := by decide +kernel
theorem dX8_part_19 : decode cX8_part 19 = .ok (.sipush 999, 3) := by decide +kernel
theorem dX8_part_22 : decode cX8_part 22 = .ok (.aload_n 0, 1) := by decide +kernel
theorem dX8_part_23 : decode cX8_part 23 = .ok (.getfield 15, 3) := by decide +kernel
theorem dX8_part_26 : decode cX8_part 26 = .ok (.iload_n 2, 1) := by decide +kernel
theorem dX8_part_27 : decode cX8_part 27 = .ok (.iaload, 1) := by decide +kernel
theorem dX8_part_28 : decode cX8_part 28 = .ok (.aload_n 1, 1) := by decide +kernel
theorem dX8_part_29 : decode cX8_part 29 = .ok (.getfield 80, 3) := by decide +kernel
theorem dX8_part_32 : decode cX8_part 32 = .ok (.iload_n 3, 1) := by decide +kernel
theorem dX8_part_33 : decode cX8_part 33 = .ok (.iaload, 1) := by decide +kernel
theorem dX8_part_34 : decode cX8_part 34 = .ok (.iconst 2, 1) := by decide +kernel
theorem dX8_part_35 : decode cX8_part 35 = .ok (.idiv, 1) := by decide +kernel
theorem dX8_part_36 : decode cX8_part 36 = .ok (.iadd, 1) := by decide +kernel
theorem dX8_part_37 : decode cX8_part 37 = .ok (.invokestatic 71, 3) := by decide +kernel
theorem dX8_part_40 : decode cX8_part 40 = .ok (.iastore, 1) := by decide +kernel
theorem dX8_part_41 : decode cX8_part 41 = .ok (.return_, 1) := by decide +kernel
theorem dX10_begin_0 : decode cX10_begin 0 = .ok (.aload_n 0, 1) := by decide +kernel
theorem dX10_begin_1 : decode cX10_begin 1 = .ok (.getfield 12, 3) := by decide +kernel
theorem dX10_begin_4 : decode cX10_begin 4 = .ok (.aload_n 1, 1) := by decide +kernel
theorem dX10_begin_5 : decode cX10_begin 5 = .ok (.invokevirtual 42, 3) := by decide +kernel
theorem dX10_begin_8 : decode cX10_begin 8 = .ok (.aload_n 0, 1) := by decide +kernel
theorem dX10_begin_9 : decode cX10_begin 9 = .ok (.getfield 21, 3) := by decide +kernel
theorem dX10_begin_12 : decode cX10_begin 12 = .ok (.aload_n 1, 1) := by decide +kernel
theorem dX10_begin_13 : decode cX10_begin 13 = .ok (.getfield 46, 3) := by decide +kernel
theorem dX10_begin_16 : decode cX10_begin 16 = .ok (.invokevirtual 49, 3) := by decide +kernel
theorem dX10_begin_19 : decode cX10_begin 19 = .ok (.iconst 0, 1) := by decide +kernel
theorem dX10_begin_20 : decode cX10_begin 20 = .ok (.istore_n 2, 1) := by decide +kernel
theorem dX10_begin_21 : decode cX10_begin 21 = .ok (.iload_n 2, 1) := by decide +kernel
theorem dX10_begin_22 : decode cX10_begin 22 = .ok (.iconst 5, 1) := by decide +kernel
theorem dX10_begin_23 : decode cX10_begin 23 = .ok (.if_icmp .ge 16, 3) := by decide +kernel
theorem dX10_begin_39 : decode cX10_begin 39 = .ok (.aload_n 0, 1) := by decide +kernel
theorem dX10_begin_40 : decode cX10_begin 40 = .ok (.iconst 0, 1) := by decide +kernel
theorem dX10_begin_41 : decode cX10_begin 41 = .ok (.putfield 52, 3) := by decide +kernel
theorem dX10_begin_44 : decode cX10_begin 44 = .ok (.return_, 1) := by decide +kernel
theorem dX10_begin_26 : decode cX10_begin 26 = .ok (.aload_n 0, 1) := by decide +kernel
theorem dX10_begin_27 : decode cX10_begin 27 = .ok (.getfield 25, 3) := by decide +kernel
theorem dX10_begin_30 : decode cX10_begin 30 = .ok (.iload_n 2, 1) := by decide +kernel
theorem dX10_begin_31 : decode cX10_begin 31 = .ok (.iconst 0, 1) := by decide +kernel
theorem dX10_begin_32 : decode cX10_begin 32 = .ok (.iastore, 1) := by decide +kernel
theorem dX10_begin_33 : decode cX10_begin 33 = .ok (.iinc 2 1, 3) := by decide +kernel
theorem dX10_begin_36 : decode cX10_begin 36 = .ok (.goto (-15), 3) := by decide +kernel
theorem dX10_copyFrom_0 : decode cX10_copyFrom 0 = .ok (.aload_n 0, 1) := by decide +kernel
theorem dX10_copyFrom_1 : decode cX10_copyFrom 1 = .ok (.getfield 12, 3) := by decide +kernel
theorem dX10_copyFrom_4 : decode cX10_copyFrom 4 = .ok (.aload_n 1, 1) := by decide +kernel
theorem dX10_copyFrom_5 : decode cX10_copyFrom 5 = .ok (.getfield 12, 3) := by decide +kernel
theorem dX10_copyFrom_8 : decode cX10_copyFrom 8 = .ok (.invokevirtual 42, 3) := by decide +kernel
theorem dX10_copyFrom_11 : decode cX10_copyFrom 11 = .ok (.aload_n 0, 1) := by decide +kernel
theorem dX10_copyFrom_12 : decode cX10_copyFrom 12 = .ok (.getfield 21, 3) := by decide +kernel
theorem dX10_copyFrom_15 : decode cX10_copyFrom 15 = .ok (.aload_n 1, 1) := by decide +kernel
theorem dX10_copyFrom_16 : decode cX10_copyFrom 16 = .ok (.getfield 21, 3) := by decide +kernel
theorem dX10_copyFrom_19 : decode cX10_copyFrom 19 = .ok (.invokevirtual 49, 3) := by decide +kernel
theorem dX10_copyFrom_22 : decode cX10_copyFrom 22 = .ok (.aload_n 1, 1) := by decide +kernel
theorem dX10_copyFrom_23 : decode cX10_copyFrom 23 = .ok (.getfield 25, 3) := by decide +kernel
theorem dX10_copyFrom_26 : decode cX10_copyFrom 26 = .ok (.iconst 0, 1) := by decide +kernel
theorem dX10_copyFrom_27 : decode cX10_copyFrom 27 = .ok (.aload_n 0, 1) := by decide +kernel
theorem dX10_copyFrom_28 : decode cX10_copyFrom 28 = .ok (.getfield 25, 3) := by decide +kernel
theorem dX10_copyFrom_31 : decode cX10_copyFrom 31 = .ok (.iconst 0, 1) := by decide +kernel
theorem dX10_copyFrom_32 : decode cX10_copyFrom 32 = .ok (.iconst 5, 1) := by decide +kernel
theorem dX10_copyFrom_33 : decode cX10_copyFrom 33 = .ok (.invokestatic 55, 3) := by decide +kernel
theorem dX10_copyFrom_36 : decode cX10_copyFrom 36 = .ok (.aload_n 1, 1) := by decide +kernel
theorem dX10_copyFrom_37 : decode cX10_copyFrom 37 = .ok (.getfield 29, 3) := by decide +kernel
theorem dX10_copyFrom_40 : decode cX10_copyFrom 40 = .ok (.iconst 0, 1) := by decide +kernel
theorem dX10_copyFrom_41 : decode cX10_copyFrom 41 = .ok (.aload_n 0, 1) := by decide +kernel
theorem dX10_copyFrom_42 : decode cX10_copyFrom 42 = .ok (.getfield 29, 3) := by decide +kernel
theorem dX10_copyFrom_45 : decode cX10_copyFrom 45 = .ok (.iconst 0, 1) := by decide +kernel
theorem dX10_copyFrom_46 : decode cX10_copyFrom 46 = .ok (.bipush 10, 2) := by decide +kernel
theorem dX10_copyFrom_48 : decode cX10_copyFrom 48 = .ok (.invokestatic 55, 3) := by decide +kernel
theorem dX10_copyFrom_51 : decode cX10_copyFrom 51 = .ok (.aload_n 1, 1) := by decide +kernel
theorem dX10_copyFrom_52 : decode cX10_copyFrom 52 = .ok (.getfield 32, 3) := by decide +kernel
theorem dX10_copyFrom_55 : decode cX10_copyFrom 55 = .ok (.iconst 0, 1) := by decide +kernel
theorem dX10_copyFrom_56 : decode cX10_copyFrom 56 = .ok (.aload_n 0, 1) := by decide +kernel
theorem dX10_copyFrom_57 : decode cX10_copyFrom 57 = .ok (.getfield 32, 3) := by decide +kernel
theorem dX10_copyFrom_60 : decode cX10_copyFrom 60 = .ok (.iconst 0, 1) := by decide +kernel
theorem dX10_copyFrom_61 : decode cX10_copyFrom 61 = .ok (.bipush 10, 2) := by decide +kernel
theorem dX10_copyFrom_63 : decode cX10_copyFrom 63 = .ok (.invokestatic 55, 3) := by decide +kernel
theorem dX10_copyFrom_66 : decode cX10_copyFrom 66 = .ok (.aload_n 1, 1) := by decide +kernel
theorem dX10_copyFrom_67 : decode cX10_copyFrom 67 = .ok (.getfield 35, 3) := by decide +kernel
theorem dX10_copyFrom_70 : decode cX10_copyFrom 70 = .ok (.iconst 0, 1) := by decide +kernel
theorem dX10_copyFrom_71 : decode cX10_copyFrom 71 = .ok (.aload_n 0, 1) := by decide +kernel
theorem dX10_copyFrom_72 : decode cX10_copyFrom 72 = .ok (.getfield 35, 3) := by decide +kernel
theorem dX10_copyFrom_75 : decode cX10_copyFrom 75 = .ok (.iconst 0, 1) := by decide +kernel
theorem dX10_copyFrom_76 : decode cX10_copyFrom 76 = .ok (.bipush 10, 2) := by decide +kernel
theorem dX10_copyFrom_78 : decode cX10_copyFrom 78 = .ok (.invokestatic 55, 3) := by decide +kernel
theorem dX10_copyFrom_81 : decode cX10_copyFrom 81 = .ok (.aload_n 0, 1) := by decide +kernel
theorem dX10_copyFrom_82 : decode cX10_copyFrom 82 = .ok (.aload_n 1, 1) := by decide +kernel
theorem dX10_copyFrom_83 : decode cX10_copyFrom 83 = .ok (.getfield 52, 3) := by decide +kernel
theorem dX10_copyFrom_86 : decode cX10_copyFrom 86 = .ok (.putfield 52, 3) := by decide +kernel
theorem dX10_copyFrom_89 : decode cX10_copyFrom 89 = .ok (.aload_n 0, 1) := by decide +kernel
theorem dX10_copyFrom_90 : decode cX10_copyFrom 90 = .ok (.aload_n 1, 1) := by decide +kernel
theorem dX10_copyFrom_91 : decode cX10_copyFrom 91 = .ok (.getfield 38, 3) := by decide +kernel
theorem dX10_copyFrom_94 : decode cX10_copyFrom 94 = .ok (.putfield 38, 3) := by decide +kernel
theorem dX10_copyFrom_97 : decode cX10_copyFrom 97 = .ok (.aload_n 0, 1) := by decide +kernel
theorem dX10_copyFrom_98 : decode cX10_copyFrom 98 = .ok (.aload_n 1, 1) := by decide +kernel
theorem dX10_copyFrom_99 : decode cX10_copyFrom 99 = .ok (.getfield 61, 3) := by decide +kernel
theorem dX10_copyFrom_102 : decode cX10_copyFrom 102 = .ok (.putfield 61, 3) := by decide +kernel
theorem dX10_copyFrom_105 : decode cX10_copyFrom 105 = .ok (.return_, 1) := by decide +kernel
theorem dX5_clear_0 : decode cX5_clear 0 = .ok (.aload_n 0, 1) := by decide +kernel
theorem dX5_clear_1 : decode cX5_clear 1 = .ok (.iconst 0, 1) := by decide +kernel
theorem dX5_clear_2 : decode cX5_clear 2 = .ok (.putfield 16, 3) := by decide +kernel
theorem dX5_clear_5 : decode cX5_clear 5 = .ok (.return_, 1) := by decide +kernel
theorem dX5_keep_0 : decode cX5_keep 0 = .ok (.aload_n 0, 1) := by decide +kernel
theorem dX5_keep_1 : decode cX5_keep 1 = .ok (.getfield 11, 3) := by decide +kernel
theorem dX5_keep_4 : decode cX5_keep 4 = .ok (.aload_n 0, 1) := by decide +kernel
theorem dX5_keep_5 : decode cX5_keep 5 = .ok (.getfield 20, 3) := by decide +kernel
theorem dX5_keep_8 : decode cX5_keep 8 = .ok (.aaload, 1) := by decide +kernel
theorem dX5_keep_9 : decode cX5_keep 9 = .ok (.aload_n 1, 1) := by decide +kernel
theorem dX5_keep_10 : decode cX5_keep 10 = .ok (.invokevirtual 23, 3) := by decide +kernel
theorem dX5_keep_13 : decode cX5_keep 13 = .ok (.aload_n 0, 1) := by decide +kernel
theorem dX5_keep_14 : decode cX5_keep 14 = .ok (.aload_n 0, 1) := by decide +kernel
theorem dX5_keep_15 : decode cX5_keep 15 = .ok (.getfield 20, 3) := by decide +kernel
theorem dX5_keep_18 : decode cX5_keep 18 = .ok (.iconst 1, 1) := by decide +kernel
theorem dX5_keep_19 : decode cX5_keep 19 = .ok (.iadd, 1) := by decide +kernel
theorem dX5_keep_20 : decode cX5_keep 20 = .ok (.bipush 20, 2) := by decide +kernel
theorem dX5_keep_22 : decode cX5_keep 22 = .ok (.if_icmp .ge 12, 3) := by decide +kernel
theorem dX5_keep_34 : decode cX5_keep 34 = .ok (.iconst 0, 1) := by decide +kernel
theorem dX5_keep_35 : decode cX5_keep 35 = .ok (.putfield 20, 3) := by decide +kernel
theorem dX5_keep_38 : decode cX5_keep 38 = .ok (.aload_n 0, 1) := by decide +kernel
theorem dX5_keep_39 : decode cX5_keep 39 = .ok (.bipush 20, 2) := by decide +kernel
theorem dX5_keep_41 : decode cX5_keep 41 = .ok (.aload_n 0, 1) := by decide +kernel
theorem dX5_keep_42 : decode cX5_keep 42 = .ok (.getfield 16, 3) := by decide +kernel
theorem dX5_keep_45 : decode cX5_keep 45 = .ok (.iconst 1, 1) := by decide +kernel
theorem dX5_keep_46 : decode cX5_keep 46 = .ok (.iadd, 1) := by decide +kernel
theorem dX5_keep_47 : decode cX5_keep 47 = .ok (.invokestatic 27, 3) := by decide +kernel
theorem dX5_keep_50 : decode cX5_keep 50 = .ok (.putfield 16, 3) := by decide +kernel
theorem dX5_keep_53 : decode cX5_keep 53 = .ok (.return_, 1) := by decide +kernel
theorem dX5_keep_25 : decode cX5_keep 25 = .ok (.aload_n 0, 1) := by decide +kernel
theorem dX5_keep_26 : decode cX5_keep 26 = .ok (.getfield 20, 3) := by decide +kernel
theorem dX5_keep_29 : decode cX5_keep 29 = .ok (.iconst 1, 1) := by decide +kernel
theorem dX5_keep_30 : decode cX5_keep 30 = .ok (.iadd, 1) := by decide +kernel
theorem dX5_keep_31 : decode cX5_keep 31 = .ok (.goto 4, 3) := by decide +kernel
theorem dX5_restore_0 : decode cX5_restore 0 = .ok (.aload_n 0, 1) := by decide +kernel
theorem dX5_restore_1 : decode cX5_restore 1 = .ok (.getfield 16, 3) := by decide +kernel
theorem dX5_restore_4 : decode cX5_restore 4 = .ok (.ifCond .ne 5, 3) := by decide +kernel
theorem dX5_restore_9 : decode cX5_restore 9 = .ok (.aload_n 0, 1) := by decide +kernel
theorem dX5_restore_10 : decode cX5_restore 10 = .ok (.aload_n 0, 1) := by decide +kernel
theorem dX5_restore_11 : decode cX5_restore 11 = .ok (.getfield 20, 3) := by decide +kernel
theorem dX5_restore_14 : decode cX5_restore 14 = .ok (.ifCond .le 12, 3) := by decide +kernel
theorem dX5_restore_26 : decode cX5_restore 26 = .ok (.bipush 19, 2) := by decide +kernel
theorem dX5_restore_28 : decode cX5_restore 28 = .ok (.putfield 20, 3) := by decide +kernel
theorem dX5_restore_31 : decode cX5_restore 31 = .ok (.aload_n 0, 1) := by decide +kernel
theorem dX5_restore_32 : decode cX5_restore 32 = .ok (.dup, 1) := by decide +kernel
theorem dX5_restore_33 : decode cX5_restore 33 = .ok (.getfield 16, 3) := by decide +kernel
theorem dX5_restore_36 : decode cX5_restore 36 = .ok (.iconst 1, 1) := by decide +kernel
theorem dX5_restore_37 : decode cX5_restore 37 = .ok (.isub, 1) := by decide +kernel
theorem dX5_restore_38 : decode cX5_restore 38 = .ok (.putfield 16, 3) := by decide +kernel
theorem dX5_restore_41 : decode cX5_restore 41 = .ok (.aload_n 1, 1) := by decide +kernel
theorem dX5_restore_42 : decode cX5_restore 42 = .ok (.aload_n 0, 1) := by decide +kernel
theorem dX5_restore_43 : decode cX5_restore 43 = .ok (.getfield 11, 3) := by decide +kernel
theorem dX5_restore_46 : decode cX5_restore 46 = .ok (.aload_n 0, 1) := by decide +kernel
theorem dX5_restore_47 : decode cX5_restore 47 = .ok (.getfield 20, 3) := by decide +kernel
theorem dX5_restore_50 : decode cX5_restore 50 = .ok (.aaload, 1) := by decide +kernel
theorem dX5_restore_51 : decode cX5_restore 51 = .ok (.invokevirtual 23, 3) := by decide +kernel
theorem dX5_restore_54 : decode cX5_restore 54 = .ok (.iconst 1, 1) := by decide +kernel
theorem dX5_restore_55 : decode cX5_restore 55 = .ok (.ireturn, 1) := by decide +kernel
theorem dX5_restore_17 : decode cX5_restore 17 = .ok (.aload_n 0, 1) := by decide +kernel
theorem dX5_restore_18 : decode cX5_restore 18 = .ok (.getfield 20, 3) := by decide +kernel
theorem dX5_restore_21 : decode cX5_restore 21 = .ok (.iconst 1, 1) := by decide +kernel
theorem dX5_restore_22 : decode cX5_restore 22 = .ok (.isub, 1) := by decide +kernel
theorem dX5_restore_23 : decode cX5_restore 23 = .ok (.goto 5, 3) := by decide +kernel
theorem dX5_restore_7 : decode cX5_restore 7 = .ok (.iconst 0, 1) := by decide +kernel
theorem dX5_restore_8 : decode cX5_restore 8 = .ok (.ireturn, 1) := by decide +kernel
theorem dX2_forget_0 : decode cX2_forget 0 = .ok (.aload_n 0, 1) := by decide +kernel
theorem dX2_forget_1 : decode cX2_forget 1 = .ok (.iconst 0, 1) := by decide +kernel
theorem dX2_forget_2 : decode cX2_forget 2 = .ok (.putfield 25, 3) := by decide +kernel
theorem dX2_forget_5 : decode cX2_forget 5 = .ok (.return_, 1) := by decide +kernel
theorem dX0_stockUp_0 : decode cX0_stockUp 0 = .ok (.iconst 0, 1) := by decide +kernel
theorem dX0_stockUp_1 : decode cX0_stockUp 1 = .ok (.istore_n 3, 1) := by decide +kernel
theorem dX0_stockUp_2 : decode cX0_stockUp 2 = .ok (.iload_n 3, 1) := by decide +kernel
theorem dX0_stockUp_3 : decode cX0_stockUp 3 = .ok (.iconst 5, 1) := by decide +kernel
theorem dX0_stockUp_4 : decode cX0_stockUp 4 = .ok (.if_icmp .ge 25, 3) := by decide +kernel
theorem dX0_stockUp_29 : decode cX0_stockUp 29 = .ok (.return_, 1) := by decide +kernel
theorem dX0_stockUp_7 : decode cX0_stockUp 7 = .ok (.aload_n 0, 1) := by decide +kernel
theorem dX0_stockUp_8 : decode cX0_stockUp 8 = .ok (.getfield 9, 3) := by decide +kernel
theorem dX0_stockUp_11 : decode cX0_stockUp 11 = .ok (.iload_n 3, 1) := by decide +kernel
theorem dX0_stockUp_12 : decode cX0_stockUp 12 = .ok (.aload_n 1, 1) := by decide +kernel
theorem dX0_stockUp_13 : decode cX0_stockUp 13 = .ok (.getfield 24, 3) := by decide +kernel
theorem dX0_stockUp_16 : decode cX0_stockUp 16 = .ok (.iload_n 2, 1) := by decide +kernel
theorem dX0_stockUp_17 : decode cX0_stockUp 17 = .ok (.iconst 5, 1) := by decide +kernel
theorem dX0_stockUp_18 : decode cX0_stockUp 18 = .ok (.imul, 1) := by decide +kernel
theorem dX0_stockUp_19 : decode cX0_stockUp 19 = .ok (.iload_n 3, 1) := by decide +kernel
theorem dX0_stockUp_20 : decode cX0_stockUp 20 = .ok (.iadd, 1) := by decide +kernel
theorem dX0_stockUp_21 : decode cX0_stockUp 21 = .ok (.iaload, 1) := by decide +kernel
theorem dX0_stockUp_22 : decode cX0_stockUp 22 = .ok (.iastore, 1) := by decide +kernel
theorem dX0_stockUp_23 : decode cX0_stockUp 23 = .ok (.iinc 3 1, 3) := by decide +kernel
theorem dX0_stockUp_26 : decode cX0_stockUp 26 = .ok (.goto (-24), 3) := by decide +kernel
theorem dX0_clearNeed_0 : decode cX0_clearNeed 0 = .ok (.iconst 0, 1) := by decide +kernel
theorem dX0_clearNeed_1 : decode cX0_clearNeed 1 = .ok (.istore_n 1, 1) := by decide +kernel
theorem dX0_clearNeed_2 : decode cX0_clearNeed 2 = .ok (.iload_n 1, 1) := by decide +kernel
theorem dX0_clearNeed_3 : decode cX0_clearNeed 3 = .ok (.iconst 5, 1) := by decide +kernel
theorem dX0_clearNeed_4 : decode cX0_clearNeed 4 = .ok (.if_icmp .ge 16, 3) := by decide +kernel
theorem dX0_clearNeed_20 : decode cX0_clearNeed 20 = .ok (.return_, 1) := by decide +kernel
theorem dX0_clearNeed_7 : decode cX0_clearNeed 7 = .ok (.aload_n 0, 1) := by decide +kernel
theorem dX0_clearNeed_8 : decode cX0_clearNeed 8 = .ok (.getfield 15, 3) := by decide +kernel
theorem dX0_clearNeed_11 : decode cX0_clearNeed 11 = .ok (.iload_n 1, 1) := by decide +kernel
theorem dX0_clearNeed_12 : decode cX0_clearNeed 12 = .ok (.iconst 0, 1) := by decide +kernel
theorem dX0_clearNeed_13 : decode cX0_clearNeed 13 = .ok (.iastore, 1) := by decide +kernel
theorem dX0_clearNeed_14 : decode cX0_clearNeed 14 = .ok (.iinc 1 1, 3) := by decide +kernel
theorem dX0_clearNeed_17 : decode cX0_clearNeed 17 = .ok (.goto (-15), 3) := by decide +kernel
theorem dX0_lessenNeed_0 : decode cX0_lessenNeed 0 = .ok (.iconst 0, 1) := by decide +kernel
theorem dX0_lessenNeed_1 : decode cX0_lessenNeed 1 = .ok (.istore_n 3, 1) := by decide +kernel
theorem dX0_lessenNeed_2 : decode cX0_lessenNeed 2 = .ok (.iload_n 3, 1) := by decide +kernel
theorem dX0_lessenNeed_3 : decode cX0_lessenNeed 3 = .ok (.iconst 5, 1) := by decide +kernel
theorem dX0_lessenNeed_4 : decode cX0_lessenNeed 4 = .ok (.if_icmp .ge 36, 3) := by decide +kernel
theorem dX0_lessenNeed_40 : decode cX0_lessenNeed 40 = .ok (.return_, 1) := by decide +kernel
theorem dX0_lessenNeed_7 : decode cX0_lessenNeed 7 = .ok (.aload_n 0, 1) := by decide +kernel
theorem dX0_lessenNeed_8 : decode cX0_lessenNeed 8 = .ok (.getfield 15, 3) := by decide +kernel
theorem dX0_lessenNeed_11 : decode cX0_lessenNeed 11 = .ok (.iload_n 3, 1) := by decide +kernel
theorem dX0_lessenNeed_12 : decode cX0_lessenNeed 12 = .ok (.iconst 0, 1) := by decide +kernel
theorem dX0_lessenNeed_13 : decode cX0_lessenNeed 13 = .ok (.aload_n 0, 1) := by decide +kernel
theorem dX0_lessenNeed_14 : decode cX0_lessenNeed 14 = .ok (.getfield 15, 3) := by decide +kernel
theorem dX0_lessenNeed_17 : decode cX0_lessenNeed 17 = .ok (.iload_n 3, 1) := by decide +kernel
theorem dX0_lessenNeed_18 : decode cX0_lessenNeed 18 = .ok (.iaload, 1) := by decide +kernel
theorem dX0_lessenNeed_19 : decode cX0_lessenNeed 19 = .ok (.aload_n 1, 1) := by decide +kernel
theorem dX0_lessenNeed_20 : decode cX0_lessenNeed 20 = .ok (.getfield 24, 3) := by decide +kernel
theorem dX0_lessenNeed_23 : decode cX0_lessenNeed 23 = .ok (.iload_n 2, 1) := by decide +kernel
theorem dX0_lessenNeed_24 : decode cX0_lessenNeed 24 = .ok (.iconst 5, 1) := by decide +kernel
theorem dX0_lessenNeed_25 : decode cX0_lessenNeed 25 = .ok (.imul, 1) := by decide +kernel
theorem dX0_lessenNeed_26 : decode cX0_lessenNeed 26 = .ok (.iload_n 3, 1) := by decide +kernel
theorem dX0_lessenNeed_27 : decode cX0_lessenNeed 27 = .ok (.iadd, 1) := by decide +kernel
theorem dX0_lessenNeed_28 : decode cX0_lessenNeed 28 = .ok (.iaload, 1) := by decide +kernel
theorem dX0_lessenNeed_29 : decode cX0_lessenNeed 29 = .ok (.isub, 1) := by decide +kernel
theorem dX0_lessenNeed_30 : decode cX0_lessenNeed 30 = .ok (.invokestatic 61, 3) := by decide +kernel
theorem dX0_lessenNeed_33 : decode cX0_lessenNeed 33 = .ok (.iastore, 1) := by decide +kernel
theorem dX0_lessenNeed_34 : decode cX0_lessenNeed 34 = .ok (.iinc 3 1, 3) := by decide +kernel
theorem dX0_lessenNeed_37 : decode cX0_lessenNeed 37 = .ok (.goto (-35), 3) := by decide +kernel
theorem dX0_priceOfNeed_0 : decode cX0_priceOfNeed 0 = .ok (.iconst 0, 1) := by decide +kernel
theorem dX0_priceOfNeed_1 : decode cX0_priceOfNeed 1 = .ok (.istore_n 2, 1) := by decide +kernel
theorem dX0_priceOfNeed_2 : decode cX0_priceOfNeed 2 = .ok (.iconst 0, 1) := by decide +kernel
theorem dX0_priceOfNeed_3 : decode cX0_priceOfNeed 3 = .ok (.istore_n 3, 1) := by decide +kernel
theorem dX0_priceOfNeed_4 : decode cX0_priceOfNeed 4 = .ok (.iload_n 3, 1) := by decide +kernel
theorem dX0_priceOfNeed_5 : decode cX0_priceOfNeed 5 = .ok (.aload_n 1, 1) := by decide +kernel
theorem dX0_priceOfNeed_6 : decode cX0_priceOfNeed 6 = .ok (.getfield 66, 3) := by decide +kernel
theorem dX0_priceOfNeed_9 : decode cX0_priceOfNeed 9 = .ok (.if_icmp .ge 25, 3) := by decide +kernel
theorem dX0_priceOfNeed_34 : decode cX0_priceOfNeed 34 = .ok (.iload_n 2, 1) := by decide +kernel
theorem dX0_priceOfNeed_35 : decode cX0_priceOfNeed 35 = .ok (.ireturn, 1) := by decide +kernel
theorem dX0_priceOfNeed_12 : decode cX0_priceOfNeed 12 = .ok (.iload_n 2, 1) := by decide +kernel
theorem dX0_priceOfNeed_13 : decode cX0_priceOfNeed 13 = .ok (.aload_n 0, 1) := by decide +kernel
theorem dX0_priceOfNeed_14 : decode cX0_priceOfNeed 14 = .ok (.getfield 15, 3) := by decide +kernel
theorem dX0_priceOfNeed_17 : decode cX0_priceOfNeed 17 = .ok (.iload_n 3, 1) := by decide +kernel
theorem dX0_priceOfNeed_18 : decode cX0_priceOfNeed 18 = .ok (.iaload, 1) := by decide +kernel
theorem dX0_priceOfNeed_19 : decode cX0_priceOfNeed 19 = .ok (.aload_n 1, 1) := by decide +kernel
theorem dX0_priceOfNeed_20 : decode cX0_priceOfNeed 20 = .ok (.getfield 69, 3) := by decide +kernel
theorem dX0_priceOfNeed_23 : decode cX0_priceOfNeed 23 = .ok (.iload_n 3, 1) := by decide +kernel
theorem dX0_priceOfNeed_24 : decode cX0_priceOfNeed 24 = .ok (.iaload, 1) := by decide +kernel
theorem dX0_priceOfNeed_25 : decode cX0_priceOfNeed 25 = .ok (.imul, 1) := by decide +kernel
theorem dX0_priceOfNeed_26 : decode cX0_priceOfNeed 26 = .ok (.iadd, 1) := by decide +kernel
theorem dX0_priceOfNeed_27 : decode cX0_priceOfNeed 27 = .ok (.istore_n 2, 1) := by decide +kernel
theorem dX0_priceOfNeed_28 : decode cX0_priceOfNeed 28 = .ok (.iinc 3 1, 3) := by decide +kernel
theorem dX0_priceOfNeed_31 : decode cX0_priceOfNeed 31 = .ok (.goto (-27), 3) := by decide +kernel
theorem dX0_reached_0 : decode cX0_reached 0 = .ok (.aload_n 0, 1) := by decide +kernel
theorem dX0_reached_1 : decode cX0_reached 1 = .ok (.aload_n 2, 1) := by decide +kernel
theorem dX0_reached_2 : decode cX0_reached 2 = .ok (.iload_n 3, 1) := by decide +kernel
theorem dX0_reached_3 : decode cX0_reached 3 = .ok (.invokevirtual 29, 3) := by decide +kernel
theorem dX0_reached_6 : decode cX0_reached 6 = .ok (.aload_n 2, 1) := by decide +kernel
theorem dX0_reached_7 : decode cX0_reached 7 = .ok (.getfield 33, 3) := by decide +kernel
theorem dX0_reached_10 : decode cX0_reached 10 = .ok (.iload_n 3, 1) := by decide +kernel
theorem dX0_reached_11 : decode cX0_reached 11 = .ok (.iaload, 1) := by decide +kernel
theorem dX0_reached_12 : decode cX0_reached 12 = .ok (.istore 4, 2) := by decide +kernel
theorem dX0_reached_14 : decode cX0_reached 14 = .ok (.iload 4, 2) := by decide +kernel
theorem dX0_reached_16 : decode cX0_reached 16 = .ok (.aload_n 1, 1) := by decide +kernel
theorem dX0_reached_17 : decode cX0_reached 17 = .ok (.getfield 36, 3) := by decide +kernel
theorem dX0_reached_20 : decode cX0_reached 20 = .ok (.if_icmp .ge 46, 3) := by decide +kernel
theorem dX0_reached_66 : decode cX0_reached 66 = .ok (.iload 4, 2) := by decide +kernel
theorem dX0_reached_68 : decode cX0_reached 68 = .ok (.ireturn, 1) := by decide +kernel
theorem dX0_reached_23 : decode cX0_reached 23 = .ok (.aload_n 0, 1) := by decide +kernel
theorem dX0_reached_24 : decode cX0_reached 24 = .ok (.getfield 9, 3) := by decide +kernel
theorem dX0_reached_27 : decode cX0_reached 27 = .ok (.aload_n 1, 1) := by decide +kernel
theorem dX0_reached_28 : decode cX0_reached 28 = .ok (.iload 4, 2) := by decide +kernel
theorem dX0_reached_30 : decode cX0_reached 30 = .ok (.aload_n 2, 1) := by decide +kernel
theorem dX0_reached_31 : decode cX0_reached 31 = .ok (.getfield 42, 3) := by decide +kernel
theorem dX0_reached_34 : decode cX0_reached 34 = .ok (.invokevirtual 45, 3) := by decide +kernel
theorem dX0_reached_37 : decode cX0_reached 37 = .ok (.iaload, 1) := by decide +kernel
theorem dX0_reached_38 : decode cX0_reached 38 = .ok (.ifCond .le 28, 3) := by decide +kernel
theorem dX0_reached_41 : decode cX0_reached 41 = .ok (.aload_n 0, 1) := by decide +kernel
theorem dX0_reached_42 : decode cX0_reached 42 = .ok (.getfield 9, 3) := by decide +kernel
theorem dX0_reached_45 : decode cX0_reached 45 = .ok (.aload_n 1, 1) := by decide +kernel
theorem dX0_reached_46 : decode cX0_reached 46 = .ok (.iload 4, 2) := by decide +kernel
theorem dX0_reached_48 : decode cX0_reached 48 = .ok (.aload_n 2, 1) := by decide +kernel
theorem dX0_reached_49 : decode cX0_reached 49 = .ok (.getfield 42, 3) := by decide +kernel
theorem dX0_reached_52 : decode cX0_reached 52 = .ok (.invokevirtual 45, 3) := by decide +kernel
theorem dX0_reached_55 : decode cX0_reached 55 = .ok (.dup2, 1) := by decide +kernel
theorem dX0_reached_56 : decode cX0_reached 56 = .ok (.iaload, 1) := by decide +kernel
theorem dX0_reached_57 : decode cX0_reached 57 = .ok (.iconst 1, 1) := by decide +kernel
theorem dX0_reached_58 : decode cX0_reached 58 = .ok (.isub, 1) := by decide +kernel
theorem dX0_reached_59 : decode cX0_reached 59 = .ok (.iastore, 1) := by decide +kernel
theorem dX0_reached_60 : decode cX0_reached 60 = .ok (.iinc 4 1, 3) := by decide +kernel
theorem dX0_reached_63 : decode cX0_reached 63 = .ok (.goto (-49), 3) := by decide +kernel
theorem dX0_lackNow_0 : decode cX0_lackNow 0 = .ok (.aload_n 0, 1) := by decide +kernel
theorem dX0_lackNow_1 : decode cX0_lackNow 1 = .ok (.invokevirtual 49, 3) := by decide +kernel
theorem dX0_lackNow_4 : decode cX0_lackNow 4 = .ok (.aload_n 2, 1) := by decide +kernel
theorem dX0_lackNow_5 : decode cX0_lackNow 5 = .ok (.getfield 33, 3) := by decide +kernel
theorem dX0_lackNow_8 : decode cX0_lackNow 8 = .ok (.iload_n 3, 1) := by decide +kernel
theorem dX0_lackNow_9 : decode cX0_lackNow 9 = .ok (.iaload, 1) := by decide +kernel
theorem dX0_lackNow_10 : decode cX0_lackNow 10 = .ok (.istore 4, 2) := by decide +kernel
theorem dX0_lackNow_12 : decode cX0_lackNow 12 = .ok (.iload 4, 2) := by decide +kernel
theorem dX0_lackNow_14 : decode cX0_lackNow 14 = .ok (.aload_n 1, 1) := by decide +kernel
theorem dX0_lackNow_15 : decode cX0_lackNow 15 = .ok (.getfield 36, 3) := by decide +kernel
theorem dX0_lackNow_18 : decode cX0_lackNow 18 = .ok (.if_icmp .ge 28, 3) := by decide +kernel
theorem dX0_lackNow_46 : decode cX0_lackNow 46 = .ok (.aload_n 0, 1) := by decide +kernel
theorem dX0_lackNow_47 : decode cX0_lackNow 47 = .ok (.aload_n 2, 1) := by decide +kernel
theorem dX0_lackNow_48 : decode cX0_lackNow 48 = .ok (.iload_n 3, 1) := by decide +kernel
theorem dX0_lackNow_49 : decode cX0_lackNow 49 = .ok (.invokevirtual 52, 3) := by decide +kernel
theorem dX0_lackNow_52 : decode cX0_lackNow 52 = .ok (.return_, 1) := by decide +kernel
theorem dX0_lackNow_21 : decode cX0_lackNow 21 = .ok (.aload_n 0, 1) := by decide +kernel
theorem dX0_lackNow_22 : decode cX0_lackNow 22 = .ok (.getfield 15, 3) := by decide +kernel
theorem dX0_lackNow_25 : decode cX0_lackNow 25 = .ok (.aload_n 1, 1) := by decide +kernel
theorem dX0_lackNow_26 : decode cX0_lackNow 26 = .ok (.iload 4, 2) := by decide +kernel
theorem dX0_lackNow_28 : decode cX0_lackNow 28 = .ok (.aload_n 2, 1) := by decide +kernel
theorem dX0_lackNow_29 : decode cX0_lackNow 29 = .ok (.getfield 42, 3) := by decide +kernel
theorem dX0_lackNow_32 : decode cX0_lackNow 32 = .ok (.invokevirtual 45, 3) := by decide +kernel
theorem dX0_lackNow_35 : decode cX0_lackNow 35 = .ok (.dup2, 1) := by decide +kernel
theorem dX0_lackNow_36 : decode cX0_lackNow 36 = .ok (.iaload, 1) := by decide +kernel
theorem dX0_lackNow_37 : decode cX0_lackNow 37 = .ok (.iconst 1, 1) := by decide +kernel
theorem dX0_lackNow_38 : decode cX0_lackNow 38 = .ok (.iadd, 1) := by decide +kernel
theorem dX0_lackNow_39 : decode cX0_lackNow 39 = .ok (.iastore, 1) := by decide +kernel
theorem dX0_lackNow_40 : decode cX0_lackNow 40 = .ok (.iinc 4 1, 3) := by decide +kernel
theorem dX0_lackNow_43 : decode cX0_lackNow 43 = .ok (.goto (-31), 3) := by decide +kernel
theorem dX0_lackEver_0 : decode cX0_lackEver 0 = .ok (.aload_n 0, 1) := by decide +kernel
theorem dX0_lackEver_1 : decode cX0_lackEver 1 = .ok (.invokevirtual 49, 3) := by decide +kernel
theorem dX0_lackEver_4 : decode cX0_lackEver 4 = .ok (.aload_n 2, 1) := by decide +kernel
theorem dX0_lackEver_5 : decode cX0_lackEver 5 = .ok (.getfield 33, 3) := by decide +kernel
theorem dX0_lackEver_8 : decode cX0_lackEver 8 = .ok (.iload_n 3, 1) := by decide +kernel
theorem dX0_lackEver_9 : decode cX0_lackEver 9 = .ok (.iaload, 1) := by decide +kernel
theorem dX0_lackEver_10 : decode cX0_lackEver 10 = .ok (.istore 4, 2) := by decide +kernel
theorem dX0_lackEver_12 : decode cX0_lackEver 12 = .ok (.iload 4, 2) := by decide +kernel
theorem dX0_lackEver_14 : decode cX0_lackEver 14 = .ok (.aload_n 1, 1) := by decide +kernel
theorem dX0_lackEver_15 : decode cX0_lackEver 15 = .ok (.getfield 36, 3) := by decide +kernel
theorem dX0_lackEver_18 : decode cX0_lackEver 18 = .ok (.if_icmp .ge 58, 3) := by decide +kernel
theorem dX0_lackEver_76 : decode cX0_lackEver 76 = .ok (.aload_n 0, 1) := by decide +kernel
theorem dX0_lackEver_77 : decode cX0_lackEver 77 = .ok (.aload_n 2, 1) := by decide +kernel
theorem dX0_lackEver_78 : decode cX0_lackEver 78 = .ok (.iload_n 3, 1) := by decide +kernel
theorem dX0_lackEver_79 : decode cX0_lackEver 79 = .ok (.invokevirtual 52, 3) := by decide +kernel
theorem dX0_lackEver_82 : decode cX0_lackEver 82 = .ok (.return_, 1) := by decide +kernel
theorem dX0_lackEver_21 : decode cX0_lackEver 21 = .ok (.aload_n 0, 1) := by decide +kernel
theorem dX0_lackEver_22 : decode cX0_lackEver 22 = .ok (.getfield 15, 3) := by decide +kernel
theorem dX0_lackEver_25 : decode cX0_lackEver 25 = .ok (.aload_n 1, 1) := by decide +kernel
theorem dX0_lackEver_26 : decode cX0_lackEver 26 = .ok (.getfield 55, 3) := by decide +kernel
theorem dX0_lackEver_29 : decode cX0_lackEver 29 = .ok (.iload 4, 2) := by decide +kernel
theorem dX0_lackEver_31 : decode cX0_lackEver 31 = .ok (.iaload, 1) := by decide +kernel
theorem dX0_lackEver_32 : decode cX0_lackEver 32 = .ok (.dup2, 1) := by decide +kernel
theorem dX0_lackEver_33 : decode cX0_lackEver 33 = .ok (.iaload, 1) := by decide +kernel
theorem dX0_lackEver_34 : decode cX0_lackEver 34 = .ok (.iconst 1, 1) := by decide +kernel
theorem dX0_lackEver_35 : decode cX0_lackEver 35 = .ok (.iadd, 1) := by decide +kernel
theorem dX0_lackEver_36 : decode cX0_lackEver 36 = .ok (.iastore, 1) := by decide +kernel
theorem dX0_lackEver_37 : decode cX0_lackEver 37 = .ok (.aload_n 1, 1) := by decide +kernel
theorem dX0_lackEver_38 : decode cX0_lackEver 38 = .ok (.getfield 58, 3) := by decide +kernel
theorem dX0_lackEver_41 : decode cX0_lackEver 41 = .ok (.iload 4, 2) := by decide +kernel
theorem dX0_lackEver_43 : decode cX0_lackEver 43 = .ok (.iaload, 1) := by decide +kernel
theorem dX0_lackEver_44 : decode cX0_lackEver 44 = .ok (.aload_n 1, 1) := by decide +kernel
theorem dX0_lackEver_45 : decode cX0_lackEver 45 = .ok (.getfield 55, 3) := by decide +kernel
theorem dX0_lackEver_48 : decode cX0_lackEver 48 = .ok (.iload 4, 2) := by decide +kernel
theorem dX0_lackEver_50 : decode cX0_lackEver 50 = .ok (.iaload, 1) := by decide +kernel
theorem dX0_lackEver_51 : decode cX0_lackEver 51 = .ok (.if_icmp .eq 19, 3) := by decide +kernel
theorem dX0_lackEver_70 : decode cX0_lackEver 70 = .ok (.iinc 4 1, 3) := by decide +kernel
theorem dX0_lackEver_73 : decode cX0_lackEver 73 = .ok (.goto (-61), 3) := by decide +kernel
theorem dX0_lackEver_54 : decode cX0_lackEver 54 = .ok (.aload_n 0, 1) := by decide +kernel
theorem dX0_lackEver_55 : decode cX0_lackEver 55 = .ok (.getfield 15, 3) := by decide +kernel
theorem dX0_lackEver_58 : decode cX0_lackEver 58 = .ok (.aload_n 1, 1) := by decide +kernel
theorem dX0_lackEver_59 : decode cX0_lackEver 59 = .ok (.getfield 58, 3) := by decide +kernel
theorem dX0_lackEver_62 : decode cX0_lackEver 62 = .ok (.iload 4, 2) := by decide +kernel
theorem dX0_lackEver_64 : decode cX0_lackEver 64 = .ok (.iaload, 1) := by decide +kernel
theorem dX0_lackEver_65 : decode cX0_lackEver 65 = .ok (.dup2, 1) := by decide +kernel
theorem dX0_lackEver_66 : decode cX0_lackEver 66 = .ok (.iaload, 1) := by decide +kernel
theorem dX0_lackEver_67 : decode cX0_lackEver 67 = .ok (.iconst 1, 1) := by decide +kernel
theorem dX0_lackEver_68 : decode cX0_lackEver 68 = .ok (.iadd, 1) := by decide +kernel
theorem dX0_lackEver_69 : decode cX0_lackEver 69 = .ok (.iastore, 1) := by decide +kernel
theorem dX1_mostOf_0 : decode cX1_mostOf 0 = .ok (.iconst 0, 1) := by decide +kernel
theorem dX1_mostOf_1 : decode cX1_mostOf 1 = .ok (.istore_n 3, 1) := by decide +kernel
theorem dX1_mostOf_2 : decode cX1_mostOf 2 = .ok (.iconst 0, 1) := by decide +kernel
theorem dX1_mostOf_3 : decode cX1_mostOf 3 = .ok (.istore 4, 2) := by decide +kernel
theorem dX1_mostOf_5 : decode cX1_mostOf 5 = .ok (.iload 4, 2) := by decide +kernel
theorem dX1_mostOf_7 : decode cX1_mostOf 7 = .ok (.aload_n 0, 1) := by decide +kernel
theorem dX1_mostOf_8 : decode cX1_mostOf 8 = .ok (.getfield 68, 3) := by decide +kernel
theorem dX1_mostOf_11 : decode cX1_mostOf 11 = .ok (.iload_n 1, 1) := by decide +kernel
theorem dX1_mostOf_12 : decode cX1_mostOf 12 = .ok (.iaload, 1) := by decide +kernel
theorem dX1_mostOf_13 : decode cX1_mostOf 13 = .ok (.if_icmp .ge 23, 3) := by decide +kernel
theorem dX1_mostOf_36 : decode cX1_mostOf 36 = .ok (.iload_n 3, 1) := by decide +kernel
theorem dX1_mostOf_37 : decode cX1_mostOf 37 = .ok (.bipush 9, 2) := by decide +kernel
theorem dX1_mostOf_39 : decode cX1_mostOf 39 = .ok (.aload_n 0, 1) := by decide +kernel
theorem dX1_mostOf_40 : decode cX1_mostOf 40 = .ok (.getfield 74, 3) := by decide +kernel
theorem dX1_mostOf_43 : decode cX1_mostOf 43 = .ok (.iload_n 1, 1) := by decide +kernel
theorem dX1_mostOf_44 : decode cX1_mostOf 44 = .ok (.iconst 5, 1) := by decide +kernel
theorem dX1_mostOf_45 : decode cX1_mostOf 45 = .ok (.imul, 1) := by decide +kernel
theorem dX1_mostOf_46 : decode cX1_mostOf 46 = .ok (.iload_n 2, 1) := by decide +kernel
theorem dX1_mostOf_47 : decode cX1_mostOf 47 = .ok (.iadd, 1) := by decide +kernel
theorem dX1_mostOf_48 : decode cX1_mostOf 48 = .ok (.iaload, 1) := by decide +kernel
theorem dX1_mostOf_49 : decode cX1_mostOf 49 = .ok (.isub, 1) := by decide +kernel
theorem dX1_mostOf_50 : decode cX1_mostOf 50 = .ok (.invokestatic 77, 3) := by decide +kernel
theorem dX1_mostOf_53 : decode cX1_mostOf 53 = .ok (.ireturn, 1) := by decide +kernel
theorem dX1_mostOf_16 : decode cX1_mostOf 16 = .ok (.iload_n 3, 1) := by decide +kernel
theorem dX1_mostOf_17 : decode cX1_mostOf 17 = .ok (.aload_n 0, 1) := by decide +kernel
theorem dX1_mostOf_18 : decode cX1_mostOf 18 = .ok (.getfield 71, 3) := by decide +kernel
theorem dX1_mostOf_21 : decode cX1_mostOf 21 = .ok (.iload 4, 2) := by decide +kernel
theorem dX1_mostOf_23 : decode cX1_mostOf 23 = .ok (.iconst 5, 1) := by decide +kernel
theorem dX1_mostOf_24 : decode cX1_mostOf 24 = .ok (.imul, 1) := by decide +kernel
theorem dX1_mostOf_25 : decode cX1_mostOf 25 = .ok (.iload_n 2, 1) := by decide +kernel
theorem dX1_mostOf_26 : decode cX1_mostOf 26 = .ok (.iadd, 1) := by decide +kernel
theorem dX1_mostOf_27 : decode cX1_mostOf 27 = .ok (.iaload, 1) := by decide +kernel
theorem dX1_mostOf_28 : decode cX1_mostOf 28 = .ok (.iadd, 1) := by decide +kernel
theorem dX1_mostOf_29 : decode cX1_mostOf 29 = .ok (.istore_n 3, 1) := by decide +kernel
theorem dX1_mostOf_30 : decode cX1_mostOf 30 = .ok (.iinc 4 1, 3) := by decide +kernel
theorem dX1_mostOf_33 : decode cX1_mostOf 33 = .ok (.goto (-28), 3) := by decide +kernel
theorem dX1_mostGainFrom_0 : decode cX1_mostGainFrom 0 = .ok (.iconst 0, 1) := by decide +kernel
theorem dX1_mostGainFrom_1 : decode cX1_mostGainFrom 1 = .ok (.istore_n 3, 1) := by decide +kernel
theorem dX1_mostGainFrom_2 : decode cX1_mostGainFrom 2 = .ok (.iload_n 2, 1) := by decide +kernel
theorem dX1_mostGainFrom_3 : decode cX1_mostGainFrom 3 = .ok (.istore 4, 2) := by decide +kernel
theorem dX1_mostGainFrom_5 : decode cX1_mostGainFrom 5 = .ok (.iload 4, 2) := by decide +kernel
theorem dX1_mostGainFrom_7 : decode cX1_mostGainFrom 7 = .ok (.aload_n 1, 1) := by decide +kernel
theorem dX1_mostGainFrom_8 : decode cX1_mostGainFrom 8 = .ok (.getfield 33, 3) := by decide +kernel
theorem dX1_mostGainFrom_11 : decode cX1_mostGainFrom 11 = .ok (.if_icmp .ge 31, 3) := by decide +kernel
theorem dX1_mostGainFrom_42 : decode cX1_mostGainFrom 42 = .ok (.iload_n 3, 1) := by decide +kernel
theorem dX1_mostGainFrom_43 : decode cX1_mostGainFrom 43 = .ok (.ireturn, 1) := by decide +kernel
theorem dX1_mostGainFrom_14 : decode cX1_mostGainFrom 14 = .ok (.aload_n 0, 1) := by decide +kernel
theorem dX1_mostGainFrom_15 : decode cX1_mostGainFrom 15 = .ok (.getfield 9, 3) := by decide +kernel
theorem dX1_mostGainFrom_18 : decode cX1_mostGainFrom 18 = .ok (.iload 4, 2) := by decide +kernel
theorem dX1_mostGainFrom_20 : decode cX1_mostGainFrom 20 = .ok (.iaload, 1) := by decide +kernel
theorem dX1_mostGainFrom_21 : decode cX1_mostGainFrom 21 = .ok (.ifCond .le 15, 3) := by decide +kernel
theorem dX1_mostGainFrom_36 : decode cX1_mostGainFrom 36 = .ok (.iinc 4 1, 3) := by decide +kernel
theorem dX1_mostGainFrom_39 : decode cX1_mostGainFrom 39 = .ok (.goto (-34), 3) := by decide +kernel
theorem dX1_mostGainFrom_24 : decode cX1_mostGainFrom 24 = .ok (.iload_n 3, 1) := by decide +kernel
theorem dX1_mostGainFrom_25 : decode cX1_mostGainFrom 25 = .ok (.aload_n 0, 1) := by decide +kernel
theorem dX1_mostGainFrom_26 : decode cX1_mostGainFrom 26 = .ok (.getfield 15, 3) := by decide +kernel
theorem dX1_mostGainFrom_29 : decode cX1_mostGainFrom 29 = .ok (.iload 4, 2) := by decide +kernel
theorem dX1_mostGainFrom_31 : decode cX1_mostGainFrom 31 = .ok (.iaload, 1) := by decide +kernel
theorem dX1_mostGainFrom_32 : decode cX1_mostGainFrom 32 = .ok (.invokestatic 95, 3) := by decide +kernel
theorem dX1_mostGainFrom_35 : decode cX1_mostGainFrom 35 = .ok (.istore_n 3, 1) := by decide +kernel
theorem dX1_worthOfBest_0 : decode cX1_worthOfBest 0 = .ok (.iconst 0, 1) := by decide +kernel
theorem dX1_worthOfBest_1 : decode cX1_worthOfBest 1 = .ok (.istore_n 2, 1) := by decide +kernel
theorem dX1_worthOfBest_2 : decode cX1_worthOfBest 2 = .ok (.iconst 0, 1) := by decide +kernel
theorem dX1_worthOfBest_3 : decode cX1_worthOfBest 3 = .ok (.istore_n 3, 1) := by decide +kernel
theorem dX1_worthOfBest_4 : decode cX1_worthOfBest 4 = .ok (.iload_n 3, 1) := by decide +kernel
theorem dX1_worthOfBest_5 : decode cX1_worthOfBest 5 = .ok (.aload_n 1, 1) := by decide +kernel
theorem dX1_worthOfBest_6 : decode cX1_worthOfBest 6 = .ok (.getfield 33, 3) := by decide +kernel
theorem dX1_worthOfBest_9 : decode cX1_worthOfBest 9 = .ok (.if_icmp .ge 25, 3) := by decide +kernel
theorem dX1_worthOfBest_34 : decode cX1_worthOfBest 34 = .ok (.iload_n 2, 1) := by decide +kernel
theorem dX1_worthOfBest_35 : decode cX1_worthOfBest 35 = .ok (.ireturn, 1) := by decide +kernel
theorem dX1_worthOfBest_12 : decode cX1_worthOfBest 12 = .ok (.iload_n 2, 1) := by decide +kernel
theorem dX1_worthOfBest_13 : decode cX1_worthOfBest 13 = .ok (.aload_n 0, 1) := by decide +kernel
theorem dX1_worthOfBest_14 : decode cX1_worthOfBest 14 = .ok (.getfield 21, 3) := by decide +kernel
theorem dX1_worthOfBest_17 : decode cX1_worthOfBest 17 = .ok (.iload_n 3, 1) := by decide +kernel
theorem dX1_worthOfBest_18 : decode cX1_worthOfBest 18 = .ok (.iaload, 1) := by decide +kernel
theorem dX1_worthOfBest_19 : decode cX1_worthOfBest 19 = .ok (.aload_n 1, 1) := by decide +kernel
theorem dX1_worthOfBest_20 : decode cX1_worthOfBest 20 = .ok (.getfield 39, 3) := by decide +kernel
theorem dX1_worthOfBest_23 : decode cX1_worthOfBest 23 = .ok (.iload_n 3, 1) := by decide +kernel
theorem dX1_worthOfBest_24 : decode cX1_worthOfBest 24 = .ok (.iaload, 1) := by decide +kernel
theorem dX1_worthOfBest_25 : decode cX1_worthOfBest 25 = .ok (.imul, 1) := by decide +kernel
theorem dX1_worthOfBest_26 : decode cX1_worthOfBest 26 = .ok (.iadd, 1) := by decide +kernel
theorem dX1_worthOfBest_27 : decode cX1_worthOfBest 27 = .ok (.istore_n 2, 1) := by decide +kernel
theorem dX1_worthOfBest_28 : decode cX1_worthOfBest 28 = .ok (.iinc 3 1, 3) := by decide +kernel
theorem dX1_worthOfBest_31 : decode cX1_worthOfBest 31 = .ok (.goto (-27), 3) := by decide +kernel
theorem dX11_isPilgrim_0 : decode cX11_isPilgrim 0 = .ok (.iload_n 1, 1) := by decide +kernel
theorem dX11_isPilgrim_1 : decode cX11_isPilgrim 1 = .ok (.ifCond .lt 21, 3) := by decide +kernel
theorem dX11_isPilgrim_22 : decode cX11_isPilgrim 22 = .ok (.iconst 0, 1) := by decide +kernel
theorem dX11_isPilgrim_23 : decode cX11_isPilgrim 23 = .ok (.ireturn, 1) := by decide +kernel
theorem dX11_isPilgrim_4 : decode cX11_isPilgrim 4 = .ok (.iload_n 1, 1) := by decide +kernel
theorem dX11_isPilgrim_5 : decode cX11_isPilgrim 5 = .ok (.aload_n 0, 1) := by decide +kernel
theorem dX11_isPilgrim_6 : decode cX11_isPilgrim 6 = .ok (.getfield 32, 3) := by decide +kernel
theorem dX11_isPilgrim_9 : decode cX11_isPilgrim 9 = .ok (.getfield 102, 3) := by decide +kernel
theorem dX11_isPilgrim_12 : decode cX11_isPilgrim 12 = .ok (.getfield 281, 3) := by decide +kernel
theorem dX11_isPilgrim_15 : decode cX11_isPilgrim 15 = .ok (.if_icmp .ge 7, 3) := by decide +kernel
theorem dX11_isPilgrim_18 : decode cX11_isPilgrim 18 = .ok (.iconst 1, 1) := by decide +kernel
theorem dX11_isPilgrim_19 : decode cX11_isPilgrim 19 = .ok (.goto 4, 3) := by decide +kernel
theorem dX11_isBend_0 : decode cX11_isBend 0 = .ok (.iload_n 1, 1) := by decide +kernel
theorem dX11_isBend_1 : decode cX11_isBend 1 = .ok (.ifCond .lt 21, 3) := by decide +kernel
theorem dX11_isBend_22 : decode cX11_isBend 22 = .ok (.iconst 0, 1) := by decide +kernel
theorem dX11_isBend_23 : decode cX11_isBend 23 = .ok (.ireturn, 1) := by decide +kernel
theorem dX11_isBend_4 : decode cX11_isBend 4 = .ok (.iload_n 1, 1) := by decide +kernel
theorem dX11_isBend_5 : decode cX11_isBend 5 = .ok (.aload_n 0, 1) := by decide +kernel
theorem dX11_isBend_6 : decode cX11_isBend 6 = .ok (.getfield 32, 3) := by decide +kernel
theorem dX11_isBend_9 : decode cX11_isBend 9 = .ok (.getfield 102, 3) := by decide +kernel
theorem dX11_isBend_12 : decode cX11_isBend 12 = .ok (.getfield 105, 3) := by decide +kernel
theorem dX11_isBend_15 : decode cX11_isBend 15 = .ok (.if_icmp .ge 7, 3) := by decide +kernel
theorem dX11_isBend_18 : decode cX11_isBend 18 = .ok (.iconst 1, 1) := by decide +kernel
theorem dX11_isBend_19 : decode cX11_isBend 19 = .ok (.goto 4, 3) := by decide +kernel
theorem dX11_isSort_0 : decode cX11_isSort 0 = .ok (.iload_n 1, 1) := by decide +kernel
theorem dX11_isSort_1 : decode cX11_isSort 1 = .ok (.ifCond .lt 21, 3) := by decide +kernel
theorem dX11_isSort_22 : decode cX11_isSort 22 = .ok (.iconst 0, 1) := by decide +kernel
theorem dX11_isSort_23 : decode cX11_isSort 23 = .ok (.ireturn, 1) := by decide +kernel
theorem dX11_isSort_4 : decode cX11_isSort 4 = .ok (.iload_n 1, 1) := by decide +kernel
theorem dX11_isSort_5 : decode cX11_isSort 5 = .ok (.aload_n 0, 1) := by decide +kernel
theorem dX11_isSort_6 : decode cX11_isSort 6 = .ok (.getfield 32, 3) := by decide +kernel
theorem dX11_isSort_9 : decode cX11_isSort 9 = .ok (.getfield 102, 3) := by decide +kernel
theorem dX11_isSort_12 : decode cX11_isSort 12 = .ok (.getfield 350, 3) := by decide +kernel
theorem dX11_isSort_15 : decode cX11_isSort 15 = .ok (.if_icmp .ge 7, 3) := by decide +kernel
theorem dX11_isSort_18 : decode cX11_isSort 18 = .ok (.iconst 1, 1) := by decide +kernel
theorem dX11_isSort_19 : decode cX11_isSort 19 = .ok (.goto 4, 3) := by decide +kernel
theorem dX11_isSortOrNone_0 : decode cX11_isSortOrNone 0 = .ok (.iload_n 1, 1) := by decide +kernel
theorem dX11_isSortOrNone_1 : decode cX11_isSortOrNone 1 = .ok (.iconst (-1), 1) := by decide +kernel
theorem dX11_isSortOrNone_2 : decode cX11_isSortOrNone 2 = .ok (.if_icmp .eq 11, 3) := by decide +kernel
theorem dX11_isSortOrNone_13 : decode cX11_isSortOrNone 13 = .ok (.iconst 1, 1) := by decide +kernel
theorem dX11_isSortOrNone_14 : decode cX11_isSortOrNone 14 = .ok (.goto 4, 3) := by decide +kernel
theorem dX11_isSortOrNone_18 : decode cX11_isSortOrNone 18 = .ok (.ireturn, 1) := by decide +kernel
theorem dX11_isSortOrNone_5 : decode cX11_isSortOrNone 5 = .ok (.aload_n 0, 1) := by decide +kernel
theorem dX11_isSortOrNone_6 : decode cX11_isSortOrNone 6 = .ok (.iload_n 1, 1) := by decide +kernel
theorem dX11_isSortOrNone_7 : decode cX11_isSortOrNone 7 = .ok (.invokevirtual 166, 3) := by decide +kernel
theorem dX11_isSortOrNone_10 : decode cX11_isSortOrNone 10 = .ok (.ifCond .eq 7, 3) := by decide +kernel
theorem dX11_isSortOrNone_17 : decode cX11_isSortOrNone 17 = .ok (.iconst 0, 1) := by decide +kernel
theorem dX11_areTogether_0 : decode cX11_areTogether 0 = .ok (.aload_n 0, 1) := by decide +kernel
theorem dX11_areTogether_1 : decode cX11_areTogether 1 = .ok (.iload_n 1, 1) := by decide +kernel
theorem dX11_areTogether_2 : decode cX11_areTogether 2 = .ok (.invokevirtual 117, 3) := by decide +kernel
theorem dX11_areTogether_5 : decode cX11_areTogether 5 = .ok (.ifCond .eq 47, 3) := by decide +kernel
theorem dX11_areTogether_52 : decode cX11_areTogether 52 = .ok (.iconst 0, 1) := by decide +kernel
theorem dX11_areTogether_53 : decode cX11_areTogether 53 = .ok (.ireturn, 1) := by decide +kernel
theorem dX11_areTogether_8 : decode cX11_areTogether 8 = .ok (.aload_n 0, 1) := by decide +kernel
theorem dX11_areTogether_9 : decode cX11_areTogether 9 = .ok (.iload_n 2, 1) := by decide +kernel
theorem dX11_areTogether_10 : decode cX11_areTogether 10 = .ok (.invokevirtual 117, 3) := by decide +kernel
theorem dX11_areTogether_13 : decode cX11_areTogether 13 = .ok (.ifCond .eq 39, 3) := by decide +kernel
theorem dX11_areTogether_16 : decode cX11_areTogether 16 = .ok (.iload_n 1, 1) := by decide +kernel
theorem dX11_areTogether_17 : decode cX11_areTogether 17 = .ok (.iload_n 2, 1) := by decide +kernel
theorem dX11_areTogether_18 : decode cX11_areTogether 18 = .ok (.if_icmp .eq 34, 3) := by decide +kernel
theorem dX11_areTogether_21 : decode cX11_areTogether 21 = .ok (.aload_n 0, 1) := by decide +kernel
theorem dX11_areTogether_22 : decode cX11_areTogether 22 = .ok (.getfield 32, 3) := by decide +kernel
theorem dX11_areTogether_25 : decode cX11_areTogether 25 = .ok (.getfield 121, 3) := by decide +kernel
theorem dX11_areTogether_28 : decode cX11_areTogether 28 = .ok (.getfield 125, 3) := by decide +kernel
theorem dX11_areTogether_31 : decode cX11_areTogether 31 = .ok (.iload_n 1, 1) := by decide +kernel
theorem dX11_areTogether_32 : decode cX11_areTogether 32 = .ok (.iaload, 1) := by decide +kernel
theorem dX11_areTogether_33 : decode cX11_areTogether 33 = .ok (.aload_n 0, 1) := by decide +kernel
theorem dX11_areTogether_34 : decode cX11_areTogether 34 = .ok (.getfield 32, 3) := by decide +kernel
theorem dX11_areTogether_37 : decode cX11_areTogether 37 = .ok (.getfield 121, 3) := by decide +kernel
theorem dX11_areTogether_40 : decode cX11_areTogether 40 = .ok (.getfield 125, 3) := by decide +kernel
theorem dX11_areTogether_43 : decode cX11_areTogether 43 = .ok (.iload_n 2, 1) := by decide +kernel
theorem dX11_areTogether_44 : decode cX11_areTogether 44 = .ok (.iaload, 1) := by decide +kernel
theorem dX11_areTogether_45 : decode cX11_areTogether 45 = .ok (.if_icmp .ne 7, 3) := by decide +kernel
theorem dX11_areTogether_48 : decode cX11_areTogether 48 = .ok (.iconst 1, 1) := by decide +kernel
theorem dX11_areTogether_49 : decode cX11_areTogether 49 = .ok (.goto 4, 3) := by decide +kernel
theorem dX8_canGoUp_0 : decode cX8_canGoUp 0 = .ok (.aload_n 0, 1) := by decide +kernel
theorem dX8_canGoUp_1 : decode cX8_canGoUp 1 = .ok (.getfield 9, 3) := by decide +kernel
theorem dX8_canGoUp_4 : decode cX8_canGoUp 4 = .ok (.iload_n 2, 1) := by decide +kernel
theorem dX8_canGoUp_5 : decode cX8_canGoUp 5 = .ok (.iaload, 1) := by decide +kernel
theorem dX8_canGoUp_6 : decode cX8_canGoUp 6 = .ok (.istore_n 3, 1) := by decide +kernel
theorem dX8_canGoUp_7 : decode cX8_canGoUp 7 = .ok (.iload_n 3, 1) := by decide +kernel
theorem dX8_canGoUp_8 : decode cX8_canGoUp 8 = .ok (.aload_n 1, 1) := by decide +kernel
theorem dX8_canGoUp_9 : decode cX8_canGoUp 9 = .ok (.getfield 57, 3) := by decide +kernel
theorem dX8_canGoUp_12 : decode cX8_canGoUp 12 = .ok (.if_icmp .ge 28, 3) := by decide +kernel
theorem dX8_canGoUp_40 : decode cX8_canGoUp 40 = .ok (.iconst 0, 1) := by decide +kernel
theorem dX8_canGoUp_41 : decode cX8_canGoUp 41 = .ok (.ireturn, 1) := by decide +kernel
theorem dX8_canGoUp_15 : decode cX8_canGoUp 15 = .ok (.aload_n 0, 1) := by decide +kernel
theorem dX8_canGoUp_16 : decode cX8_canGoUp 16 = .ok (.getfield 24, 3) := by decide +kernel
theorem dX8_canGoUp_19 : decode cX8_canGoUp 19 = .ok (.iload_n 2, 1) := by decide +kernel
theorem dX8_canGoUp_20 : decode cX8_canGoUp 20 = .ok (.iconst 5, 1) := by decide +kernel
theorem dX8_canGoUp_21 : decode cX8_canGoUp 21 = .ok (.imul, 1) := by decide +kernel
theorem dX8_canGoUp_22 : decode cX8_canGoUp 22 = .ok (.aload_n 1, 1) := by decide +kernel
theorem dX8_canGoUp_23 : decode cX8_canGoUp 23 = .ok (.iload_n 3, 1) := by decide +kernel
theorem dX8_canGoUp_24 : decode cX8_canGoUp 24 = .ok (.aload_n 0, 1) := by decide +kernel
theorem dX8_canGoUp_25 : decode cX8_canGoUp 25 = .ok (.getfield 30, 3) := by decide +kernel
theorem dX8_canGoUp_28 : decode cX8_canGoUp 28 = .ok (.invokevirtual 67, 3) := by decide +kernel
theorem dX8_canGoUp_31 : decode cX8_canGoUp 31 = .ok (.iadd, 1) := by decide +kernel
theorem dX8_canGoUp_32 : decode cX8_canGoUp 32 = .ok (.iaload, 1) := by decide +kernel
theorem dX8_canGoUp_33 : decode cX8_canGoUp 33 = .ok (.ifCond .le 7, 3) := by decide +kernel
theorem dX8_canGoUp_36 : decode cX8_canGoUp 36 = .ok (.iconst 1, 1) := by decide +kernel
theorem dX8_canGoUp_37 : decode cX8_canGoUp 37 = .ok (.goto 4, 3) := by decide +kernel
theorem dX8_goUp_0 : decode cX8_goUp 0 = .ok (.aload_n 0, 1) := by decide +kernel
theorem dX8_goUp_1 : decode cX8_goUp 1 = .ok (.getfield 9, 3) := by decide +kernel
theorem dX8_goUp_4 : decode cX8_goUp 4 = .ok (.iload_n 2, 1) := by decide +kernel
theorem dX8_goUp_5 : decode cX8_goUp 5 = .ok (.iaload, 1) := by decide +kernel
theorem dX8_goUp_6 : decode cX8_goUp 6 = .ok (.istore_n 3, 1) := by decide +kernel
theorem dX8_goUp_7 : decode cX8_goUp 7 = .ok (.aload_n 1, 1) := by decide +kernel
theorem dX8_goUp_8 : decode cX8_goUp 8 = .ok (.iload_n 3, 1) := by decide +kernel
theorem dX8_goUp_9 : decode cX8_goUp 9 = .ok (.aload_n 0, 1) := by decide +kernel
theorem dX8_goUp_10 : decode cX8_goUp 10 = .ok (.getfield 30, 3) := by decide +kernel
theorem dX8_goUp_13 : decode cX8_goUp 13 = .ok (.invokevirtual 67, 3) := by decide +kernel
theorem dX8_goUp_16 : decode cX8_goUp 16 = .ok (.istore 4, 2) := by decide +kernel
theorem dX8_goUp_18 : decode cX8_goUp 18 = .ok (.iload_n 3, 1) := by decide +kernel
theorem dX8_goUp_19 : decode cX8_goUp 19 = .ok (.iconst 5, 1) := by decide +kernel
theorem dX8_goUp_20 : decode cX8_goUp 20 = .ok (.imul, 1) := by decide +kernel
theorem dX8_goUp_21 : decode cX8_goUp 21 = .ok (.iload 4, 2) := by decide +kernel
theorem dX8_goUp_23 : decode cX8_goUp 23 = .ok (.iadd, 1) := by decide +kernel
theorem dX8_goUp_24 : decode cX8_goUp 24 = .ok (.istore 5, 2) := by decide +kernel
theorem dX8_goUp_26 : decode cX8_goUp 26 = .ok (.aload_n 0, 1) := by decide +kernel
theorem dX8_goUp_27 : decode cX8_goUp 27 = .ok (.getfield 24, 3) := by decide +kernel
theorem dX8_goUp_30 : decode cX8_goUp 30 = .ok (.iload_n 2, 1) := by decide +kernel
theorem dX8_goUp_31 : decode cX8_goUp 31 = .ok (.iconst 5, 1) := by decide +kernel
theorem dX8_goUp_32 : decode cX8_goUp 32 = .ok (.imul, 1) := by decide +kernel
theorem dX8_goUp_33 : decode cX8_goUp 33 = .ok (.iload 4, 2) := by decide +kernel
theorem dX8_goUp_35 : decode cX8_goUp 35 = .ok (.iadd, 1) := by decide +kernel
theorem dX8_goUp_36 : decode cX8_goUp 36 = .ok (.dup2, 1) := by decide +kernel
theorem dX8_goUp_37 : decode cX8_goUp 37 = .ok (.iaload, 1) := by decide +kernel
theorem dX8_goUp_38 : decode cX8_goUp 38 = .ok (.iconst 1, 1) := by decide +kernel
theorem dX8_goUp_39 : decode cX8_goUp 39 = .ok (.isub, 1) := by decide +kernel
theorem dX8_goUp_40 : decode cX8_goUp 40 = .ok (.iastore, 1) := by decide +kernel
theorem dX8_goUp_41 : decode cX8_goUp 41 = .ok (.aload_n 0, 1) := by decide +kernel
theorem dX8_goUp_42 : decode cX8_goUp 42 = .ok (.getfield 27, 3) := by decide +kernel
theorem dX8_goUp_45 : decode cX8_goUp 45 = .ok (.iload 5, 2) := by decide +kernel
theorem dX8_goUp_47 : decode cX8_goUp 47 = .ok (.bipush 99, 2) := by decide +kernel
theorem dX8_goUp_49 : decode cX8_goUp 49 = .ok (.aload_n 0, 1) := by decide +kernel
theorem dX8_goUp_50 : decode cX8_goUp 50 = .ok (.getfield 27, 3) := by decide +kernel
theorem dX8_goUp_53 : decode cX8_goUp 53 = .ok (.iload 5, 2) := by decide +kernel
theorem dX8_goUp_55 : decode cX8_goUp 55 = .ok (.iaload, 1) := by decide +kernel
theorem dX8_goUp_56 : decode cX8_goUp 56 = .ok (.iconst 1, 1) := by decide +kernel
theorem dX8_goUp_57 : decode cX8_goUp 57 = .ok (.iadd, 1) := by decide +kernel
theorem dX8_goUp_58 : decode cX8_goUp 58 = .ok (.invokestatic 71, 3) := by decide +kernel
theorem dX8_goUp_61 : decode cX8_goUp 61 = .ok (.iastore, 1) := by decide +kernel
theorem dX8_goUp_62 : decode cX8_goUp 62 = .ok (.aload_n 0, 1) := by decide +kernel
theorem dX8_goUp_63 : decode cX8_goUp 63 = .ok (.getfield 9, 3) := by decide +kernel
theorem dX8_goUp_66 : decode cX8_goUp 66 = .ok (.iload_n 2, 1) := by decide +kernel
theorem dX8_goUp_67 : decode cX8_goUp 67 = .ok (.dup2, 1) := by decide +kernel
theorem dX8_goUp_68 : decode cX8_goUp 68 = .ok (.iaload, 1) := by decide +kernel
theorem dX8_goUp_69 : decode cX8_goUp 69 = .ok (.iconst 1, 1) := by decide +kernel
theorem dX8_goUp_70 : decode cX8_goUp 70 = .ok (.iadd, 1) := by decide +kernel
theorem dX8_goUp_71 : decode cX8_goUp 71 = .ok (.iastore, 1) := by decide +kernel
theorem dX8_goUp_72 : decode cX8_goUp 72 = .ok (.aload_n 0, 1) := by decide +kernel
theorem dX8_goUp_73 : decode cX8_goUp 73 = .ok (.getfield 18, 3) := by decide +kernel
theorem dX8_goUp_76 : decode cX8_goUp 76 = .ok (.iload_n 2, 1) := by decide +kernel
theorem dX8_goUp_77 : decode cX8_goUp 77 = .ok (.dup2, 1) := by decide +kernel
theorem dX8_goUp_78 : decode cX8_goUp 78 = .ok (.iaload, 1) := by decide +kernel
theorem dX8_goUp_79 : decode cX8_goUp 79 = .ok (.iconst 1, 1) := by decide +kernel
theorem dX8_goUp_80 : decode cX8_goUp 80 = .ok (.iadd, 1) := by decide +kernel
theorem dX8_goUp_81 : decode cX8_goUp 81 = .ok (.iastore, 1) := by decide +kernel
theorem dX8_goUp_82 : decode cX8_goUp 82 = .ok (.return_, 1) := by decide +kernel
theorem dX8_canPick_0 : decode cX8_canPick 0 = .ok (.aload_n 0, 1) := by decide +kernel
theorem dX8_canPick_1 : decode cX8_canPick 1 = .ok (.getfield 9, 3) := by decide +kernel
theorem dX8_canPick_4 : decode cX8_canPick 4 = .ok (.iload_n 2, 1) := by decide +kernel
theorem dX8_canPick_5 : decode cX8_canPick 5 = .ok (.iaload, 1) := by decide +kernel
theorem dX8_canPick_6 : decode cX8_canPick 6 = .ok (.iconst 1, 1) := by decide +kernel
theorem dX8_canPick_7 : decode cX8_canPick 7 = .ok (.isub, 1) := by decide +kernel
theorem dX8_canPick_8 : decode cX8_canPick 8 = .ok (.istore 4, 2) := by decide +kernel
theorem dX8_canPick_10 : decode cX8_canPick 10 = .ok (.iload 4, 2) := by decide +kernel
theorem dX8_canPick_12 : decode cX8_canPick 12 = .ok (.ifCond .lt 46, 3) := by decide +kernel
theorem dX8_canPick_58 : decode cX8_canPick 58 = .ok (.iconst 0, 1) := by decide +kernel
theorem dX8_canPick_59 : decode cX8_canPick 59 = .ok (.ireturn, 1) := by decide +kernel
theorem dX8_canPick_15 : decode cX8_canPick 15 = .ok (.aload_n 0, 1) := by decide +kernel
theorem dX8_canPick_16 : decode cX8_canPick 16 = .ok (.getfield 27, 3) := by decide +kernel
theorem dX8_canPick_19 : decode cX8_canPick 19 = .ok (.iload 4, 2) := by decide +kernel
theorem dX8_canPick_21 : decode cX8_canPick 21 = .ok (.iconst 5, 1) := by decide +kernel
theorem dX8_canPick_22 : decode cX8_canPick 22 = .ok (.imul, 1) := by decide +kernel
theorem dX8_canPick_23 : decode cX8_canPick 23 = .ok (.iload_n 3, 1) := by decide +kernel
theorem dX8_canPick_24 : decode cX8_canPick 24 = .ok (.iadd, 1) := by decide +kernel
theorem dX8_canPick_25 : decode cX8_canPick 25 = .ok (.iaload, 1) := by decide +kernel
theorem dX8_canPick_26 : decode cX8_canPick 26 = .ok (.ifCond .le 32, 3) := by decide +kernel
theorem dX8_canPick_29 : decode cX8_canPick 29 = .ok (.aload_n 0, 1) := by decide +kernel
theorem dX8_canPick_30 : decode cX8_canPick 30 = .ok (.getfield 18, 3) := by decide +kernel
theorem dX8_canPick_33 : decode cX8_canPick 33 = .ok (.iload_n 2, 1) := by decide +kernel
theorem dX8_canPick_34 : decode cX8_canPick 34 = .ok (.iaload, 1) := by decide +kernel
theorem dX8_canPick_35 : decode cX8_canPick 35 = .ok (.aload_n 0, 1) := by decide +kernel
theorem dX8_canPick_36 : decode cX8_canPick 36 = .ok (.getfield 21, 3) := by decide +kernel
theorem dX8_canPick_39 : decode cX8_canPick 39 = .ok (.iload_n 2, 1) := by decide +kernel
theorem dX8_canPick_40 : decode cX8_canPick 40 = .ok (.iaload, 1) := by decide +kernel
theorem dX8_canPick_41 : decode cX8_canPick 41 = .ok (.if_icmp .le 17, 3) := by decide +kernel
theorem dX8_canPick_44 : decode cX8_canPick 44 = .ok (.aload_n 0, 1) := by decide +kernel
theorem dX8_canPick_45 : decode cX8_canPick 45 = .ok (.aload_n 1, 1) := by decide +kernel
theorem dX8_canPick_46 : decode cX8_canPick 46 = .ok (.iload_n 2, 1) := by decide +kernel
theorem dX8_canPick_47 : decode cX8_canPick 47 = .ok (.iload_n 3, 1) := by decide +kernel
theorem dX8_canPick_48 : decode cX8_canPick 48 = .ok (.invokevirtual 76, 3) := by decide +kernel
theorem dX8_canPick_51 : decode cX8_canPick 51 = .ok (.ifCond .eq 7, 3) := by decide +kernel
theorem dX8_canPick_54 : decode cX8_canPick 54 = .ok (.iconst 1, 1) := by decide +kernel
theorem dX8_canPick_55 : decode cX8_canPick 55 = .ok (.goto 4, 3) := by decide +kernel
theorem dX8_pick_0 : decode cX8_pick 0 = .ok (.aload_n 0, 1) := by decide +kernel
theorem dX8_pick_1 : decode cX8_pick 1 = .ok (.getfield 27, 3) := by decide +kernel
theorem dX8_pick_4 : decode cX8_pick 4 = .ok (.aload_n 0, 1) := by decide +kernel
theorem dX8_pick_5 : decode cX8_pick 5 = .ok (.getfield 9, 3) := by decide +kernel
theorem dX8_pick_8 : decode cX8_pick 8 = .ok (.iload_n 1, 1) := by decide +kernel
theorem dX8_pick_9 : decode cX8_pick 9 = .ok (.iaload, 1) := by decide +kernel
theorem dX8_pick_10 : decode cX8_pick 10 = .ok (.iconst 1, 1) := by decide +kernel
theorem dX8_pick_11 : decode cX8_pick 11 = .ok (.isub, 1) := by decide +kernel
theorem dX8_pick_12 : decode cX8_pick 12 = .ok (.iconst 5, 1) := by decide +kernel
theorem dX8_pick_13 : decode cX8_pick 13 = .ok (.imul, 1) := by decide +kernel
theorem dX8_pick_14 : decode cX8_pick 14 = .ok (.iload_n 2, 1) := by decide +kernel
theorem dX8_pick_15 : decode cX8_pick 15 = .ok (.iadd, 1) := by decide +kernel
theorem dX8_pick_16 : decode cX8_pick 16 = .ok (.dup2, 1) := by decide +kernel
theorem dX8_pick_17 : decode cX8_pick 17 = .ok (.iaload, 1) := by decide +kernel
theorem dX8_pick_18 : decode cX8_pick 18 = .ok (.iconst 1, 1) := by decide +kernel
theorem dX8_pick_19 : decode cX8_pick 19 = .ok (.isub, 1) := by decide +kernel
theorem dX8_pick_20 : decode cX8_pick 20 = .ok (.iastore, 1) := by decide +kernel
theorem dX8_pick_21 : decode cX8_pick 21 = .ok (.aload_n 0, 1) := by decide +kernel
theorem dX8_pick_22 : decode cX8_pick 22 = .ok (.getfield 24, 3) := by decide +kernel
theorem dX8_pick_25 : decode cX8_pick 25 = .ok (.iload_n 1, 1) := by decide +kernel
theorem dX8_pick_26 : decode cX8_pick 26 = .ok (.iconst 5, 1) := by decide +kernel
theorem dX8_pick_27 : decode cX8_pick 27 = .ok (.imul, 1) := by decide +kernel
theorem dX8_pick_28 : decode cX8_pick 28 = .ok (.iload_n 2, 1) := by decide +kernel
theorem dX8_pick_29 : decode cX8_pick 29 = .ok (.iadd, 1) := by decide +kernel
theorem dX8_pick_30 : decode cX8_pick 30 = .ok (.dup2, 1) := by decide +kernel
theorem dX8_pick_31 : decode cX8_pick 31 = .ok (.iaload, 1) := by decide +kernel
theorem dX8_pick_32 : decode cX8_pick 32 = .ok (.iconst 1, 1) := by decide +kernel
theorem dX8_pick_33 : decode cX8_pick 33 = .ok (.iadd, 1) := by decide +kernel
theorem dX8_pick_34 : decode cX8_pick 34 = .ok (.iastore, 1) := by decide +kernel
theorem dX8_pick_35 : decode cX8_pick 35 = .ok (.aload_n 0, 1) := by decide +kernel
theorem dX8_pick_36 : decode cX8_pick 36 = .ok (.getfield 21, 3) := by decide +kernel
theorem dX8_pick_39 : decode cX8_pick 39 = .ok (.iload_n 1, 1) := by decide +kernel
theorem dX8_pick_40 : decode cX8_pick 40 = .ok (.dup2, 1) := by decide +kernel
theorem dX8_pick_41 : decode cX8_pick 41 = .ok (.iaload, 1) := by decide +kernel
theorem dX8_pick_42 : decode cX8_pick 42 = .ok (.iconst 1, 1) := by decide +kernel
theorem dX8_pick_43 : decode cX8_pick 43 = .ok (.iadd, 1) := by decide +kernel
theorem dX8_pick_44 : decode cX8_pick 44 = .ok (.iastore, 1) := by decide +kernel
theorem dX8_pick_45 : decode cX8_pick 45 = .ok (.return_, 1) := by decide +kernel
theorem dX4_number_0 : decode cX4_number 0 = .ok (.aload_n 1, 1) := by decide +kernel
theorem dX4_number_1 : decode cX4_number 1 = .ok (.getfield 45, 3) := by decide +kernel
theorem dX4_number_4 : decode cX4_number 4 = .ok (.ifCond .eq 5, 3) := by decide +kernel
theorem dX4_number_9 : decode cX4_number 9 = .ok (.aload_n 1, 1) := by decide +kernel
theorem dX4_number_10 : decode cX4_number 10 = .ok (.aload_n 0, 1) := by decide +kernel
theorem dX4_number_11 : decode cX4_number 11 = .ok (.getfield 29, 3) := by decide +kernel
theorem dX4_number_14 : decode cX4_number 14 = .ok (.invokevirtual 37, 3) := by decide +kernel
theorem dX4_number_17 : decode cX4_number 17 = .ok (.sipush 130, 3) := by decide +kernel
theorem dX4_number_20 : decode cX4_number 20 = .ok (.if_icmp .eq 15, 3) := by decide +kernel
theorem dX4_number_35 : decode cX4_number 35 = .ok (.aload_n 1, 1) := by decide +kernel
theorem dX4_number_36 : decode cX4_number 36 = .ok (.aload_n 0, 1) := by decide +kernel
theorem dX4_number_37 : decode cX4_number 37 = .ok (.getfield 29, 3) := by decide +kernel
theorem dX4_number_40 : decode cX4_number 40 = .ok (.invokevirtual 48, 3) := by decide +kernel
theorem dX4_number_43 : decode cX4_number 43 = .ok (.istore 4, 2) := by decide +kernel
theorem dX4_number_45 : decode cX4_number 45 = .ok (.iload 4, 2) := by decide +kernel
theorem dX4_number_47 : decode cX4_number 47 = .ok (.iload_n 2, 1) := by decide +kernel
theorem dX4_number_48 : decode cX4_number 48 = .ok (.if_icmp .lt 9, 3) := by decide +kernel
theorem dX4_number_57 : decode cX4_number 57 = .ok (.aload_n 1, 1) := by decide +kernel
theorem dX4_number_58 : decode cX4_number 58 = .ok (.aload_n 0, 1) := by decide +kernel
theorem dX4_number_59 : decode cX4_number 59 = .ok (.getfield 29, 3) := by decide +kernel
theorem dX4_number_62 : decode cX4_number 62 = .ok (.iconst 1, 1) := by decide +kernel
theorem dX4_number_63 : decode cX4_number 63 = .ok (.invokevirtual 41, 3) := by decide +kernel
theorem dX4_number_66 : decode cX4_number 66 = .ok (.pop, 1) := by decide +kernel
theorem dX4_number_67 : decode cX4_number 67 = .ok (.iconst (-1), 1) := by decide +kernel
theorem dX4_number_68 : decode cX4_number 68 = .ok (.ireturn, 1) := by decide +kernel
theorem dX4_number_51 : decode cX4_number 51 = .ok (.iload 4, 2) := by decide +kernel
theorem dX4_number_53 : decode cX4_number 53 = .ok (.iload_n 3, 1) := by decide +kernel
theorem dX4_number_54 : decode cX4_number 54 = .ok (.if_icmp .le 15, 3) := by decide +kernel
theorem dX4_number_69 : decode cX4_number 69 = .ok (.aload_n 0, 1) := by decide +kernel
theorem dX4_number_70 : decode cX4_number 70 = .ok (.dup, 1) := by decide +kernel
theorem dX4_number_71 : decode cX4_number 71 = .ok (.getfield 29, 3) := by decide +kernel
theorem dX4_number_74 : decode cX4_number 74 = .ok (.iconst 1, 1) := by decide +kernel
theorem dX4_number_75 : decode cX4_number 75 = .ok (.iadd, 1) := by decide +kernel
theorem dX4_number_76 : decode cX4_number 76 = .ok (.putfield 29, 3) := by decide +kernel
theorem dX4_number_79 : decode cX4_number 79 = .ok (.iload 4, 2) := by decide +kernel
theorem dX4_number_81 : decode cX4_number 81 = .ok (.ireturn, 1) := by decide +kernel
theorem dX4_number_23 : decode cX4_number 23 = .ok (.aload_n 1, 1) := by decide +kernel
theorem dX4_number_24 : decode cX4_number 24 = .ok (.aload_n 0, 1) := by decide +kernel
theorem dX4_number_25 : decode cX4_number 25 = .ok (.getfield 29, 3) := by decide +kernel
theorem dX4_number_28 : decode cX4_number 28 = .ok (.iconst 0, 1) := by decide +kernel
theorem dX4_number_29 : decode cX4_number 29 = .ok (.invokevirtual 41, 3) := by decide +kernel
theorem dX4_number_32 : decode cX4_number 32 = .ok (.pop, 1) := by decide +kernel
theorem dX4_number_33 : decode cX4_number 33 = .ok (.iconst (-1), 1) := by decide +kernel
theorem dX4_number_34 : decode cX4_number 34 = .ok (.ireturn, 1) := by decide +kernel
theorem dX4_number_7 : decode cX4_number 7 = .ok (.iconst (-1), 1) := by decide +kernel
theorem dX4_number_8 : decode cX4_number 8 = .ok (.ireturn, 1) := by decide +kernel
theorem dX4_burdenClause_0 : decode cX4_burdenClause 0 = .ok (.aload_n 0, 1) := by decide +kernel
theorem dX4_burdenClause_1 : decode cX4_burdenClause 1 = .ok (.getfield 12, 3) := by decide +kernel
theorem dX4_burdenClause_4 : decode cX4_burdenClause 4 = .ok (.aload_n 0, 1) := by decide +kernel
theorem dX4_burdenClause_5 : decode cX4_burdenClause 5 = .ok (.aload_n 1, 1) := by decide +kernel
theorem dX4_burdenClause_6 : decode cX4_burdenClause 6 = .ok (.iconst 1, 1) := by decide +kernel
theorem dX4_burdenClause_7 : decode cX4_burdenClause 7 = .ok (.bipush 40, 2) := by decide +kernel
theorem dX4_burdenClause_9 : decode cX4_burdenClause 9 = .ok (.invokevirtual 83, 3) := by decide +kernel
theorem dX4_burdenClause_12 : decode cX4_burdenClause 12 = .ok (.putfield 87, 3) := by decide +kernel
theorem dX4_burdenClause_15 : decode cX4_burdenClause 15 = .ok (.aload_n 1, 1) := by decide +kernel
theorem dX4_burdenClause_16 : decode cX4_burdenClause 16 = .ok (.getfield 45, 3) := by decide +kernel
theorem dX4_burdenClause_19 : decode cX4_burdenClause 19 = .ok (.ifCond .ne 7, 3) := by decide +kernel
theorem dX4_burdenClause_26 : decode cX4_burdenClause 26 = .ok (.iconst 0, 1) := by decide +kernel
theorem dX4_burdenClause_27 : decode cX4_burdenClause 27 = .ok (.ireturn, 1) := by decide +kernel
theorem dX4_burdenClause_22 : decode cX4_burdenClause 22 = .ok (.iconst 1, 1) := by decide +kernel
theorem dX4_burdenClause_23 : decode cX4_burdenClause 23 = .ok (.goto 4, 3) := by decide +kernel
theorem dX4_sortClause_0 : decode cX4_sortClause 0 = .ok (.aload_n 0, 1) := by decide +kernel
theorem dX4_sortClause_1 : decode cX4_sortClause 1 = .ok (.aload_n 1, 1) := by decide +kernel
theorem dX4_sortClause_2 : decode cX4_sortClause 2 = .ok (.iconst 1, 1) := by decide +kernel
theorem dX4_sortClause_3 : decode cX4_sortClause 3 = .ok (.bipush 9, 2) := by decide +kernel
theorem dX4_sortClause_5 : decode cX4_sortClause 5 = .ok (.invokevirtual 83, 3) := by decide +kernel
theorem dX4_sortClause_8 : decode cX4_sortClause 8 = .ok (.istore_n 2, 1) := by decide +kernel
theorem dX4_sortClause_9 : decode cX4_sortClause 9 = .ok (.aload_n 0, 1) := by decide +kernel
theorem dX4_sortClause_10 : decode cX4_sortClause 10 = .ok (.aload_n 1, 1) := by decide +kernel
theorem dX4_sortClause_11 : decode cX4_sortClause 11 = .ok (.iconst 0, 1) := by decide +kernel
theorem dX4_sortClause_12 : decode cX4_sortClause 12 = .ok (.bipush 30, 2) := by decide +kernel
theorem dX4_sortClause_14 : decode cX4_sortClause 14 = .ok (.invokevirtual 83, 3) := by decide +kernel
theorem dX4_sortClause_17 : decode cX4_sortClause 17 = .ok (.istore_n 3, 1) := by decide +kernel
theorem dX4_sortClause_18 : decode cX4_sortClause 18 = .ok (.aload_n 0, 1) := by decide +kernel
theorem dX4_sortClause_19 : decode cX4_sortClause 19 = .ok (.aload_n 1, 1) := by decide +kernel
theorem dX4_sortClause_20 : decode cX4_sortClause 20 = .ok (.iconst 1, 1) := by decide +kernel
theorem dX4_sortClause_21 : decode cX4_sortClause 21 = .ok (.bipush 30, 2) := by decide +kernel
theorem dX4_sortClause_23 : decode cX4_sortClause 23 = .ok (.invokevirtual 83, 3) := by decide +kernel
theorem dX4_sortClause_26 : decode cX4_sortClause 26 = .ok (.istore 4, 2) := by decide +kernel
theorem dX4_sortClause_28 : decode cX4_sortClause 28 = .ok (.aload_n 1, 1) := by decide +kernel
theorem dX4_sortClause_29 : decode cX4_sortClause 29 = .ok (.getfield 45, 3) := by decide +kernel
theorem dX4_sortClause_32 : decode cX4_sortClause 32 = .ok (.ifCond .eq 5, 3) := by decide +kernel
theorem dX4_sortClause_37 : decode cX4_sortClause 37 = .ok (.aload_n 0, 1) := by decide +kernel
theorem dX4_sortClause_38 : decode cX4_sortClause 38 = .ok (.getfield 12, 3) := by decide +kernel
theorem dX4_sortClause_41 : decode cX4_sortClause 41 = .ok (.getfield 90, 3) := by decide +kernel
theorem dX4_sortClause_44 : decode cX4_sortClause 44 = .ok (.aload_n 0, 1) := by decide +kernel
theorem dX4_sortClause_45 : decode cX4_sortClause 45 = .ok (.getfield 12, 3) := by decide +kernel
theorem dX4_sortClause_48 : decode cX4_sortClause 48 = .ok (.getfield 74, 3) := by decide +kernel
theorem dX4_sortClause_51 : decode cX4_sortClause 51 = .ok (.iload_n 2, 1) := by decide +kernel
theorem dX4_sortClause_52 : decode cX4_sortClause 52 = .ok (.iastore, 1) := by decide +kernel
theorem dX4_sortClause_53 : decode cX4_sortClause 53 = .ok (.aload_n 0, 1) := by decide +kernel
theorem dX4_sortClause_54 : decode cX4_sortClause 54 = .ok (.getfield 12, 3) := by decide +kernel
theorem dX4_sortClause_57 : decode cX4_sortClause 57 = .ok (.getfield 94, 3) := by decide +kernel
theorem dX4_sortClause_60 : decode cX4_sortClause 60 = .ok (.aload_n 0, 1) := by decide +kernel
theorem dX4_sortClause_61 : decode cX4_sortClause 61 = .ok (.getfield 12, 3) := by decide +kernel
theorem dX4_sortClause_64 : decode cX4_sortClause 64 = .ok (.getfield 74, 3) := by decide +kernel
theorem dX4_sortClause_67 : decode cX4_sortClause 67 = .ok (.iload_n 3, 1) := by decide +kernel
theorem dX4_sortClause_68 : decode cX4_sortClause 68 = .ok (.iastore, 1) := by decide +kernel
theorem dX4_sortClause_69 : decode cX4_sortClause 69 = .ok (.aload_n 0, 1) := by decide +kernel
theorem dX4_sortClause_70 : decode cX4_sortClause 70 = .ok (.getfield 12, 3) := by decide +kernel
theorem dX4_sortClause_73 : decode cX4_sortClause 73 = .ok (.getfield 97, 3) := by decide +kernel
theorem dX4_sortClause_76 : decode cX4_sortClause 76 = .ok (.aload_n 0, 1) := by decide +kernel
theorem dX4_sortClause_77 : decode cX4_sortClause 77 = .ok (.getfield 12, 3) := by decide +kernel
theorem dX4_sortClause_80 : decode cX4_sortClause 80 = .ok (.getfield 74, 3) := by decide +kernel
theorem dX4_sortClause_83 : decode cX4_sortClause 83 = .ok (.iload 4, 2) := by decide +kernel
theorem dX4_sortClause_85 : decode cX4_sortClause 85 = .ok (.iastore, 1) := by decide +kernel
theorem dX4_sortClause_86 : decode cX4_sortClause 86 = .ok (.aload_n 0, 1) := by decide +kernel
theorem dX4_sortClause_87 : decode cX4_sortClause 87 = .ok (.getfield 12, 3) := by decide +kernel
theorem dX4_sortClause_90 : decode cX4_sortClause 90 = .ok (.dup, 1) := by decide +kernel
theorem dX4_sortClause_91 : decode cX4_sortClause 91 = .ok (.getfield 74, 3) := by decide +kernel
theorem dX4_sortClause_94 : decode cX4_sortClause 94 = .ok (.iconst 1, 1) := by decide +kernel
theorem dX4_sortClause_95 : decode cX4_sortClause 95 = .ok (.iadd, 1) := by decide +kernel
theorem dX4_sortClause_96 : decode cX4_sortClause 96 = .ok (.putfield 74, 3) := by decide +kernel
theorem dX4_sortClause_99 : decode cX4_sortClause 99 = .ok (.iconst 1, 1) := by decide +kernel
theorem dX4_sortClause_100 : decode cX4_sortClause 100 = .ok (.ireturn, 1) := by decide +kernel
theorem dX4_sortClause_35 : decode cX4_sortClause 35 = .ok (.iconst 0, 1) := by decide +kernel
theorem dX4_sortClause_36 : decode cX4_sortClause 36 = .ok (.ireturn, 1) := by decide +kernel
theorem dX4_bendClause_0 : decode cX4_bendClause 0 = .ok (.aload_n 0, 1) := by decide +kernel
theorem dX4_bendClause_1 : decode cX4_bendClause 1 = .ok (.aload_n 1, 1) := by decide +kernel
theorem dX4_bendClause_2 : decode cX4_bendClause 2 = .ok (.iconst 0, 1) := by decide +kernel
theorem dX4_bendClause_3 : decode cX4_bendClause 3 = .ok (.aload_n 0, 1) := by decide +kernel
theorem dX4_bendClause_4 : decode cX4_bendClause 4 = .ok (.getfield 12, 3) := by decide +kernel
theorem dX4_bendClause_7 : decode cX4_bendClause 7 = .ok (.getfield 74, 3) := by decide +kernel
theorem dX4_bendClause_10 : decode cX4_bendClause 10 = .ok (.iconst 1, 1) := by decide +kernel
theorem dX4_bendClause_11 : decode cX4_bendClause 11 = .ok (.isub, 1) := by decide +kernel
theorem dX4_bendClause_12 : decode cX4_bendClause 12 = .ok (.invokevirtual 83, 3) := by decide +kernel
theorem dX4_bendClause_15 : decode cX4_bendClause 15 = .ok (.istore_n 2, 1) := by decide +kernel
theorem dX4_bendClause_16 : decode cX4_bendClause 16 = .ok (.aload_n 0, 1) := by decide +kernel
theorem dX4_bendClause_17 : decode cX4_bendClause 17 = .ok (.aload_n 1, 1) := by decide +kernel
theorem dX4_bendClause_18 : decode cX4_bendClause 18 = .ok (.iconst 0, 1) := by decide +kernel
theorem dX4_bendClause_19 : decode cX4_bendClause 19 = .ok (.aload_n 0, 1) := by decide +kernel
theorem dX4_bendClause_20 : decode cX4_bendClause 20 = .ok (.getfield 12, 3) := by decide +kernel
theorem dX4_bendClause_23 : decode cX4_bendClause 23 = .ok (.getfield 74, 3) := by decide +kernel
theorem dX4_bendClause_26 : decode cX4_bendClause 26 = .ok (.iconst 1, 1) := by decide +kernel
theorem dX4_bendClause_27 : decode cX4_bendClause 27 = .ok (.isub, 1) := by decide +kernel
theorem dX4_bendClause_28 : decode cX4_bendClause 28 = .ok (.invokevirtual 83, 3) := by decide +kernel
theorem dX4_bendClause_31 : decode cX4_bendClause 31 = .ok (.istore_n 3, 1) := by decide +kernel
theorem dX4_bendClause_32 : decode cX4_bendClause 32 = .ok (.aload_n 1, 1) := by decide +kernel
theorem dX4_bendClause_33 : decode cX4_bendClause 33 = .ok (.getfield 45, 3) := by decide +kernel
theorem dX4_bendClause_36 : decode cX4_bendClause 36 = .ok (.ifCond .eq 5, 3) := by decide +kernel
theorem dX4_bendClause_41 : decode cX4_bendClause 41 = .ok (.aload_n 0, 1) := by decide +kernel
theorem dX4_bendClause_42 : decode cX4_bendClause 42 = .ok (.getfield 12, 3) := by decide +kernel
theorem dX4_bendClause_45 : decode cX4_bendClause 45 = .ok (.getfield 100, 3) := by decide +kernel
theorem dX4_bendClause_48 : decode cX4_bendClause 48 = .ok (.aload_n 0, 1) := by decide +kernel
theorem dX4_bendClause_49 : decode cX4_bendClause 49 = .ok (.getfield 12, 3) := by decide +kernel
theorem dX4_bendClause_52 : decode cX4_bendClause 52 = .ok (.getfield 77, 3) := by decide +kernel
theorem dX4_bendClause_55 : decode cX4_bendClause 55 = .ok (.iload_n 2, 1) := by decide +kernel
theorem dX4_bendClause_56 : decode cX4_bendClause 56 = .ok (.iastore, 1) := by decide +kernel
theorem dX4_bendClause_57 : decode cX4_bendClause 57 = .ok (.aload_n 0, 1) := by decide +kernel
theorem dX4_bendClause_58 : decode cX4_bendClause 58 = .ok (.getfield 12, 3) := by decide +kernel
theorem dX4_bendClause_61 : decode cX4_bendClause 61 = .ok (.getfield 103, 3) := by decide +kernel
theorem dX4_bendClause_64 : decode cX4_bendClause 64 = .ok (.aload_n 0, 1) := by decide +kernel
theorem dX4_bendClause_65 : decode cX4_bendClause 65 = .ok (.getfield 12, 3) := by decide +kernel
theorem dX4_bendClause_68 : decode cX4_bendClause 68 = .ok (.getfield 77, 3) := by decide +kernel
theorem dX4_bendClause_71 : decode cX4_bendClause 71 = .ok (.iload_n 3, 1) := by decide +kernel
theorem dX4_bendClause_72 : decode cX4_bendClause 72 = .ok (.iastore, 1) := by decide +kernel
theorem dX4_bendClause_73 : decode cX4_bendClause 73 = .ok (.aload_n 0, 1) := by decide +kernel
theorem dX4_bendClause_74 : decode cX4_bendClause 74 = .ok (.getfield 12, 3) := by decide +kernel
theorem dX4_bendClause_77 : decode cX4_bendClause 77 = .ok (.dup, 1) := by decide +kernel
theorem dX4_bendClause_78 : decode cX4_bendClause 78 = .ok (.getfield 77, 3) := by decide +kernel
theorem dX4_bendClause_81 : decode cX4_bendClause 81 = .ok (.iconst 1, 1) := by decide +kernel
theorem dX4_bendClause_82 : decode cX4_bendClause 82 = .ok (.iadd, 1) := by decide +kernel
theorem dX4_bendClause_83 : decode cX4_bendClause 83 = .ok (.putfield 77, 3) := by decide +kernel
theorem dX4_bendClause_86 : decode cX4_bendClause 86 = .ok (.iconst 1, 1) := by decide +kernel
theorem dX4_bendClause_87 : decode cX4_bendClause 87 = .ok (.ireturn, 1) := by decide +kernel
theorem dX4_bendClause_39 : decode cX4_bendClause 39 = .ok (.iconst 0, 1) := by decide +kernel
theorem dX4_bendClause_40 : decode cX4_bendClause 40 = .ok (.ireturn, 1) := by decide +kernel
theorem dX4_pilgrimClause_0 : decode cX4_pilgrimClause 0 = .ok (.aload_n 0, 1) := by decide +kernel
theorem dX4_pilgrimClause_1 : decode cX4_pilgrimClause 1 = .ok (.aload_n 1, 1) := by decide +kernel
theorem dX4_pilgrimClause_2 : decode cX4_pilgrimClause 2 = .ok (.iconst 0, 1) := by decide +kernel
theorem dX4_pilgrimClause_3 : decode cX4_pilgrimClause 3 = .ok (.bipush 99, 2) := by decide +kernel
theorem dX4_pilgrimClause_5 : decode cX4_pilgrimClause 5 = .ok (.invokevirtual 83, 3) := by decide +kernel
theorem dX4_pilgrimClause_8 : decode cX4_pilgrimClause 8 = .ok (.istore_n 2, 1) := by decide +kernel
theorem dX4_pilgrimClause_9 : decode cX4_pilgrimClause 9 = .ok (.aload_n 1, 1) := by decide +kernel
theorem dX4_pilgrimClause_10 : decode cX4_pilgrimClause 10 = .ok (.getfield 45, 3) := by decide +kernel
theorem dX4_pilgrimClause_13 : decode cX4_pilgrimClause 13 = .ok (.ifCond .eq 5, 3) := by decide +kernel
theorem dX4_pilgrimClause_18 : decode cX4_pilgrimClause 18 = .ok (.aload_n 0, 1) := by decide +kernel
theorem dX4_pilgrimClause_19 : decode cX4_pilgrimClause 19 = .ok (.getfield 12, 3) := by decide +kernel
theorem dX4_pilgrimClause_22 : decode cX4_pilgrimClause 22 = .ok (.getfield 106, 3) := by decide +kernel
theorem dX4_pilgrimClause_25 : decode cX4_pilgrimClause 25 = .ok (.getfield 110, 3) := by decide +kernel
theorem dX4_pilgrimClause_28 : decode cX4_pilgrimClause 28 = .ok (.aload_n 0, 1) := by decide +kernel
theorem dX4_pilgrimClause_29 : decode cX4_pilgrimClause 29 = .ok (.getfield 12, 3) := by decide +kernel
theorem dX4_pilgrimClause_32 : decode cX4_pilgrimClause 32 = .ok (.getfield 80, 3) := by decide +kernel
theorem dX4_pilgrimClause_35 : decode cX4_pilgrimClause 35 = .ok (.iload_n 2, 1) := by decide +kernel
theorem dX4_pilgrimClause_36 : decode cX4_pilgrimClause 36 = .ok (.iastore, 1) := by decide +kernel
theorem dX4_pilgrimClause_37 : decode cX4_pilgrimClause 37 = .ok (.aload_n 0, 1) := by decide +kernel
theorem dX4_pilgrimClause_38 : decode cX4_pilgrimClause 38 = .ok (.getfield 12, 3) := by decide +kernel
theorem dX4_pilgrimClause_41 : decode cX4_pilgrimClause 41 = .ok (.dup, 1) := by decide +kernel
theorem dX4_pilgrimClause_42 : decode cX4_pilgrimClause 42 = .ok (.getfield 80, 3) := by decide +kernel
theorem dX4_pilgrimClause_45 : decode cX4_pilgrimClause 45 = .ok (.iconst 1, 1) := by decide +kernel
theorem dX4_pilgrimClause_46 : decode cX4_pilgrimClause 46 = .ok (.iadd, 1) := by decide +kernel
theorem dX4_pilgrimClause_47 : decode cX4_pilgrimClause 47 = .ok (.putfield 80, 3) := by decide +kernel
theorem dX4_pilgrimClause_50 : decode cX4_pilgrimClause 50 = .ok (.iconst 1, 1) := by decide +kernel
theorem dX4_pilgrimClause_51 : decode cX4_pilgrimClause 51 = .ok (.ireturn, 1) := by decide +kernel
theorem dX4_pilgrimClause_16 : decode cX4_pilgrimClause 16 = .ok (.iconst 0, 1) := by decide +kernel
theorem dX4_pilgrimClause_17 : decode cX4_pilgrimClause 17 = .ok (.ireturn, 1) := by decide +kernel
theorem dX4_mostMore_0 : decode cX4_mostMore 0 = .ok (.iconst 4, 1) := by decide +kernel
theorem dX4_mostMore_1 : decode cX4_mostMore 1 = .ok (.bipush 9, 2) := by decide +kernel
theorem dX4_mostMore_3 : decode cX4_mostMore 3 = .ok (.aload_n 0, 1) := by decide +kernel
theorem dX4_mostMore_4 : decode cX4_mostMore 4 = .ok (.getfield 12, 3) := by decide +kernel
theorem dX4_mostMore_7 : decode cX4_mostMore 7 = .ok (.getfield 106, 3) := by decide +kernel
theorem dX4_mostMore_10 : decode cX4_mostMore 10 = .ok (.getfield 119, 3) := by decide +kernel
theorem dX4_mostMore_13 : decode cX4_mostMore 13 = .ok (.iload_n 1, 1) := by decide +kernel
theorem dX4_mostMore_14 : decode cX4_mostMore 14 = .ok (.iconst 5, 1) := by decide +kernel
theorem dX4_mostMore_15 : decode cX4_mostMore 15 = .ok (.imul, 1) := by decide +kernel
theorem dX4_mostMore_16 : decode cX4_mostMore 16 = .ok (.iload_n 2, 1) := by decide +kernel
theorem dX4_mostMore_17 : decode cX4_mostMore 17 = .ok (.iadd, 1) := by decide +kernel
theorem dX4_mostMore_18 : decode cX4_mostMore 18 = .ok (.iaload, 1) := by decide +kernel
theorem dX4_mostMore_19 : decode cX4_mostMore 19 = .ok (.isub, 1) := by decide +kernel
theorem dX4_mostMore_20 : decode cX4_mostMore 20 = .ok (.invokestatic 122, 3) := by decide +kernel
theorem dX4_mostMore_23 : decode cX4_mostMore 23 = .ok (.istore_n 3, 1) := by decide +kernel
theorem dX4_mostMore_24 : decode cX4_mostMore 24 = .ok (.aload_n 0, 1) := by decide +kernel
theorem dX4_mostMore_25 : decode cX4_mostMore 25 = .ok (.getfield 12, 3) := by decide +kernel
theorem dX4_mostMore_28 : decode cX4_mostMore 28 = .ok (.getfield 87, 3) := by decide +kernel
theorem dX4_mostMore_31 : decode cX4_mostMore 31 = .ok (.aload_n 0, 1) := by decide +kernel
theorem dX4_mostMore_32 : decode cX4_mostMore 32 = .ok (.getfield 12, 3) := by decide +kernel
theorem dX4_mostMore_35 : decode cX4_mostMore 35 = .ok (.getfield 106, 3) := by decide +kernel
theorem dX4_mostMore_38 : decode cX4_mostMore 38 = .ok (.aload_n 0, 1) := by decide +kernel
theorem dX4_mostMore_39 : decode cX4_mostMore 39 = .ok (.getfield 12, 3) := by decide +kernel
theorem dX4_mostMore_42 : decode cX4_mostMore 42 = .ok (.iload_n 1, 1) := by decide +kernel
theorem dX4_mostMore_43 : decode cX4_mostMore 43 = .ok (.invokevirtual 127, 3) := by decide +kernel
theorem dX4_mostMore_46 : decode cX4_mostMore 46 = .ok (.isub, 1) := by decide +kernel
theorem dX4_mostMore_47 : decode cX4_mostMore 47 = .ok (.istore 4, 2) := by decide +kernel
theorem dX4_mostMore_49 : decode cX4_mostMore 49 = .ok (.iload_n 3, 1) := by decide +kernel
theorem dX4_mostMore_50 : decode cX4_mostMore 50 = .ok (.iload 4, 2) := by decide +kernel
theorem dX4_mostMore_52 : decode cX4_mostMore 52 = .ok (.iconst 1, 1) := by decide +kernel
theorem dX4_mostMore_53 : decode cX4_mostMore 53 = .ok (.aload_n 0, 1) := by decide +kernel
theorem dX4_mostMore_54 : decode cX4_mostMore 54 = .ok (.getfield 12, 3) := by decide +kernel
theorem dX4_mostMore_57 : decode cX4_mostMore 57 = .ok (.getfield 90, 3) := by decide +kernel
theorem dX4_mostMore_60 : decode cX4_mostMore 60 = .ok (.iload_n 2, 1) := by decide +kernel
theorem dX4_mostMore_61 : decode cX4_mostMore 61 = .ok (.iaload, 1) := by decide +kernel
theorem dX4_mostMore_62 : decode cX4_mostMore 62 = .ok (.invokestatic 131, 3) := by decide +kernel
theorem dX4_mostMore_65 : decode cX4_mostMore 65 = .ok (.idiv, 1) := by decide +kernel
theorem dX4_mostMore_66 : decode cX4_mostMore 66 = .ok (.invokestatic 122, 3) := by decide +kernel
theorem dX4_mostMore_69 : decode cX4_mostMore 69 = .ok (.ireturn, 1) := by decide +kernel
theorem dX4_hasClause_0 : decode cX4_hasClause 0 = .ok (.aload_n 0, 1) := by decide +kernel
theorem dX4_hasClause_1 : decode cX4_hasClause 1 = .ok (.aload_n 1, 1) := by decide +kernel
theorem dX4_hasClause_2 : decode cX4_hasClause 2 = .ok (.iconst 0, 1) := by decide +kernel
theorem dX4_hasClause_3 : decode cX4_hasClause 3 = .ok (.aload_n 0, 1) := by decide +kernel
theorem dX4_hasClause_4 : decode cX4_hasClause 4 = .ok (.getfield 12, 3) := by decide +kernel
theorem dX4_hasClause_7 : decode cX4_hasClause 7 = .ok (.getfield 80, 3) := by decide +kernel
theorem dX4_hasClause_10 : decode cX4_hasClause 10 = .ok (.iconst 1, 1) := by decide +kernel
theorem dX4_hasClause_11 : decode cX4_hasClause 11 = .ok (.isub, 1) := by decide +kernel
theorem dX4_hasClause_12 : decode cX4_hasClause 12 = .ok (.invokevirtual 83, 3) := by decide +kernel
theorem dX4_hasClause_15 : decode cX4_hasClause 15 = .ok (.istore_n 2, 1) := by decide +kernel
theorem dX4_hasClause_16 : decode cX4_hasClause 16 = .ok (.aload_n 0, 1) := by decide +kernel
theorem dX4_hasClause_17 : decode cX4_hasClause 17 = .ok (.aload_n 1, 1) := by decide +kernel
theorem dX4_hasClause_18 : decode cX4_hasClause 18 = .ok (.iconst 0, 1) := by decide +kernel
theorem dX4_hasClause_19 : decode cX4_hasClause 19 = .ok (.aload_n 0, 1) := by decide +kernel
theorem dX4_hasClause_20 : decode cX4_hasClause 20 = .ok (.getfield 12, 3) := by decide +kernel
theorem dX4_hasClause_23 : decode cX4_hasClause 23 = .ok (.getfield 74, 3) := by decide +kernel
theorem dX4_hasClause_26 : decode cX4_hasClause 26 = .ok (.iconst 1, 1) := by decide +kernel
theorem dX4_hasClause_27 : decode cX4_hasClause 27 = .ok (.isub, 1) := by decide +kernel
theorem dX4_hasClause_28 : decode cX4_hasClause 28 = .ok (.invokevirtual 83, 3) := by decide +kernel
theorem dX4_hasClause_31 : decode cX4_hasClause 31 = .ok (.istore_n 3, 1) := by decide +kernel
theorem dX4_hasClause_32 : decode cX4_hasClause 32 = .ok (.aload_n 1, 1) := by decide +kernel
theorem dX4_hasClause_33 : decode cX4_hasClause 33 = .ok (.getfield 45, 3) := by decide +kernel
theorem dX4_hasClause_36 : decode cX4_hasClause 36 = .ok (.ifCond .eq 5, 3) := by decide +kernel
theorem dX4_hasClause_41 : decode cX4_hasClause 41 = .ok (.aload_n 0, 1) := by decide +kernel
theorem dX4_hasClause_42 : decode cX4_hasClause 42 = .ok (.aload_n 1, 1) := by decide +kernel
theorem dX4_hasClause_43 : decode cX4_hasClause 43 = .ok (.iconst 1, 1) := by decide +kernel
theorem dX4_hasClause_44 : decode cX4_hasClause 44 = .ok (.aload_n 0, 1) := by decide +kernel
theorem dX4_hasClause_45 : decode cX4_hasClause 45 = .ok (.iload_n 2, 1) := by decide +kernel
theorem dX4_hasClause_46 : decode cX4_hasClause 46 = .ok (.iload_n 3, 1) := by decide +kernel
theorem dX4_hasClause_47 : decode cX4_hasClause 47 = .ok (.invokevirtual 115, 3) := by decide +kernel
theorem dX4_hasClause_50 : decode cX4_hasClause 50 = .ok (.invokevirtual 83, 3) := by decide +kernel
theorem dX4_hasClause_53 : decode cX4_hasClause 53 = .ok (.istore 4, 2) := by decide +kernel
theorem dX4_hasClause_55 : decode cX4_hasClause 55 = .ok (.aload_n 1, 1) := by decide +kernel
theorem dX4_hasClause_56 : decode cX4_hasClause 56 = .ok (.getfield 45, 3) := by decide +kernel
theorem dX4_hasClause_59 : decode cX4_hasClause 59 = .ok (.ifCond .eq 5, 3) := by decide +kernel
theorem dX4_hasClause_64 : decode cX4_hasClause 64 = .ok (.aload_n 0, 1) := by decide +kernel
theorem dX4_hasClause_65 : decode cX4_hasClause 65 = .ok (.getfield 12, 3) := by decide +kernel
theorem dX4_hasClause_68 : decode cX4_hasClause 68 = .ok (.getfield 106, 3) := by decide +kernel
theorem dX4_hasClause_71 : decode cX4_hasClause 71 = .ok (.getfield 119, 3) := by decide +kernel
theorem dX4_hasClause_74 : decode cX4_hasClause 74 = .ok (.iload_n 2, 1) := by decide +kernel
theorem dX4_hasClause_75 : decode cX4_hasClause 75 = .ok (.iconst 5, 1) := by decide +kernel
theorem dX4_hasClause_76 : decode cX4_hasClause 76 = .ok (.imul, 1) := by decide +kernel
theorem dX4_hasClause_77 : decode cX4_hasClause 77 = .ok (.iload_n 3, 1) := by decide +kernel
theorem dX4_hasClause_78 : decode cX4_hasClause 78 = .ok (.iadd, 1) := by decide +kernel
theorem dX4_hasClause_79 : decode cX4_hasClause 79 = .ok (.dup2, 1) := by decide +kernel
theorem dX4_hasClause_80 : decode cX4_hasClause 80 = .ok (.iaload, 1) := by decide +kernel
theorem dX4_hasClause_81 : decode cX4_hasClause 81 = .ok (.iload 4, 2) := by decide +kernel
theorem dX4_hasClause_83 : decode cX4_hasClause 83 = .ok (.iadd, 1) := by decide +kernel
theorem dX4_hasClause_84 : decode cX4_hasClause 84 = .ok (.iastore, 1) := by decide +kernel
theorem dX4_hasClause_85 : decode cX4_hasClause 85 = .ok (.iconst 1, 1) := by decide +kernel
theorem dX4_hasClause_86 : decode cX4_hasClause 86 = .ok (.ireturn, 1) := by decide +kernel
theorem dX4_hasClause_62 : decode cX4_hasClause 62 = .ok (.iconst 0, 1) := by decide +kernel
theorem dX4_hasClause_63 : decode cX4_hasClause 63 = .ok (.ireturn, 1) := by decide +kernel
theorem dX4_hasClause_39 : decode cX4_hasClause 39 = .ok (.iconst 0, 1) := by decide +kernel
theorem dX4_hasClause_40 : decode cX4_hasClause 40 = .ok (.ireturn, 1) := by decide +kernel
theorem dX4_heapClause_0 : decode cX4_heapClause 0 = .ok (.aload_n 0, 1) := by decide +kernel
theorem dX4_heapClause_1 : decode cX4_heapClause 1 = .ok (.aload_n 1, 1) := by decide +kernel
theorem dX4_heapClause_2 : decode cX4_heapClause 2 = .ok (.iconst 0, 1) := by decide +kernel
theorem dX4_heapClause_3 : decode cX4_heapClause 3 = .ok (.aload_n 0, 1) := by decide +kernel
theorem dX4_heapClause_4 : decode cX4_heapClause 4 = .ok (.getfield 12, 3) := by decide +kernel
theorem dX4_heapClause_7 : decode cX4_heapClause 7 = .ok (.getfield 77, 3) := by decide +kernel
theorem dX4_heapClause_10 : decode cX4_heapClause 10 = .ok (.iconst 1, 1) := by decide +kernel
theorem dX4_heapClause_11 : decode cX4_heapClause 11 = .ok (.isub, 1) := by decide +kernel
theorem dX4_heapClause_12 : decode cX4_heapClause 12 = .ok (.invokevirtual 83, 3) := by decide +kernel
theorem dX4_heapClause_15 : decode cX4_heapClause 15 = .ok (.istore_n 2, 1) := by decide +kernel
theorem dX4_heapClause_16 : decode cX4_heapClause 16 = .ok (.aload_n 0, 1) := by decide +kernel
theorem dX4_heapClause_17 : decode cX4_heapClause 17 = .ok (.aload_n 1, 1) := by decide +kernel
theorem dX4_heapClause_18 : decode cX4_heapClause 18 = .ok (.iconst 0, 1) := by decide +kernel
theorem dX4_heapClause_19 : decode cX4_heapClause 19 = .ok (.aload_n 0, 1) := by decide +kernel
theorem dX4_heapClause_20 : decode cX4_heapClause 20 = .ok (.getfield 12, 3) := by decide +kernel
theorem dX4_heapClause_23 : decode cX4_heapClause 23 = .ok (.getfield 74, 3) := by decide +kernel
theorem dX4_heapClause_26 : decode cX4_heapClause 26 = .ok (.iconst 1, 1) := by decide +kernel
theorem dX4_heapClause_27 : decode cX4_heapClause 27 = .ok (.isub, 1) := by decide +kernel
theorem dX4_heapClause_28 : decode cX4_heapClause 28 = .ok (.invokevirtual 83, 3) := by decide +kernel
theorem dX4_heapClause_31 : decode cX4_heapClause 31 = .ok (.istore_n 3, 1) := by decide +kernel
theorem dX4_heapClause_32 : decode cX4_heapClause 32 = .ok (.aload_n 0, 1) := by decide +kernel
theorem dX4_heapClause_33 : decode cX4_heapClause 33 = .ok (.aload_n 1, 1) := by decide +kernel
theorem dX4_heapClause_34 : decode cX4_heapClause 34 = .ok (.iconst 0, 1) := by decide +kernel
theorem dX4_heapClause_35 : decode cX4_heapClause 35 = .ok (.bipush 9, 2) := by decide +kernel
theorem dX4_heapClause_37 : decode cX4_heapClause 37 = .ok (.invokevirtual 83, 3) := by decide +kernel
theorem dX4_heapClause_40 : decode cX4_heapClause 40 = .ok (.istore 4, 2) := by decide +kernel
theorem dX4_heapClause_42 : decode cX4_heapClause 42 = .ok (.aload_n 1, 1) := by decide +kernel
theorem dX4_heapClause_43 : decode cX4_heapClause 43 = .ok (.getfield 45, 3) := by decide +kernel
theorem dX4_heapClause_46 : decode cX4_heapClause 46 = .ok (.ifCond .eq 5, 3) := by decide +kernel
theorem dX4_heapClause_51 : decode cX4_heapClause 51 = .ok (.aload_n 0, 1) := by decide +kernel
theorem dX4_heapClause_52 : decode cX4_heapClause 52 = .ok (.getfield 12, 3) := by decide +kernel
theorem dX4_heapClause_55 : decode cX4_heapClause 55 = .ok (.getfield 106, 3) := by decide +kernel
theorem dX4_heapClause_58 : decode cX4_heapClause 58 = .ok (.getfield 134, 3) := by decide +kernel
theorem dX4_heapClause_61 : decode cX4_heapClause 61 = .ok (.iload_n 2, 1) := by decide +kernel
theorem dX4_heapClause_62 : decode cX4_heapClause 62 = .ok (.iconst 5, 1) := by decide +kernel
theorem dX4_heapClause_63 : decode cX4_heapClause 63 = .ok (.imul, 1) := by decide +kernel
theorem dX4_heapClause_64 : decode cX4_heapClause 64 = .ok (.iload_n 3, 1) := by decide +kernel
theorem dX4_heapClause_65 : decode cX4_heapClause 65 = .ok (.iadd, 1) := by decide +kernel
theorem dX4_heapClause_66 : decode cX4_heapClause 66 = .ok (.iload 4, 2) := by decide +kernel
theorem dX4_heapClause_68 : decode cX4_heapClause 68 = .ok (.iastore, 1) := by decide +kernel
theorem dX4_heapClause_69 : decode cX4_heapClause 69 = .ok (.iconst 1, 1) := by decide +kernel
theorem dX4_heapClause_70 : decode cX4_heapClause 70 = .ok (.ireturn, 1) := by decide +kernel
theorem dX4_heapClause_49 : decode cX4_heapClause 49 = .ok (.iconst 0, 1) := by decide +kernel
theorem dX4_heapClause_50 : decode cX4_heapClause 50 = .ok (.ireturn, 1) := by decide +kernel
theorem dX4_isFull_0 : decode cX4_isFull 0 = .ok (.iload_n 1, 1) := by decide +kernel
theorem dX4_isFull_1 : decode cX4_isFull 1 = .ok (.tableswitch 79 1 3 #[27, 44, 62], 27) := by decide +kernel
theorem dX4_isFull_80 : decode cX4_isFull 80 = .ok (.iconst 0, 1) := by decide +kernel
theorem dX4_isFull_81 : decode cX4_isFull 81 = .ok (.ireturn, 1) := by decide +kernel
theorem dX4_isFull_28 : decode cX4_isFull 28 = .ok (.aload_n 0, 1) := by decide +kernel
theorem dX4_isFull_29 : decode cX4_isFull 29 = .ok (.getfield 12, 3) := by decide +kernel
theorem dX4_isFull_32 : decode cX4_isFull 32 = .ok (.getfield 74, 3) := by decide +kernel
theorem dX4_isFull_35 : decode cX4_isFull 35 = .ok (.iconst 5, 1) := by decide +kernel
theorem dX4_isFull_36 : decode cX4_isFull 36 = .ok (.if_icmp .lt 7, 3) := by decide +kernel
theorem dX4_isFull_43 : decode cX4_isFull 43 = .ok (.iconst 0, 1) := by decide +kernel
theorem dX4_isFull_44 : decode cX4_isFull 44 = .ok (.ireturn, 1) := by decide +kernel
theorem dX4_isFull_39 : decode cX4_isFull 39 = .ok (.iconst 1, 1) := by decide +kernel
theorem dX4_isFull_40 : decode cX4_isFull 40 = .ok (.goto 4, 3) := by decide +kernel
theorem dX4_isFull_45 : decode cX4_isFull 45 = .ok (.aload_n 0, 1) := by decide +kernel
theorem dX4_isFull_46 : decode cX4_isFull 46 = .ok (.getfield 12, 3) := by decide +kernel
theorem dX4_isFull_49 : decode cX4_isFull 49 = .ok (.getfield 77, 3) := by decide +kernel
theorem dX4_isFull_52 : decode cX4_isFull 52 = .ok (.bipush 8, 2) := by decide +kernel
theorem dX4_isFull_54 : decode cX4_isFull 54 = .ok (.if_icmp .lt 7, 3) := by decide +kernel
theorem dX4_isFull_61 : decode cX4_isFull 61 = .ok (.iconst 0, 1) := by decide +kernel
theorem dX4_isFull_62 : decode cX4_isFull 62 = .ok (.ireturn, 1) := by decide +kernel
theorem dX4_isFull_57 : decode cX4_isFull 57 = .ok (.iconst 1, 1) := by decide +kernel
theorem dX4_isFull_58 : decode cX4_isFull 58 = .ok (.goto 4, 3) := by decide +kernel
theorem dX4_isFull_63 : decode cX4_isFull 63 = .ok (.aload_n 0, 1) := by decide +kernel
theorem dX4_isFull_64 : decode cX4_isFull 64 = .ok (.getfield 12, 3) := by decide +kernel
theorem dX4_isFull_67 : decode cX4_isFull 67 = .ok (.getfield 80, 3) := by decide +kernel
theorem dX4_isFull_70 : decode cX4_isFull 70 = .ok (.iconst 4, 1) := by decide +kernel
theorem dX4_isFull_71 : decode cX4_isFull 71 = .ok (.if_icmp .lt 7, 3) := by decide +kernel
theorem dX4_isFull_78 : decode cX4_isFull 78 = .ok (.iconst 0, 1) := by decide +kernel
theorem dX4_isFull_79 : decode cX4_isFull 79 = .ok (.ireturn, 1) := by decide +kernel
theorem dX4_isFull_74 : decode cX4_isFull 74 = .ok (.iconst 1, 1) := by decide +kernel
theorem dX4_isFull_75 : decode cX4_isFull 75 = .ok (.goto 4, 3) := by decide +kernel
theorem dX4_clause_0 : decode cX4_clause 0 = .ok (.aload_n 1, 1) := by decide +kernel
theorem dX4_clause_1 : decode cX4_clause 1 = .ok (.aload_n 0, 1) := by decide +kernel
theorem dX4_clause_2 : decode cX4_clause 2 = .ok (.getfield 29, 3) := by decide +kernel
theorem dX4_clause_5 : decode cX4_clause 5 = .ok (.invokevirtual 37, 3) := by decide +kernel
theorem dX4_clause_8 : decode cX4_clause 8 = .ok (.sipush 131, 3) := by decide +kernel
theorem dX4_clause_11 : decode cX4_clause 11 = .ok (.if_icmp .ne 14, 3) := by decide +kernel
theorem dX4_clause_25 : decode cX4_clause 25 = .ok (.iconst (-1), 1) := by decide +kernel
theorem dX4_clause_26 : decode cX4_clause 26 = .ok (.istore_n 3, 1) := by decide +kernel
theorem dX4_clause_27 : decode cX4_clause 27 = .ok (.iload_n 3, 1) := by decide +kernel
theorem dX4_clause_28 : decode cX4_clause 28 = .ok (.ifCond .lt 8, 3) := by decide +kernel
theorem dX4_clause_36 : decode cX4_clause 36 = .ok (.aload_n 1, 1) := by decide +kernel
theorem dX4_clause_37 : decode cX4_clause 37 = .ok (.aload_n 0, 1) := by decide +kernel
theorem dX4_clause_38 : decode cX4_clause 38 = .ok (.getfield 29, 3) := by decide +kernel
theorem dX4_clause_41 : decode cX4_clause 41 = .ok (.iconst 0, 1) := by decide +kernel
theorem dX4_clause_42 : decode cX4_clause 42 = .ok (.invokevirtual 41, 3) := by decide +kernel
theorem dX4_clause_45 : decode cX4_clause 45 = .ok (.ireturn, 1) := by decide +kernel
theorem dX4_clause_14 : decode cX4_clause 14 = .ok (.aload_n 1, 1) := by decide +kernel
theorem dX4_clause_15 : decode cX4_clause 15 = .ok (.aload_n 0, 1) := by decide +kernel
theorem dX4_clause_16 : decode cX4_clause 16 = .ok (.getfield 29, 3) := by decide +kernel
theorem dX4_clause_19 : decode cX4_clause 19 = .ok (.invokevirtual 48, 3) := by decide +kernel
theorem dX4_clause_22 : decode cX4_clause 22 = .ok (.goto 4, 3) := by decide +kernel
theorem dX4_clause_31 : decode cX4_clause 31 = .ok (.iload_n 3, 1) := by decide +kernel
theorem dX4_clause_32 : decode cX4_clause 32 = .ok (.iconst 5, 1) := by decide +kernel
theorem dX4_clause_33 : decode cX4_clause 33 = .ok (.if_icmp .le 13, 3) := by decide +kernel
theorem dX4_clause_46 : decode cX4_clause 46 = .ok (.iload_n 3, 1) := by decide +kernel
theorem dX4_clause_47 : decode cX4_clause 47 = .ok (.ifCond .ne 7, 3) := by decide +kernel
theorem dX4_clause_54 : decode cX4_clause 54 = .ok (.iconst 0, 1) := by decide +kernel
theorem dX4_clause_55 : decode cX4_clause 55 = .ok (.iload_n 2, 1) := by decide +kernel
theorem dX4_clause_56 : decode cX4_clause 56 = .ok (.ifCond .ne 7, 3) := by decide +kernel
theorem dX4_clause_63 : decode cX4_clause 63 = .ok (.iconst 0, 1) := by decide +kernel
theorem dX4_clause_64 : decode cX4_clause 64 = .ok (.if_icmp .eq 7, 3) := by decide +kernel
theorem dX4_clause_71 : decode cX4_clause 71 = .ok (.iconst 0, 1) := by decide +kernel
theorem dX4_clause_72 : decode cX4_clause 72 = .ok (.istore 4, 2) := by decide +kernel
theorem dX4_clause_74 : decode cX4_clause 74 = .ok (.iload_n 2, 1) := by decide +kernel
theorem dX4_clause_75 : decode cX4_clause 75 = .ok (.bipush 40, 2) := by decide +kernel
theorem dX4_clause_77 : decode cX4_clause 77 = .ok (.if_icmp .ge 16, 3) := by decide +kernel
theorem dX4_clause_93 : decode cX4_clause 93 = .ok (.aload_n 1, 1) := by decide +kernel
theorem dX4_clause_94 : decode cX4_clause 94 = .ok (.aload_n 0, 1) := by decide +kernel
theorem dX4_clause_95 : decode cX4_clause 95 = .ok (.getfield 29, 3) := by decide +kernel
theorem dX4_clause_98 : decode cX4_clause 98 = .ok (.iconst 4, 1) := by decide +kernel
theorem dX4_clause_99 : decode cX4_clause 99 = .ok (.invokevirtual 41, 3) := by decide +kernel
theorem dX4_clause_102 : decode cX4_clause 102 = .ok (.ireturn, 1) := by decide +kernel
theorem dX4_clause_80 : decode cX4_clause 80 = .ok (.iload 4, 2) := by decide +kernel
theorem dX4_clause_82 : decode cX4_clause 82 = .ok (.ifCond .ne 11, 3) := by decide +kernel
theorem dX4_clause_85 : decode cX4_clause 85 = .ok (.aload_n 0, 1) := by decide +kernel
theorem dX4_clause_86 : decode cX4_clause 86 = .ok (.iload_n 3, 1) := by decide +kernel
theorem dX4_clause_87 : decode cX4_clause 87 = .ok (.invokevirtual 51, 3) := by decide +kernel
theorem dX4_clause_90 : decode cX4_clause 90 = .ok (.ifCond .eq 13, 3) := by decide +kernel
theorem dX4_clause_103 : decode cX4_clause 103 = .ok (.aload_n 0, 1) := by decide +kernel
theorem dX4_clause_104 : decode cX4_clause 104 = .ok (.dup, 1) := by decide +kernel
theorem dX4_clause_105 : decode cX4_clause 105 = .ok (.getfield 29, 3) := by decide +kernel
theorem dX4_clause_108 : decode cX4_clause 108 = .ok (.iconst 1, 1) := by decide +kernel
theorem dX4_clause_109 : decode cX4_clause 109 = .ok (.iadd, 1) := by decide +kernel
theorem dX4_clause_110 : decode cX4_clause 110 = .ok (.putfield 29, 3) := by decide +kernel
theorem dX4_clause_113 : decode cX4_clause 113 = .ok (.iload_n 3, 1) := by decide +kernel
theorem dX4_clause_114 : decode cX4_clause 114 = .ok (.tableswitch 64 0 4 #[34, 40, 46, 52, 58], 34) := by decide +kernel
theorem dX4_clause_178 : decode cX4_clause 178 = .ok (.aload_n 0, 1) := by decide +kernel
theorem dX4_clause_179 : decode cX4_clause 179 = .ok (.aload_n 1, 1) := by decide +kernel
theorem dX4_clause_180 : decode cX4_clause 180 = .ok (.invokevirtual 71, 3) := by decide +kernel
theorem dX4_clause_183 : decode cX4_clause 183 = .ok (.ireturn, 1) := by decide +kernel
theorem dX4_clause_148 : decode cX4_clause 148 = .ok (.aload_n 0, 1) := by decide +kernel
theorem dX4_clause_149 : decode cX4_clause 149 = .ok (.aload_n 1, 1) := by decide +kernel
theorem dX4_clause_150 : decode cX4_clause 150 = .ok (.invokevirtual 55, 3) := by decide +kernel
theorem dX4_clause_153 : decode cX4_clause 153 = .ok (.ireturn, 1) := by decide +kernel
theorem dX4_clause_154 : decode cX4_clause 154 = .ok (.aload_n 0, 1) := by decide +kernel
theorem dX4_clause_155 : decode cX4_clause 155 = .ok (.aload_n 1, 1) := by decide +kernel
theorem dX4_clause_156 : decode cX4_clause 156 = .ok (.invokevirtual 59, 3) := by decide +kernel
theorem dX4_clause_159 : decode cX4_clause 159 = .ok (.ireturn, 1) := by decide +kernel
theorem dX4_clause_160 : decode cX4_clause 160 = .ok (.aload_n 0, 1) := by decide +kernel
theorem dX4_clause_161 : decode cX4_clause 161 = .ok (.aload_n 1, 1) := by decide +kernel
theorem dX4_clause_162 : decode cX4_clause 162 = .ok (.invokevirtual 62, 3) := by decide +kernel
theorem dX4_clause_165 : decode cX4_clause 165 = .ok (.ireturn, 1) := by decide +kernel
theorem dX4_clause_166 : decode cX4_clause 166 = .ok (.aload_n 0, 1) := by decide +kernel
theorem dX4_clause_167 : decode cX4_clause 167 = .ok (.aload_n 1, 1) := by decide +kernel
theorem dX4_clause_168 : decode cX4_clause 168 = .ok (.invokevirtual 65, 3) := by decide +kernel
theorem dX4_clause_171 : decode cX4_clause 171 = .ok (.ireturn, 1) := by decide +kernel
theorem dX4_clause_172 : decode cX4_clause 172 = .ok (.aload_n 0, 1) := by decide +kernel
theorem dX4_clause_173 : decode cX4_clause 173 = .ok (.aload_n 1, 1) := by decide +kernel
theorem dX4_clause_174 : decode cX4_clause 174 = .ok (.invokevirtual 68, 3) := by decide +kernel
theorem dX4_clause_177 : decode cX4_clause 177 = .ok (.ireturn, 1) := by decide +kernel
theorem dX4_clause_59 : decode cX4_clause 59 = .ok (.iconst 1, 1) := by decide +kernel
theorem dX4_clause_60 : decode cX4_clause 60 = .ok (.goto 4, 3) := by decide +kernel
theorem dX4_clause_67 : decode cX4_clause 67 = .ok (.iconst 1, 1) := by decide +kernel
theorem dX4_clause_68 : decode cX4_clause 68 = .ok (.goto 4, 3) := by decide +kernel
theorem dX4_clause_50 : decode cX4_clause 50 = .ok (.iconst 1, 1) := by decide +kernel
theorem dX4_clause_51 : decode cX4_clause 51 = .ok (.goto 4, 3) := by decide +kernel
theorem dX6_fillWords_0 : decode cX6_fillWords 0 = .ok (.iload_n 3, 1) := by decide +kernel
theorem dX6_fillWords_1 : decode cX6_fillWords 1 = .ok (.iconst 5, 1) := by decide +kernel
theorem dX6_fillWords_2 : decode cX6_fillWords 2 = .ok (.imul, 1) := by decide +kernel
theorem dX6_fillWords_3 : decode cX6_fillWords 3 = .ok (.istore 4, 2) := by decide +kernel
theorem dX6_fillWords_5 : decode cX6_fillWords 5 = .ok (.aload_n 0, 1) := by decide +kernel
theorem dX6_fillWords_6 : decode cX6_fillWords 6 = .ok (.getfield 11, 3) := by decide +kernel
theorem dX6_fillWords_9 : decode cX6_fillWords 9 = .ok (.iconst 0, 1) := by decide +kernel
theorem dX6_fillWords_10 : decode cX6_fillWords 10 = .ok (.iload_n 3, 1) := by decide +kernel
theorem dX6_fillWords_11 : decode cX6_fillWords 11 = .ok (.i2l, 1) := by decide +kernel
theorem dX6_fillWords_12 : decode cX6_fillWords 12 = .ok (.lastore, 1) := by decide +kernel
theorem dX6_fillWords_13 : decode cX6_fillWords 13 = .ok (.aload_n 0, 1) := by decide +kernel
theorem dX6_fillWords_14 : decode cX6_fillWords 14 = .ok (.getfield 11, 3) := by decide +kernel
theorem dX6_fillWords_17 : decode cX6_fillWords 17 = .ok (.iconst 1, 1) := by decide +kernel
theorem dX6_fillWords_18 : decode cX6_fillWords 18 = .ok (.aload_n 1, 1) := by decide +kernel
theorem dX6_fillWords_19 : decode cX6_fillWords 19 = .ok (.getfield 53, 3) := by decide +kernel
theorem dX6_fillWords_22 : decode cX6_fillWords 22 = .ok (.iload_n 3, 1) := by decide +kernel
theorem dX6_fillWords_23 : decode cX6_fillWords 23 = .ok (.iaload, 1) := by decide +kernel
theorem dX6_fillWords_24 : decode cX6_fillWords 24 = .ok (.i2l, 1) := by decide +kernel
theorem dX6_fillWords_25 : decode cX6_fillWords 25 = .ok (.lastore, 1) := by decide +kernel
theorem dX6_fillWords_26 : decode cX6_fillWords 26 = .ok (.aload_n 0, 1) := by decide +kernel
theorem dX6_fillWords_27 : decode cX6_fillWords 27 = .ok (.getfield 11, 3) := by decide +kernel
theorem dX6_fillWords_30 : decode cX6_fillWords 30 = .ok (.iconst 2, 1) := by decide +kernel
theorem dX6_fillWords_31 : decode cX6_fillWords 31 = .ok (.aload_n 1, 1) := by decide +kernel
theorem dX6_fillWords_32 : decode cX6_fillWords 32 = .ok (.getfield 57, 3) := by decide +kernel
theorem dX6_fillWords_35 : decode cX6_fillWords 35 = .ok (.iload_n 3, 1) := by decide +kernel
theorem dX6_fillWords_36 : decode cX6_fillWords 36 = .ok (.iaload, 1) := by decide +kernel
theorem dX6_fillWords_37 : decode cX6_fillWords 37 = .ok (.i2l, 1) := by decide +kernel
theorem dX6_fillWords_38 : decode cX6_fillWords 38 = .ok (.lastore, 1) := by decide +kernel
theorem dX6_fillWords_39 : decode cX6_fillWords 39 = .ok (.aload_n 0, 1) := by decide +kernel
theorem dX6_fillWords_40 : decode cX6_fillWords 40 = .ok (.getfield 11, 3) := by decide +kernel
theorem dX6_fillWords_43 : decode cX6_fillWords 43 = .ok (.iconst 3, 1) := by decide +kernel
theorem dX6_fillWords_44 : decode cX6_fillWords 44 = .ok (.aload_n 1, 1) := by decide +kernel
theorem dX6_fillWords_45 : decode cX6_fillWords 45 = .ok (.iload_n 3, 1) := by decide +kernel
theorem dX6_fillWords_46 : decode cX6_fillWords 46 = .ok (.aload_n 2, 1) := by decide +kernel
theorem dX6_fillWords_47 : decode cX6_fillWords 47 = .ok (.getfield 33, 3) := by decide +kernel
theorem dX6_fillWords_50 : decode cX6_fillWords 50 = .ok (.invokevirtual 60, 3) := by decide +kernel
theorem dX6_fillWords_53 : decode cX6_fillWords 53 = .ok (.i2l, 1) := by decide +kernel
theorem dX6_fillWords_54 : decode cX6_fillWords 54 = .ok (.lastore, 1) := by decide +kernel
theorem dX6_fillWords_55 : decode cX6_fillWords 55 = .ok (.aload_n 0, 1) := by decide +kernel
theorem dX6_fillWords_56 : decode cX6_fillWords 56 = .ok (.getfield 11, 3) := by decide +kernel
theorem dX6_fillWords_59 : decode cX6_fillWords 59 = .ok (.iconst 4, 1) := by decide +kernel
theorem dX6_fillWords_60 : decode cX6_fillWords 60 = .ok (.aload_n 2, 1) := by decide +kernel
theorem dX6_fillWords_61 : decode cX6_fillWords 61 = .ok (.getfield 44, 3) := by decide +kernel
theorem dX6_fillWords_64 : decode cX6_fillWords 64 = .ok (.i2l, 1) := by decide +kernel
theorem dX6_fillWords_65 : decode cX6_fillWords 65 = .ok (.lastore, 1) := by decide +kernel
theorem dX6_fillWords_66 : decode cX6_fillWords 66 = .ok (.aload_n 0, 1) := by decide +kernel
theorem dX6_fillWords_67 : decode cX6_fillWords 67 = .ok (.getfield 11, 3) := by decide +kernel
theorem dX6_fillWords_70 : decode cX6_fillWords 70 = .ok (.iconst 5, 1) := by decide +kernel
theorem dX6_fillWords_71 : decode cX6_fillWords 71 = .ok (.aload_n 2, 1) := by decide +kernel
theorem dX6_fillWords_72 : decode cX6_fillWords 72 = .ok (.getfield 63, 3) := by decide +kernel
theorem dX6_fillWords_75 : decode cX6_fillWords 75 = .ok (.iload 4, 2) := by decide +kernel
theorem dX6_fillWords_77 : decode cX6_fillWords 77 = .ok (.aload_n 1, 1) := by decide +kernel
theorem dX6_fillWords_78 : decode cX6_fillWords 78 = .ok (.getfield 53, 3) := by decide +kernel
theorem dX6_fillWords_81 : decode cX6_fillWords 81 = .ok (.iload_n 3, 1) := by decide +kernel
theorem dX6_fillWords_82 : decode cX6_fillWords 82 = .ok (.iaload, 1) := by decide +kernel
theorem dX6_fillWords_83 : decode cX6_fillWords 83 = .ok (.iadd, 1) := by decide +kernel
theorem dX6_fillWords_84 : decode cX6_fillWords 84 = .ok (.iaload, 1) := by decide +kernel
theorem dX6_fillWords_85 : decode cX6_fillWords 85 = .ok (.i2l, 1) := by decide +kernel
theorem dX6_fillWords_86 : decode cX6_fillWords 86 = .ok (.lastore, 1) := by decide +kernel
theorem dX6_fillWords_87 : decode cX6_fillWords 87 = .ok (.aload_n 0, 1) := by decide +kernel
theorem dX6_fillWords_88 : decode cX6_fillWords 88 = .ok (.getfield 11, 3) := by decide +kernel
theorem dX6_fillWords_91 : decode cX6_fillWords 91 = .ok (.bipush 6, 2) := by decide +kernel
theorem dX6_fillWords_93 : decode cX6_fillWords 93 = .ok (.aload_n 2, 1) := by decide +kernel
theorem dX6_fillWords_94 : decode cX6_fillWords 94 = .ok (.getfield 63, 3) := by decide +kernel
theorem dX6_fillWords_97 : decode cX6_fillWords 97 = .ok (.iload 4, 2) := by decide +kernel
theorem dX6_fillWords_99 : decode cX6_fillWords 99 = .ok (.aload_n 1, 1) := by decide +kernel
theorem dX6_fillWords_100 : decode cX6_fillWords 100 = .ok (.getfield 57, 3) := by decide +kernel
theorem dX6_fillWords_103 : decode cX6_fillWords 103 = .ok (.iload_n 3, 1) := by decide +kernel
theorem dX6_fillWords_104 : decode cX6_fillWords 104 = .ok (.iaload, 1) := by decide +kernel
theorem dX6_fillWords_105 : decode cX6_fillWords 105 = .ok (.iadd, 1) := by decide +kernel
theorem dX6_fillWords_106 : decode cX6_fillWords 106 = .ok (.iaload, 1) := by decide +kernel
theorem dX6_fillWords_107 : decode cX6_fillWords 107 = .ok (.i2l, 1) := by decide +kernel
theorem dX6_fillWords_108 : decode cX6_fillWords 108 = .ok (.lastore, 1) := by decide +kernel
theorem dX6_fillWords_109 : decode cX6_fillWords 109 = .ok (.iconst 0, 1) := by decide +kernel
theorem dX6_fillWords_110 : decode cX6_fillWords 110 = .ok (.istore 5, 2) := by decide +kernel
theorem dX6_fillWords_112 : decode cX6_fillWords 112 = .ok (.iconst 0, 1) := by decide +kernel
theorem dX6_fillWords_113 : decode cX6_fillWords 113 = .ok (.istore 6, 2) := by decide +kernel
theorem dX6_fillWords_115 : decode cX6_fillWords 115 = .ok (.iload 6, 2) := by decide +kernel
theorem dX6_fillWords_117 : decode cX6_fillWords 117 = .ok (.aload_n 1, 1) := by decide +kernel
theorem dX6_fillWords_118 : decode cX6_fillWords 118 = .ok (.getfield 66, 3) := by decide +kernel
theorem dX6_fillWords_121 : decode cX6_fillWords 121 = .ok (.if_icmp .ge 24, 3) := by decide +kernel
theorem dX6_fillWords_145 : decode cX6_fillWords 145 = .ok (.aload_n 0, 1) := by decide +kernel
theorem dX6_fillWords_146 : decode cX6_fillWords 146 = .ok (.getfield 11, 3) := by decide +kernel
theorem dX6_fillWords_149 : decode cX6_fillWords 149 = .ok (.bipush 9, 2) := by decide +kernel
theorem dX6_fillWords_151 : decode cX6_fillWords 151 = .ok (.iload 5, 2) := by decide +kernel
theorem dX6_fillWords_153 : decode cX6_fillWords 153 = .ok (.i2l, 1) := by decide +kernel
theorem dX6_fillWords_154 : decode cX6_fillWords 154 = .ok (.lastore, 1) := by decide +kernel
theorem dX6_fillWords_155 : decode cX6_fillWords 155 = .ok (.iconst 0, 1) := by decide +kernel
theorem dX6_fillWords_156 : decode cX6_fillWords 156 = .ok (.istore 6, 2) := by decide +kernel
theorem dX6_fillWords_158 : decode cX6_fillWords 158 = .ok (.iconst 0, 1) := by decide +kernel
theorem dX6_fillWords_159 : decode cX6_fillWords 159 = .ok (.istore 7, 2) := by decide +kernel
theorem dX6_fillWords_161 : decode cX6_fillWords 161 = .ok (.iconst 0, 1) := by decide +kernel
theorem dX6_fillWords_162 : decode cX6_fillWords 162 = .ok (.istore 8, 2) := by decide +kernel
theorem dX6_fillWords_164 : decode cX6_fillWords 164 = .ok (.iload 8, 2) := by decide +kernel
theorem dX6_fillWords_166 : decode cX6_fillWords 166 = .ok (.aload_n 1, 1) := by decide +kernel
theorem dX6_fillWords_167 : decode cX6_fillWords 167 = .ok (.getfield 69, 3) := by decide +kernel
theorem dX6_fillWords_170 : decode cX6_fillWords 170 = .ok (.if_icmp .ge 40, 3) := by decide +kernel
theorem dX6_fillWords_210 : decode cX6_fillWords 210 = .ok (.aload_n 0, 1) := by decide +kernel
theorem dX6_fillWords_211 : decode cX6_fillWords 211 = .ok (.getfield 11, 3) := by decide +kernel
theorem dX6_fillWords_214 : decode cX6_fillWords 214 = .ok (.bipush 7, 2) := by decide +kernel
theorem dX6_fillWords_216 : decode cX6_fillWords 216 = .ok (.iload 6, 2) := by decide +kernel
theorem dX6_fillWords_218 : decode cX6_fillWords 218 = .ok (.i2l, 1) := by decide +kernel
theorem dX6_fillWords_219 : decode cX6_fillWords 219 = .ok (.lastore, 1) := by decide +kernel
theorem dX6_fillWords_220 : decode cX6_fillWords 220 = .ok (.aload_n 0, 1) := by decide +kernel
theorem dX6_fillWords_221 : decode cX6_fillWords 221 = .ok (.getfield 11, 3) := by decide +kernel
theorem dX6_fillWords_224 : decode cX6_fillWords 224 = .ok (.bipush 8, 2) := by decide +kernel
theorem dX6_fillWords_226 : decode cX6_fillWords 226 = .ok (.iload 7, 2) := by decide +kernel
theorem dX6_fillWords_228 : decode cX6_fillWords 228 = .ok (.i2l, 1) := by decide +kernel
theorem dX6_fillWords_229 : decode cX6_fillWords 229 = .ok (.lastore, 1) := by decide +kernel
theorem dX6_fillWords_230 : decode cX6_fillWords 230 = .ok (.return_, 1) := by decide +kernel
theorem dX6_fillWords_173 : decode cX6_fillWords 173 = .ok (.aload_n 2, 1) := by decide +kernel
theorem dX6_fillWords_174 : decode cX6_fillWords 174 = .ok (.getfield 72, 3) := by decide +kernel
theorem dX6_fillWords_177 : decode cX6_fillWords 177 = .ok (.iload 8, 2) := by decide +kernel
theorem dX6_fillWords_179 : decode cX6_fillWords 179 = .ok (.iaload, 1) := by decide +kernel
theorem dX6_fillWords_180 : decode cX6_fillWords 180 = .ok (.iload_n 3, 1) := by decide +kernel
theorem dX6_fillWords_181 : decode cX6_fillWords 181 = .ok (.if_icmp .le 9, 3) := by decide +kernel
theorem dX6_fillWords_190 : decode cX6_fillWords 190 = .ok (.aload_n 2, 1) := by decide +kernel
theorem dX6_fillWords_191 : decode cX6_fillWords 191 = .ok (.getfield 72, 3) := by decide +kernel
theorem dX6_fillWords_194 : decode cX6_fillWords 194 = .ok (.iload 8, 2) := by decide +kernel
theorem dX6_fillWords_196 : decode cX6_fillWords 196 = .ok (.iaload, 1) := by decide +kernel
theorem dX6_fillWords_197 : decode cX6_fillWords 197 = .ok (.iload_n 3, 1) := by decide +kernel
theorem dX6_fillWords_198 : decode cX6_fillWords 198 = .ok (.if_icmp .ne 6, 3) := by decide +kernel
theorem dX6_fillWords_204 : decode cX6_fillWords 204 = .ok (.iinc 8 1, 3) := by decide +kernel
theorem dX6_fillWords_207 : decode cX6_fillWords 207 = .ok (.goto (-43), 3) := by decide +kernel
theorem dX7_joined_0 : decode cX7_joined 0 = .ok (.iload_n 0, 1) := by decide +kernel
theorem dX7_joined_1 : decode cX7_joined 1 = .ok (.lookupswitch 203 #[(37, 125), (42, 107), (43, 99), (45, 103), (47, 111), (60, 139), (61, 151), (62, 163), (128, 175), (129, 187), (140, 199)], 99) := by decide +kernel
theorem dX7_work_0 : decode cX7_work 0 = .ok (.iconst 0, 1) := by decide +kernel
theorem dX7_work_1 : decode cX7_work 1 = .ok (.istore 5, 2) := by decide +kernel
theorem dX7_work_3 : decode cX7_work 3 = .ok (.iload_n 1, 1) := by decide +kernel
theorem dX7_work_4 : decode cX7_work 4 = .ok (.istore 6, 2) := by decide +kernel
theorem dX7_work_6 : decode cX7_work 6 = .ok (.iload 6, 2) := by decide +kernel
theorem dX7_work_8 : decode cX7_work 8 = .ok (.iload_n 2, 1) := by decide +kernel
theorem dX7_work_9 : decode cX7_work 9 = .ok (.if_icmp .ge 148, 3) := by decide +kernel
theorem dX7_work_157 : decode cX7_work 157 = .ok (.iload 5, 2) := by decide +kernel
theorem dX7_work_159 : decode cX7_work 159 = .ok (.iconst 1, 1) := by decide +kernel
theorem dX7_work_160 : decode cX7_work 160 = .ok (.if_icmp .lt 13, 3) := by decide +kernel
theorem dX7_work_173 : decode cX7_work 173 = .ok (.lconst 0, 1) := by decide +kernel
theorem dX7_work_174 : decode cX7_work 174 = .ok (.lreturn, 1) := by decide +kernel
theorem dX7_work_163 : decode cX7_work 163 = .ok (.aload 4, 2) := by decide +kernel
theorem dX7_work_165 : decode cX7_work 165 = .ok (.iload 5, 2) := by decide +kernel
theorem dX7_work_167 : decode cX7_work 167 = .ok (.iconst 1, 1) := by decide +kernel
theorem dX7_work_168 : decode cX7_work 168 = .ok (.isub, 1) := by decide +kernel
theorem dX7_work_169 : decode cX7_work 169 = .ok (.laload, 1) := by decide +kernel
theorem dX7_work_170 : decode cX7_work 170 = .ok (.goto 4, 3) := by decide +kernel
theorem dX7_work_12 : decode cX7_work 12 = .ok (.aload_n 0, 1) := by decide +kernel
theorem dX7_work_13 : decode cX7_work 13 = .ok (.getfield 11, 3) := by decide +kernel
theorem dX7_work_16 : decode cX7_work 16 = .ok (.iload 6, 2) := by decide +kernel
theorem dX7_work_18 : decode cX7_work 18 = .ok (.iaload, 1) := by decide +kernel
theorem dX7_work_19 : decode cX7_work 19 = .ok (.istore 7, 2) := by decide +kernel
theorem dX7_work_21 : decode cX7_work 21 = .ok (.iload 7, 2) := by decide +kernel
theorem dX7_work_23 : decode cX7_work 23 = .ok (.sipush 1000, 3) := by decide +kernel
theorem dX7_work_26 : decode cX7_work 26 = .ok (.if_icmp .ge 10, 3) := by decide +kernel
theorem dX7_work_36 : decode cX7_work 36 = .ok (.iload 5, 2) := by decide +kernel
theorem dX7_work_38 : decode cX7_work 38 = .ok (.aload 4, 2) := by decide +kernel
theorem dX7_work_40 : decode cX7_work 40 = .ok (.arraylength, 1) := by decide +kernel
theorem dX7_work_41 : decode cX7_work 41 = .ok (.if_icmp .ge 110, 3) := by decide +kernel
theorem dX7_work_151 : decode cX7_work 151 = .ok (.iinc 6 1, 3) := by decide +kernel
theorem dX7_work_154 : decode cX7_work 154 = .ok (.goto (-148), 3) := by decide +kernel
theorem dX7_work_44 : decode cX7_work 44 = .ok (.aload 4, 2) := by decide +kernel
theorem dX7_work_46 : decode cX7_work 46 = .ok (.iload 5, 2) := by decide +kernel
theorem dX7_work_48 : decode cX7_work 48 = .ok (.iload 7, 2) := by decide +kernel
theorem dX7_work_50 : decode cX7_work 50 = .ok (.sipush 1000, 3) := by decide +kernel
theorem dX7_work_53 : decode cX7_work 53 = .ok (.if_icmp .lt 13, 3) := by decide +kernel
theorem dX7_work_56 : decode cX7_work 56 = .ok (.iload 7, 2) := by decide +kernel
theorem dX7_work_58 : decode cX7_work 58 = .ok (.sipush 1000, 3) := by decide +kernel
theorem dX7_work_61 : decode cX7_work 61 = .ok (.isub, 1) := by decide +kernel
theorem dX7_work_62 : decode cX7_work 62 = .ok (.i2l, 1) := by decide +kernel
theorem dX7_work_63 : decode cX7_work 63 = .ok (.goto 7, 3) := by decide +kernel
theorem dX7_work_70 : decode cX7_work 70 = .ok (.lastore, 1) := by decide +kernel
theorem dX7_work_71 : decode cX7_work 71 = .ok (.iinc 5 1, 3) := by decide +kernel
theorem dX7_work_74 : decode cX7_work 74 = .ok (.goto 77, 3) := by decide +kernel
theorem dX7_work_29 : decode cX7_work 29 = .ok (.iload 7, 2) := by decide +kernel
theorem dX7_work_31 : decode cX7_work 31 = .ok (.bipush 10, 2) := by decide +kernel
theorem dX7_work_33 : decode cX7_work 33 = .ok (.if_icmp .ge 44, 3) := by decide +kernel
theorem dX7_work_77 : decode cX7_work 77 = .ok (.iload 7, 2) := by decide +kernel
theorem dX7_work_79 : decode cX7_work 79 = .ok (.sipush 142, 3) := by decide +kernel
theorem dX7_work_82 : decode cX7_work 82 = .ok (.if_icmp .ne 36, 3) := by decide +kernel
theorem dX7_work_118 : decode cX7_work 118 = .ok (.iload 5, 2) := by decide +kernel
theorem dX7_work_120 : decode cX7_work 120 = .ok (.iconst 2, 1) := by decide +kernel
theorem dX7_work_121 : decode cX7_work 121 = .ok (.if_icmp .lt 30, 3) := by decide +kernel
theorem dX7_work_124 : decode cX7_work 124 = .ok (.iinc 5 (-1), 3) := by decide +kernel
theorem dX7_work_127 : decode cX7_work 127 = .ok (.aload 4, 2) := by decide +kernel
theorem dX7_work_129 : decode cX7_work 129 = .ok (.iload 5, 2) := by decide +kernel
theorem dX7_work_131 : decode cX7_work 131 = .ok (.iconst 1, 1) := by decide +kernel
theorem dX7_work_132 : decode cX7_work 132 = .ok (.isub, 1) := by decide +kernel
theorem dX7_work_133 : decode cX7_work 133 = .ok (.iload 7, 2) := by decide +kernel
theorem dX7_work_135 : decode cX7_work 135 = .ok (.aload 4, 2) := by decide +kernel
theorem dX7_work_137 : decode cX7_work 137 = .ok (.iload 5, 2) := by decide +kernel
theorem dX7_work_139 : decode cX7_work 139 = .ok (.iconst 1, 1) := by decide +kernel
theorem dX7_work_140 : decode cX7_work 140 = .ok (.isub, 1) := by decide +kernel
theorem dX7_work_141 : decode cX7_work 141 = .ok (.laload, 1) := by decide +kernel
theorem dX7_work_142 : decode cX7_work 142 = .ok (.aload 4, 2) := by decide +kernel
theorem dX7_work_144 : decode cX7_work 144 = .ok (.iload 5, 2) := by decide +kernel
theorem dX7_work_146 : decode cX7_work 146 = .ok (.laload, 1) := by decide +kernel
theorem dX7_work_147 : decode cX7_work 147 = .ok (.invokestatic 90, 3) := by decide +kernel
theorem dX7_valueFor_0 : decode cX7_valueFor 0 = .ok (.iconst 0, 1) := by decide +kernel
theorem dX7_valueFor_1 : decode cX7_valueFor 1 = .ok (.istore_n 3, 1) := by decide +kernel
theorem dX7_valueFor_2 : decode cX7_valueFor 2 = .ok (.iload_n 3, 1) := by decide +kernel
theorem dX7_valueFor_3 : decode cX7_valueFor 3 = .ok (.aload_n 0, 1) := by decide +kernel
theorem dX7_valueFor_4 : decode cX7_valueFor 4 = .ok (.getfield 29, 3) := by decide +kernel
theorem dX7_valueFor_7 : decode cX7_valueFor 7 = .ok (.if_icmp .ge 78, 3) := by decide +kernel
theorem dX7_valueFor_85 : decode cX7_valueFor 85 = .ok (.lconst 0, 1) := by decide +kernel
theorem dX7_valueFor_86 : decode cX7_valueFor 86 = .ok (.lreturn, 1) := by decide +kernel
theorem dX7_valueFor_10 : decode cX7_valueFor 10 = .ok (.aload_n 0, 1) := by decide +kernel
theorem dX7_valueFor_11 : decode cX7_valueFor 11 = .ok (.getfield 20, 3) := by decide +kernel
theorem dX7_valueFor_14 : decode cX7_valueFor 14 = .ok (.iload_n 3, 1) := by decide +kernel
theorem dX7_valueFor_15 : decode cX7_valueFor 15 = .ok (.iaload, 1) := by decide +kernel
theorem dX7_valueFor_16 : decode cX7_valueFor 16 = .ok (.aload_n 0, 1) := by decide +kernel
theorem dX7_valueFor_17 : decode cX7_valueFor 17 = .ok (.getfield 23, 3) := by decide +kernel
theorem dX7_valueFor_20 : decode cX7_valueFor 20 = .ok (.iload_n 3, 1) := by decide +kernel
theorem dX7_valueFor_21 : decode cX7_valueFor 21 = .ok (.iaload, 1) := by decide +kernel
theorem dX7_valueFor_22 : decode cX7_valueFor 22 = .ok (.if_icmp .ne 7, 3) := by decide +kernel
theorem dX7_valueFor_29 : decode cX7_valueFor 29 = .ok (.iconst 0, 1) := by decide +kernel
theorem dX7_valueFor_30 : decode cX7_valueFor 30 = .ok (.istore 4, 2) := by decide +kernel
theorem dX7_valueFor_32 : decode cX7_valueFor 32 = .ok (.iload 4, 2) := by decide +kernel
theorem dX7_valueFor_34 : decode cX7_valueFor 34 = .ok (.ifCond .ne 26, 3) := by decide +kernel
theorem dX7_valueFor_37 : decode cX7_valueFor 37 = .ok (.aload_n 0, 1) := by decide +kernel
theorem dX7_valueFor_38 : decode cX7_valueFor 38 = .ok (.aload_n 0, 1) := by decide +kernel
theorem dX7_valueFor_39 : decode cX7_valueFor 39 = .ok (.getfield 20, 3) := by decide +kernel
theorem dX7_valueFor_42 : decode cX7_valueFor 42 = .ok (.iload_n 3, 1) := by decide +kernel
theorem dX7_valueFor_43 : decode cX7_valueFor 43 = .ok (.iaload, 1) := by decide +kernel
theorem dX7_valueFor_44 : decode cX7_valueFor 44 = .ok (.aload_n 0, 1) := by decide +kernel
theorem dX7_valueFor_45 : decode cX7_valueFor 45 = .ok (.getfield 23, 3) := by decide +kernel
theorem dX7_valueFor_48 : decode cX7_valueFor 48 = .ok (.iload_n 3, 1) := by decide +kernel
theorem dX7_valueFor_49 : decode cX7_valueFor 49 = .ok (.iaload, 1) := by decide +kernel
theorem dX7_valueFor_50 : decode cX7_valueFor 50 = .ok (.aload_n 1, 1) := by decide +kernel
theorem dX7_valueFor_51 : decode cX7_valueFor 51 = .ok (.aload_n 2, 1) := by decide +kernel
theorem dX7_valueFor_52 : decode cX7_valueFor 52 = .ok (.invokevirtual 86, 3) := by decide +kernel
theorem dX6_pass_0 : decode cX6_pass 0 = .ok (.iconst 0, 1) := by decide +kernel
theorem dX6_pass_1 : decode cX6_pass 1 = .ok (.istore 4, 2) := by decide +kernel
theorem dX6_pass_3 : decode cX6_pass 3 = .ok (.iconst 0, 1) := by decide +kernel
theorem dX6_pass_4 : decode cX6_pass 4 = .ok (.istore 5, 2) := by decide +kernel
theorem dX6_pass_6 : decode cX6_pass 6 = .ok (.iload 5, 2) := by decide +kernel
theorem dX6_pass_8 : decode cX6_pass 8 = .ok (.aload_n 1, 1) := by decide +kernel
theorem dX6_pass_9 : decode cX6_pass 9 = .ok (.getfield 27, 3) := by decide +kernel
theorem dX6_pass_12 : decode cX6_pass 12 = .ok (.if_icmp .ge 81, 3) := by decide +kernel
theorem dX6_pass_93 : decode cX6_pass 93 = .ok (.aload_n 2, 1) := by decide +kernel
theorem dX6_pass_94 : decode cX6_pass 94 = .ok (.iload 4, 2) := by decide +kernel
theorem dX6_pass_96 : decode cX6_pass 96 = .ok (.putfield 33, 3) := by decide +kernel
theorem dX6_pass_99 : decode cX6_pass 99 = .ok (.aload_n 2, 1) := by decide +kernel
theorem dX6_pass_100 : decode cX6_pass 100 = .ok (.sipush 999, 3) := by decide +kernel
theorem dX6_pass_103 : decode cX6_pass 103 = .ok (.aload_n 2, 1) := by decide +kernel
theorem dX6_pass_104 : decode cX6_pass 104 = .ok (.getfield 44, 3) := by decide +kernel
theorem dX6_pass_107 : decode cX6_pass 107 = .ok (.iconst 1, 1) := by decide +kernel
theorem dX6_pass_108 : decode cX6_pass 108 = .ok (.iadd, 1) := by decide +kernel
theorem dX6_pass_109 : decode cX6_pass 109 = .ok (.invokestatic 47, 3) := by decide +kernel
theorem dX6_pass_112 : decode cX6_pass 112 = .ok (.putfield 44, 3) := by decide +kernel
theorem dX6_pass_115 : decode cX6_pass 115 = .ok (.return_, 1) := by decide +kernel
theorem dX6_pass_15 : decode cX6_pass 15 = .ok (.aload_n 3, 1) := by decide +kernel
theorem dX6_pass_16 : decode cX6_pass 16 = .ok (.ifnonnull 25, 3) := by decide +kernel
theorem dX6_pass_41 : decode cX6_pass 41 = .ok (.aload_n 0, 1) := by decide +kernel
theorem dX6_pass_42 : decode cX6_pass 42 = .ok (.aload_n 1, 1) := by decide +kernel
theorem dX6_pass_43 : decode cX6_pass 43 = .ok (.aload_n 2, 1) := by decide +kernel
theorem dX6_pass_44 : decode cX6_pass 44 = .ok (.iload 5, 2) := by decide +kernel
theorem dX6_pass_46 : decode cX6_pass 46 = .ok (.invokevirtual 36, 3) := by decide +kernel
theorem dX6_moveAll_0 : decode cX6_moveAll 0 = .ok (.iconst 0, 1) := by decide +kernel
theorem dX6_moveAll_1 : decode cX6_moveAll 1 = .ok (.istore_n 2, 1) := by decide +kernel
theorem dX6_moveAll_2 : decode cX6_moveAll 2 = .ok (.iload_n 2, 1) := by decide +kernel
theorem dX6_moveAll_3 : decode cX6_moveAll 3 = .ok (.aload_n 1, 1) := by decide +kernel
theorem dX6_moveAll_4 : decode cX6_moveAll 4 = .ok (.getfield 69, 3) := by decide +kernel
theorem dX6_moveAll_7 : decode cX6_moveAll 7 = .ok (.if_icmp .ge 97, 3) := by decide +kernel
theorem dX6_moveAll_104 : decode cX6_moveAll 104 = .ok (.return_, 1) := by decide +kernel
theorem dX6_moveAll_10 : decode cX6_moveAll 10 = .ok (.aload_n 0, 1) := by decide +kernel
theorem dX6_moveAll_11 : decode cX6_moveAll 11 = .ok (.aload_n 0, 1) := by decide +kernel
theorem dX6_moveAll_12 : decode cX6_moveAll 12 = .ok (.getfield 80, 3) := by decide +kernel
theorem dX6_moveAll_15 : decode cX6_moveAll 15 = .ok (.ldc 106, 2) := by decide +kernel
theorem dX6_moveAll_17 : decode cX6_moveAll 17 = .ok (.imul, 1) := by decide +kernel
theorem dX6_moveAll_18 : decode cX6_moveAll 18 = .ok (.sipush 12345, 3) := by decide +kernel
theorem dX6_moveAll_21 : decode cX6_moveAll 21 = .ok (.iadd, 1) := by decide +kernel
theorem dX6_moveAll_22 : decode cX6_moveAll 22 = .ok (.ldc 107, 2) := by decide +kernel
theorem dX6_moveAll_24 : decode cX6_moveAll 24 = .ok (.iand, 1) := by decide +kernel
theorem dX6_moveAll_25 : decode cX6_moveAll 25 = .ok (.putfield 80, 3) := by decide +kernel
theorem dX6_moveAll_28 : decode cX6_moveAll 28 = .ok (.aload_n 0, 1) := by decide +kernel
theorem dX6_moveAll_29 : decode cX6_moveAll 29 = .ok (.getfield 80, 3) := by decide +kernel
theorem dX6_moveAll_32 : decode cX6_moveAll 32 = .ok (.ldc 108, 2) := by decide +kernel
theorem dX6_moveAll_34 : decode cX6_moveAll 34 = .ok (.idiv, 1) := by decide +kernel
theorem dX6_moveAll_35 : decode cX6_moveAll 35 = .ok (.iconst 4, 1) := by decide +kernel
theorem dX6_moveAll_36 : decode cX6_moveAll 36 = .ok (.irem, 1) := by decide +kernel
theorem dX6_moveAll_37 : decode cX6_moveAll 37 = .ok (.ifCond .ne 30, 3) := by decide +kernel
theorem dX6_moveAll_67 : decode cX6_moveAll 67 = .ok (.aload_n 0, 1) := by decide +kernel
theorem dX6_moveAll_68 : decode cX6_moveAll 68 = .ok (.getfield 23, 3) := by decide +kernel
theorem dX6_moveAll_71 : decode cX6_moveAll 71 = .ok (.aload_n 1, 1) := by decide +kernel
theorem dX6_moveAll_72 : decode cX6_moveAll 72 = .ok (.iload_n 2, 1) := by decide +kernel
theorem dX6_moveAll_73 : decode cX6_moveAll 73 = .ok (.invokevirtual 112, 3) := by decide +kernel
theorem dX6_moveAll_76 : decode cX6_moveAll 76 = .ok (.ifCond .eq 22, 3) := by decide +kernel
theorem dX6_moveAll_98 : decode cX6_moveAll 98 = .ok (.iinc 2 1, 3) := by decide +kernel
theorem dX6_moveAll_101 : decode cX6_moveAll 101 = .ok (.goto (-99), 3) := by decide +kernel
theorem dX6_moveAll_79 : decode cX6_moveAll 79 = .ok (.aload_n 0, 1) := by decide +kernel
theorem dX6_moveAll_80 : decode cX6_moveAll 80 = .ok (.getfield 23, 3) := by decide +kernel
theorem dX6_moveAll_83 : decode cX6_moveAll 83 = .ok (.aload_n 1, 1) := by decide +kernel
theorem dX6_moveAll_84 : decode cX6_moveAll 84 = .ok (.iload_n 2, 1) := by decide +kernel
theorem dX6_moveAll_85 : decode cX6_moveAll 85 = .ok (.invokevirtual 116, 3) := by decide +kernel
theorem dX6_moveAll_88 : decode cX6_moveAll 88 = .ok (.aload_n 0, 1) := by decide +kernel
theorem dX6_moveAll_89 : decode cX6_moveAll 89 = .ok (.dup, 1) := by decide +kernel
theorem dX6_moveAll_90 : decode cX6_moveAll 90 = .ok (.getfield 84, 3) := by decide +kernel
theorem dX6_moveAll_93 : decode cX6_moveAll 93 = .ok (.iconst 1, 1) := by decide +kernel
theorem dX6_moveAll_94 : decode cX6_moveAll 94 = .ok (.iadd, 1) := by decide +kernel
theorem dX6_moveAll_95 : decode cX6_moveAll 95 = .ok (.putfield 84, 3) := by decide +kernel
theorem dX6_moveAll_40 : decode cX6_moveAll 40 = .ok (.aload_n 0, 1) := by decide +kernel
theorem dX6_moveAll_41 : decode cX6_moveAll 41 = .ok (.getfield 23, 3) := by decide +kernel
theorem dX6_moveAll_44 : decode cX6_moveAll 44 = .ok (.getfield 72, 3) := by decide +kernel
theorem dX6_moveAll_47 : decode cX6_moveAll 47 = .ok (.iload_n 2, 1) := by decide +kernel
theorem dX6_moveAll_48 : decode cX6_moveAll 48 = .ok (.iconst 0, 1) := by decide +kernel
theorem dX6_moveAll_49 : decode cX6_moveAll 49 = .ok (.aload_n 0, 1) := by decide +kernel
theorem dX6_moveAll_50 : decode cX6_moveAll 50 = .ok (.getfield 23, 3) := by decide +kernel
theorem dX6_moveAll_53 : decode cX6_moveAll 53 = .ok (.getfield 72, 3) := by decide +kernel
theorem dX6_moveAll_56 : decode cX6_moveAll 56 = .ok (.iload_n 2, 1) := by decide +kernel
theorem dX6_moveAll_57 : decode cX6_moveAll 57 = .ok (.iaload, 1) := by decide +kernel
theorem dX6_moveAll_58 : decode cX6_moveAll 58 = .ok (.iconst 1, 1) := by decide +kernel
theorem dX6_moveAll_59 : decode cX6_moveAll 59 = .ok (.isub, 1) := by decide +kernel
theorem dX6_moveAll_60 : decode cX6_moveAll 60 = .ok (.invokestatic 109, 3) := by decide +kernel
theorem dX6_moveAll_63 : decode cX6_moveAll 63 = .ok (.iastore, 1) := by decide +kernel
theorem dX6_moveAll_64 : decode cX6_moveAll 64 = .ok (.goto 34, 3) := by decide +kernel
theorem dX6_runYears_0 : decode cX6_runYears 0 = .ok (.aload_n 0, 1) := by decide +kernel
theorem dX6_runYears_1 : decode cX6_runYears 1 = .ok (.aload_n 1, 1) := by decide +kernel
theorem dX6_runYears_2 : decode cX6_runYears 2 = .ok (.getfield 75, 3) := by decide +kernel
theorem dX6_runYears_5 : decode cX6_runYears 5 = .ok (.putfield 80, 3) := by decide +kernel
theorem dX6_runYears_8 : decode cX6_runYears 8 = .ok (.aload_n 0, 1) := by decide +kernel
theorem dX6_runYears_9 : decode cX6_runYears 9 = .ok (.iconst 0, 1) := by decide +kernel
theorem dX6_runYears_10 : decode cX6_runYears 10 = .ok (.putfield 81, 3) := by decide +kernel
theorem dX6_runYears_13 : decode cX6_runYears 13 = .ok (.aload_n 0, 1) := by decide +kernel
theorem dX6_runYears_14 : decode cX6_runYears 14 = .ok (.iconst 0, 1) := by decide +kernel
theorem dX6_runYears_15 : decode cX6_runYears 15 = .ok (.putfield 84, 3) := by decide +kernel
theorem dX6_runYears_18 : decode cX6_runYears 18 = .ok (.iconst 0, 1) := by decide +kernel
theorem dX6_runYears_19 : decode cX6_runYears 19 = .ok (.istore 5, 2) := by decide +kernel
theorem dX6_runYears_21 : decode cX6_runYears 21 = .ok (.iload 5, 2) := by decide +kernel
theorem dX6_runYears_23 : decode cX6_runYears 23 = .ok (.iload_n 3, 1) := by decide +kernel
theorem dX6_runYears_24 : decode cX6_runYears 24 = .ok (.if_icmp .ge 97, 3) := by decide +kernel
theorem dX6_runYears_121 : decode cX6_runYears 121 = .ok (.return_, 1) := by decide +kernel
theorem dX6_runYears_27 : decode cX6_runYears 27 = .ok (.aload_n 0, 1) := by decide +kernel
theorem dX6_runYears_28 : decode cX6_runYears 28 = .ok (.getfield 23, 3) := by decide +kernel
theorem dX6_runYears_31 : decode cX6_runYears 31 = .ok (.aload_n 1, 1) := by decide +kernel
theorem dX6_runYears_32 : decode cX6_runYears 32 = .ok (.getfield 87, 3) := by decide +kernel
theorem dX6_runYears_35 : decode cX6_runYears 35 = .ok (.invokevirtual 90, 3) := by decide +kernel
theorem dX6_runYears_38 : decode cX6_runYears 38 = .ok (.iconst 0, 1) := by decide +kernel
theorem dX6_runYears_39 : decode cX6_runYears 39 = .ok (.istore 6, 2) := by decide +kernel
theorem dX6_runYears_41 : decode cX6_runYears 41 = .ok (.iload 6, 2) := by decide +kernel
theorem dX6_runYears_43 : decode cX6_runYears 43 = .ok (.iload 4, 2) := by decide +kernel
theorem dX6_runYears_45 : decode cX6_runYears 45 = .ok (.if_icmp .ge 30, 3) := by decide +kernel
theorem dX6_runYears_75 : decode cX6_runYears 75 = .ok (.iconst 0, 1) := by decide +kernel
theorem dX6_runYears_76 : decode cX6_runYears 76 = .ok (.istore 6, 2) := by decide +kernel
theorem dX6_runYears_78 : decode cX6_runYears 78 = .ok (.iload 6, 2) := by decide +kernel
theorem dX6_runYears_80 : decode cX6_runYears 80 = .ok (.aload_n 1, 1) := by decide +kernel
theorem dX6_runYears_81 : decode cX6_runYears 81 = .ok (.getfield 94, 3) := by decide +kernel
theorem dX6_runYears_84 : decode cX6_runYears 84 = .ok (.getfield 69, 3) := by decide +kernel
theorem dX6_runYears_87 : decode cX6_runYears 87 = .ok (.if_icmp .ge 28, 3) := by decide +kernel
theorem dX6_runYears_115 : decode cX6_runYears 115 = .ok (.iinc 5 1, 3) := by decide +kernel
theorem dX6_runYears_118 : decode cX6_runYears 118 = .ok (.goto (-97), 3) := by decide +kernel
theorem dX6_runYears_90 : decode cX6_runYears 90 = .ok (.aload_n 0, 1) := by decide +kernel
theorem dX6_runYears_91 : decode cX6_runYears 91 = .ok (.dup, 1) := by decide +kernel
theorem dX6_runYears_92 : decode cX6_runYears 92 = .ok (.getfield 81, 3) := by decide +kernel
theorem dX6_runYears_95 : decode cX6_runYears 95 = .ok (.aload_n 0, 1) := by decide +kernel
theorem dX6_runYears_96 : decode cX6_runYears 96 = .ok (.getfield 23, 3) := by decide +kernel
theorem dX6_runYears_99 : decode cX6_runYears 99 = .ok (.getfield 72, 3) := by decide +kernel
theorem dX6_runYears_102 : decode cX6_runYears 102 = .ok (.iload 6, 2) := by decide +kernel
theorem dX6_runYears_104 : decode cX6_runYears 104 = .ok (.iaload, 1) := by decide +kernel
theorem dX6_runYears_105 : decode cX6_runYears 105 = .ok (.iadd, 1) := by decide +kernel
theorem dX6_runYears_106 : decode cX6_runYears 106 = .ok (.putfield 81, 3) := by decide +kernel
theorem dX6_runYears_109 : decode cX6_runYears 109 = .ok (.iinc 6 1, 3) := by decide +kernel
theorem dX6_runYears_112 : decode cX6_runYears 112 = .ok (.goto (-34), 3) := by decide +kernel
theorem dX6_runYears_48 : decode cX6_runYears 48 = .ok (.aload_n 0, 1) := by decide +kernel
theorem dX6_runYears_49 : decode cX6_runYears 49 = .ok (.aload_n 1, 1) := by decide +kernel
theorem dX6_runYears_50 : decode cX6_runYears 50 = .ok (.getfield 94, 3) := by decide +kernel
theorem dX6_runYears_53 : decode cX6_runYears 53 = .ok (.invokevirtual 98, 3) := by decide +kernel
theorem dX6_runYears_56 : decode cX6_runYears 56 = .ok (.aload_n 0, 1) := by decide +kernel
theorem dX6_runYears_57 : decode cX6_runYears 57 = .ok (.aload_n 1, 1) := by decide +kernel
theorem dX6_runYears_58 : decode cX6_runYears 58 = .ok (.getfield 94, 3) := by decide +kernel
theorem dX6_runYears_61 : decode cX6_runYears 61 = .ok (.aload_n 0, 1) := by decide +kernel
theorem dX6_runYears_62 : decode cX6_runYears 62 = .ok (.getfield 23, 3) := by decide +kernel
theorem dX6_runYears_65 : decode cX6_runYears 65 = .ok (.aload_n 2, 1) := by decide +kernel
theorem dX6_runYears_66 : decode cX6_runYears 66 = .ok (.invokevirtual 102, 3) := by decide +kernel
theorem dX0_shiftOf_0 : decode cX0_shiftOf 0 = .ok (.iconst 2, 1) := by decide +kernel
theorem dX0_shiftOf_1 : decode cX0_shiftOf 1 = .ok (.aload_n 0, 1) := by decide +kernel
theorem dX0_shiftOf_2 : decode cX0_shiftOf 2 = .ok (.getfield 66, 3) := by decide +kernel
theorem dX0_shiftOf_5 : decode cX0_shiftOf 5 = .ok (.iconst 1, 1) := by decide +kernel
theorem dX0_shiftOf_6 : decode cX0_shiftOf 6 = .ok (.isub, 1) := by decide +kernel
theorem dX0_shiftOf_7 : decode cX0_shiftOf 7 = .ok (.iload_n 1, 1) := by decide +kernel
theorem dX0_shiftOf_8 : decode cX0_shiftOf 8 = .ok (.isub, 1) := by decide +kernel
theorem dX0_shiftOf_9 : decode cX0_shiftOf 9 = .ok (.imul, 1) := by decide +kernel
theorem dX0_shiftOf_10 : decode cX0_shiftOf 10 = .ok (.ireturn, 1) := by decide +kernel
theorem mv_X3_askedAt : MV RX3 yX3_askedAt cX3_askedAt 3 (some .int) 2 := ⟨mw_4_84, mw_4_85, mw_1_4, mw_4_86, ⟨rfl, by decide, by decide, by decide +kernel⟩⟩
theorem mv_X8_clear : MV RX8 yX8_clear cX8_clear 2 none 0 := ⟨mw_3_168, mw_3_169, mw_1_5, mw_3_170, ⟨rfl, by decide, by decide, by decide +kernel⟩⟩
theorem mv_X8_copyFrom : MV RX8 yX8_copyFrom cX8_copyFrom 2 none 1 := ⟨mw_4_1, mw_4_2, mw_1_5, mw_4_3, ⟨rfl, by decide, by decide, by decide +kernel⟩⟩
theorem mv_X8_weightOf : MV RX8 yX8_weightOf cX8_weightOf 5 (some .int) 2 := ⟨mw_3_221, mw_3_222, mw_1_5, mw_3_223, ⟨rfl, by decide, by decide, by decide +kernel⟩⟩
theorem mv_X8_canCarry : MV RX8 yX8_canCarry cX8_canCarry 4 (some .boolean) 3 := ⟨mw_4_162, mw_4_163, mw_1_5, mw_4_164, ⟨rfl, by decide, by decide, by decide +kernel⟩⟩
theorem mv_X3_copyFrom : MV RX3 yX3_copyFrom cX3_copyFrom 2 none 1 := ⟨mw_3_234, mw_3_235, mw_1_4, mw_3_236, ⟨rfl, by decide, by decide, by decide +kernel⟩⟩
theorem mv_X0_stockUp : MV RX0 yX0_stockUp cX0_stockUp 4 none 2 := ⟨mw_4_221, mp_2_14, mw_1_9, mw_4_222, ⟨rfl, by decide, by decide, by decide +kernel⟩⟩
theorem mv_X0_clearNeed : MV RX0 yX0_clearNeed cX0_clearNeed 2 none 0 := ⟨mw_4_234, mp_2_15, mw_1_9, mw_4_235, ⟨rfl, by decide, by decide, by decide +kernel⟩⟩
theorem mv_X0_lessenNeed : MV RX0 yX0_lessenNeed cX0_lessenNeed 4 none 2 := ⟨mw_4_238, mp_3_0, mw_1_9, mw_4_239, ⟨rfl, by decide, by decide, by decide +kernel⟩⟩
theorem mv_X11_isSort : MV RX11 yX11_isSort cX11_isSort 2 (some .boolean) 1 := ⟨mw_4_93, mp_2_8, mw_1_1, mw_4_94, ⟨rfl, by decide, by decide, by decide +kernel⟩⟩
theorem mv_X11_isPilgrim : MV RX11 yX11_isPilgrim cX11_isPilgrim 2 (some .boolean) 1 := ⟨mw_4_72, mp_2_6, mw_1_1, mw_4_73, ⟨rfl, by decide, by decide, by decide +kernel⟩⟩
theorem mv_X9_kindAt : MV RX9 yX9_kindAt cX9_kindAt 2 (some .int) 1 := ⟨mw_3_176, mw_3_177, mw_1_2, mw_3_178, ⟨rfl, by decide, by decide, by decide +kernel⟩⟩
theorem mv_X9_valueAt : MV RX9 yX9_valueAt cX9_valueAt 2 (some .int) 1 := ⟨mw_3_180, mw_3_181, mw_1_2, mw_3_182, ⟨rfl, by decide, by decide, by decide +kernel⟩⟩
theorem mv_X9_wrong : MV RX9 yX9_wrong cX9_wrong 4 (some .boolean) 2 := ⟨mw_3_184, mw_3_185, mw_1_2, mw_3_186, ⟨rfl, by decide, by decide, by decide +kernel⟩⟩
theorem mv_X4_number : MV RX4 yX4_number cX4_number 5 (some .int) 3 := ⟨mw_3_197, mp_1_8, mw_1_3, mw_3_198, ⟨rfl, by decide, by decide, by decide +kernel⟩⟩
theorem mv_X4_mostMore : MV RX4 yX4_mostMore cX4_mostMore 5 (some .int) 2 := ⟨mw_3_217, mp_1_13, mw_1_3, mw_3_218, ⟨rfl, by decide, by decide, by decide +kernel⟩⟩
theorem mv_X4_isFull : MV RX4 yX4_isFull cX4_isFull 2 (some .boolean) 1 := ⟨mw_3_189, mp_1_6, mw_1_3, mw_3_190, ⟨rfl, by decide, by decide, by decide +kernel⟩⟩
theorem mv_X4_heapClause : MV RX4 yX4_heapClause cX4_heapClause 5 (some .boolean) 1 := ⟨mw_3_227, mp_1_14, mw_1_3, mw_3_228, ⟨rfl, by decide, by decide, by decide +kernel⟩⟩
theorem mv_X4_burdenClause : MV RX4 yX4_burdenClause cX4_burdenClause 2 (some .boolean) 1 := ⟨mw_3_193, mp_1_7, mw_1_3, mw_3_194, ⟨rfl, by decide, by decide, by decide +kernel⟩⟩
theorem mv_X4_sortClause : MV RX4 yX4_sortClause cX4_sortClause 5 (some .boolean) 1 := ⟨mw_3_201, mp_1_9, mw_1_3, mw_3_202, ⟨rfl, by decide, by decide, by decide +kernel⟩⟩
theorem mv_X4_bendClause : MV RX4 yX4_bendClause cX4_bendClause 4 (some .boolean) 1 := ⟨mw_3_205, mp_1_10, mw_1_3, mw_3_206, ⟨rfl, by decide, by decide, by decide +kernel⟩⟩
theorem mv_X4_pilgrimClause : MV RX4 yX4_pilgrimClause cX4_pilgrimClause 3 (some .boolean) 1 := ⟨mw_3_209, mp_1_11, mw_1_3, mw_3_210, ⟨rfl, by decide, by decide, by decide +kernel⟩⟩
theorem mv_X4_hasClause : MV RX4 yX4_hasClause cX4_hasClause 5 (some .boolean) 1 := ⟨mw_3_213, mp_1_12, mw_1_3, mw_3_214, ⟨rfl, by decide, by decide, by decide +kernel⟩⟩
theorem mv_X8_canGoUp : MV RX8 yX8_canGoUp cX8_canGoUp 4 (some .boolean) 2 := ⟨mw_4_140, mw_4_141, mw_1_5, mw_4_142, ⟨rfl, by decide, by decide, by decide +kernel⟩⟩
theorem mv_X8_goUp : MV RX8 yX8_goUp cX8_goUp 6 none 2 := ⟨mw_4_145, mw_4_146, mw_1_5, mw_4_147, ⟨rfl, by decide, by decide, by decide +kernel⟩⟩
theorem mv_X6_moveAll : MV RX6 yX6_moveAll cX6_moveAll 3 none 1 := ⟨mw_5_176, mp_3_9, mw_1_8, mw_5_177, ⟨rfl, by decide, by decide, by decide +kernel⟩⟩
