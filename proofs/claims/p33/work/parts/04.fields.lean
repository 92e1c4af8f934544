theorem mw_2_106 : (.laysFinal RX0 "HillBends$Chances" "stock" "[I" : Cond) ∈ wsA := wsA_t (List.mem_append_right _ (List.mem_append_left _ (List.mem_of_getElem? (l := tables_1_2) (i := 106) rfl))) rfl
theorem mw_2_108 : (.laysFinal RX0 "HillBends$Chances" "need" "[I" : Cond) ∈ wsA := wsA_t (List.mem_append_right _ (List.mem_append_left _ (List.mem_of_getElem? (l := tables_1_2) (i := 108) rfl))) rfl
theorem mw_2_110 : (.laysFinal RX0 "HillBends$Chances" "bagRow" "[I" : Cond) ∈ wsA := wsA_t (List.mem_append_right _ (List.mem_append_left _ (List.mem_of_getElem? (l := tables_1_2) (i := 110) rfl))) rfl
theorem mw_2_112 : (.laysFinal RX0 "HillBends$Chances" "byBag" "[I" : Cond) ∈ wsA := wsA_t (List.mem_append_right _ (List.mem_append_left _ (List.mem_of_getElem? (l := tables_1_2) (i := 112) rfl))) rfl
theorem mw_2_114 : (.lays RX0 "HillBends$Chances" "bagWays" "I" : Cond) ∈ wsA := wsA_t (List.mem_append_right _ (List.mem_append_left _ (List.mem_of_getElem? (l := tables_1_2) (i := 114) rfl))) rfl
theorem mw_2_116 : (.lays RX0 "HillBends$Chances" "bagPrice" "I" : Cond) ∈ wsA := wsA_t (List.mem_append_right _ (List.mem_append_left _ (List.mem_of_getElem? (l := tables_1_2) (i := 116) rfl))) rfl
theorem mw_2_137 : (.laysFinal RX1 "HillBends$Choices" "limit" "[I" : Cond) ∈ wsA := wsA_t (List.mem_append_right _ (List.mem_append_left _ (List.mem_of_getElem? (l := tables_1_2) (i := 137) rfl))) rfl
theorem mw_2_139 : (.laysFinal RX1 "HillBends$Choices" "gain" "[I" : Cond) ∈ wsA := wsA_t (List.mem_append_right _ (List.mem_append_left _ (List.mem_of_getElem? (l := tables_1_2) (i := 139) rfl))) rfl
theorem mw_2_141 : (.laysFinal RX1 "HillBends$Choices" "row" "[I" : Cond) ∈ wsA := wsA_t (List.mem_append_right _ (List.mem_append_left _ (List.mem_of_getElem? (l := tables_1_2) (i := 141) rfl))) rfl
theorem mw_2_143 : (.laysFinal RX1 "HillBends$Choices" "best" "[I" : Cond) ∈ wsA := wsA_t (List.mem_append_right _ (List.mem_append_left _ (List.mem_of_getElem? (l := tables_1_2) (i := 143) rfl))) rfl
theorem mw_2_145 : (.lays RX1 "HillBends$Choices" "bestScore" "I" : Cond) ∈ wsA := wsA_t (List.mem_append_right _ (List.mem_append_left _ (List.mem_of_getElem? (l := tables_1_2) (i := 145) rfl))) rfl
theorem mw_2_147 : (.laysFinal RX1 "HillBends$Choices" "unplaced" "[I" : Cond) ∈ wsA := wsA_t (List.mem_append_right _ (List.mem_append_left _ (List.mem_of_getElem? (l := tables_1_2) (i := 147) rfl))) rfl
theorem mw_2_149 : (.laysFinal RX1 "HillBends$Choices" "can" "[I" : Cond) ∈ wsA := wsA_t (List.mem_append_right _ (List.mem_append_left _ (List.mem_of_getElem? (l := tables_1_2) (i := 149) rfl))) rfl
theorem mw_2_151 : (.laysFinal RX1 "HillBends$Choices" "firstRow" "[I" : Cond) ∈ wsA := wsA_t (List.mem_append_right _ (List.mem_append_left _ (List.mem_of_getElem? (l := tables_1_2) (i := 151) rfl))) rfl
theorem mw_2_153 : (.lays RX1 "HillBends$Choices" "things" "I" : Cond) ∈ wsA := wsA_t (List.mem_append_right _ (List.mem_append_left _ (List.mem_of_getElem? (l := tables_1_2) (i := 153) rfl))) rfl
theorem mw_2_168 : (.laysFinal RX2 "HillBends$Forecast" "seconds" "[I" : Cond) ∈ wsA := wsA_t (List.mem_append_right _ (List.mem_append_left _ (List.mem_of_getElem? (l := tables_1_2) (i := 168) rfl))) rfl
theorem mw_2_170 : (.laysFinal RX2 "HillBends$Forecast" "alike" "[I" : Cond) ∈ wsA := wsA_t (List.mem_append_right _ (List.mem_append_left _ (List.mem_of_getElem? (l := tables_1_2) (i := 170) rfl))) rfl
theorem mw_2_172 : (.laysFinal RX2 "HillBends$Forecast" "scene" "LHillBends$Scene;" : Cond) ∈ wsA := wsA_t (List.mem_append_right _ (List.mem_append_left _ (List.mem_of_getElem? (l := tables_1_2) (i := 172) rfl))) rfl
theorem mw_2_174 : (.lays RX2 "HillBends$Forecast" "foreseen" "I" : Cond) ∈ wsA := wsA_t (List.mem_append_right _ (List.mem_append_left _ (List.mem_of_getElem? (l := tables_1_2) (i := 174) rfl))) rfl
theorem mw_1_190 : (.laysFinal RX3 "HillBends$Hill" "weight" "[I" : Cond) ∈ wsA := wsA_t (List.mem_append_left _ (List.mem_of_getElem? (l := tables_1_1) (i := 190) rfl)) rfl
theorem mw_1_192 : (.laysFinal RX3 "HillBends$Hill" "worth" "[I" : Cond) ∈ wsA := wsA_t (List.mem_append_left _ (List.mem_of_getElem? (l := tables_1_1) (i := 192) rfl)) rfl
theorem mw_1_194 : (.laysFinal RX3 "HillBends$Hill" "price" "[I" : Cond) ∈ wsA := wsA_t (List.mem_append_left _ (List.mem_of_getElem? (l := tables_1_1) (i := 194) rfl)) rfl
theorem mw_1_196 : (.laysFinal RX3 "HillBends$Hill" "first" "[I" : Cond) ∈ wsA := wsA_t (List.mem_append_left _ (List.mem_of_getElem? (l := tables_1_1) (i := 196) rfl)) rfl
theorem mw_1_198 : (.laysFinal RX3 "HillBends$Hill" "second" "[I" : Cond) ∈ wsA := wsA_t (List.mem_append_left _ (List.mem_of_getElem? (l := tables_1_1) (i := 198) rfl)) rfl
theorem mw_1_200 : (.laysFinal RX3 "HillBends$Hill" "begin" "LHillBends$Scene;" : Cond) ∈ wsA := wsA_t (List.mem_append_left _ (List.mem_of_getElem? (l := tables_1_1) (i := 200) rfl)) rfl
theorem mw_1_202 : (.lays RX3 "HillBends$Hill" "told" "Z" : Cond) ∈ wsA := wsA_t (List.mem_append_left _ (List.mem_of_getElem? (l := tables_1_1) (i := 202) rfl)) rfl
theorem mw_1_204 : (.lays RX3 "HillBends$Hill" "burden" "I" : Cond) ∈ wsA := wsA_t (List.mem_append_left _ (List.mem_of_getElem? (l := tables_1_1) (i := 204) rfl)) rfl
theorem mw_1_206 : (.lays RX3 "HillBends$Hill" "sorts" "I" : Cond) ∈ wsA := wsA_t (List.mem_append_left _ (List.mem_of_getElem? (l := tables_1_1) (i := 206) rfl)) rfl
theorem mw_1_208 : (.lays RX3 "HillBends$Hill" "bends" "I" : Cond) ∈ wsA := wsA_t (List.mem_append_left _ (List.mem_of_getElem? (l := tables_1_1) (i := 208) rfl)) rfl
theorem mw_1_210 : (.lays RX3 "HillBends$Hill" "pilgrims" "I" : Cond) ∈ wsA := wsA_t (List.mem_append_left _ (List.mem_of_getElem? (l := tables_1_1) (i := 210) rfl)) rfl
theorem mw_1_216 : (.laysFinal RX4 "HillBends$HillReader" "told" "LHillBends$Hill;" : Cond) ∈ wsA := wsA_t (List.mem_append_left _ (List.mem_of_getElem? (l := tables_1_1) (i := 216) rfl)) rfl
theorem mw_1_218 : (.lays RX4 "HillBends$HillReader" "at" "I" : Cond) ∈ wsA := wsA_t (List.mem_append_left _ (List.mem_of_getElem? (l := tables_1_1) (i := 218) rfl)) rfl
theorem mw_2_52 : (.laysFinal RX5 "HillBends$History" "scenes" "[LHillBends$Scene;" : Cond) ∈ wsA := wsA_t (List.mem_append_right _ (List.mem_append_left _ (List.mem_of_getElem? (l := tables_1_2) (i := 52) rfl))) rfl
theorem mw_2_54 : (.lays RX5 "HillBends$History" "size" "I" : Cond) ∈ wsA := wsA_t (List.mem_append_right _ (List.mem_append_left _ (List.mem_of_getElem? (l := tables_1_2) (i := 54) rfl))) rfl
theorem mw_2_56 : (.lays RX5 "HillBends$History" "next" "I" : Cond) ∈ wsA := wsA_t (List.mem_append_right _ (List.mem_append_left _ (List.mem_of_getElem? (l := tables_1_2) (i := 56) rfl))) rfl
theorem mw_2_75 : (.laysFinal RX6 "HillBends$Nights" "words" "[J" : Cond) ∈ wsA := wsA_t (List.mem_append_right _ (List.mem_append_left _ (List.mem_of_getElem? (l := tables_1_2) (i := 75) rfl))) rfl
theorem mw_2_77 : (.laysFinal RX6 "HillBends$Nights" "stack" "[J" : Cond) ∈ wsA := wsA_t (List.mem_append_right _ (List.mem_append_left _ (List.mem_of_getElem? (l := tables_1_2) (i := 77) rfl))) rfl
theorem mw_2_79 : (.laysFinal RX6 "HillBends$Nights" "scene" "LHillBends$Scene;" : Cond) ∈ wsA := wsA_t (List.mem_append_right _ (List.mem_append_left _ (List.mem_of_getElem? (l := tables_1_2) (i := 79) rfl))) rfl
theorem mw_2_81 : (.lays RX6 "HillBends$Nights" "x" "I" : Cond) ∈ wsA := wsA_t (List.mem_append_right _ (List.mem_append_left _ (List.mem_of_getElem? (l := tables_1_2) (i := 81) rfl))) rfl
theorem mw_2_83 : (.lays RX6 "HillBends$Nights" "heights" "I" : Cond) ∈ wsA := wsA_t (List.mem_append_right _ (List.mem_append_left _ (List.mem_of_getElem? (l := tables_1_2) (i := 83) rfl))) rfl
theorem mw_2_85 : (.lays RX6 "HillBends$Nights" "things" "I" : Cond) ∈ wsA := wsA_t (List.mem_append_right _ (List.mem_append_left _ (List.mem_of_getElem? (l := tables_1_2) (i := 85) rfl))) rfl
theorem mw_2_190 : (.laysFinal RX7 "HillBends$Rule" "code" "[I" : Cond) ∈ wsA := wsA_t (List.mem_append_right _ (List.mem_append_left _ (List.mem_of_getElem? (l := tables_1_2) (i := 190) rfl))) rfl
theorem mw_2_192 : (.laysFinal RX7 "HillBends$Rule" "sumFrom" "[I" : Cond) ∈ wsA := wsA_t (List.mem_append_right _ (List.mem_append_left _ (List.mem_of_getElem? (l := tables_1_2) (i := 192) rfl))) rfl
theorem mw_2_194 : (.laysFinal RX7 "HillBends$Rule" "testFrom" "[I" : Cond) ∈ wsA := wsA_t (List.mem_append_right _ (List.mem_append_left _ (List.mem_of_getElem? (l := tables_1_2) (i := 194) rfl))) rfl
theorem mw_2_196 : (.laysFinal RX7 "HillBends$Rule" "clauseTo" "[I" : Cond) ∈ wsA := wsA_t (List.mem_append_right _ (List.mem_append_left _ (List.mem_of_getElem? (l := tables_1_2) (i := 196) rfl))) rfl
theorem mw_2_198 : (.lays RX7 "HillBends$Rule" "clauses" "I" : Cond) ∈ wsA := wsA_t (List.mem_append_right _ (List.mem_append_left _ (List.mem_of_getElem? (l := tables_1_2) (i := 198) rfl))) rfl
theorem mw_2_200 : (.lays RX7 "HillBends$Rule" "size" "I" : Cond) ∈ wsA := wsA_t (List.mem_append_right _ (List.mem_append_left _ (List.mem_of_getElem? (l := tables_1_2) (i := 200) rfl))) rfl
theorem mw_2_202 : (.lays RX7 "HillBends$Rule" "at" "I" : Cond) ∈ wsA := wsA_t (List.mem_append_right _ (List.mem_append_left _ (List.mem_of_getElem? (l := tables_1_2) (i := 202) rfl))) rfl
theorem mw_2_204 : (.lays RX7 "HillBends$Rule" "used" "I" : Cond) ∈ wsA := wsA_t (List.mem_append_right _ (List.mem_append_left _ (List.mem_of_getElem? (l := tables_1_2) (i := 204) rfl))) rfl
theorem mw_1_113 : (.laysFinal RX8 "HillBends$Scene" "height" "[I" : Cond) ∈ wsA := wsA_t (List.mem_append_left _ (List.mem_of_getElem? (l := tables_1_1) (i := 113) rfl)) rfl
theorem mw_1_115 : (.laysFinal RX8 "HillBends$Scene" "money" "[I" : Cond) ∈ wsA := wsA_t (List.mem_append_left _ (List.mem_of_getElem? (l := tables_1_1) (i := 115) rfl)) rfl
theorem mw_1_117 : (.laysFinal RX8 "HillBends$Scene" "left" "[I" : Cond) ∈ wsA := wsA_t (List.mem_append_left _ (List.mem_of_getElem? (l := tables_1_1) (i := 117) rfl)) rfl
theorem mw_1_119 : (.laysFinal RX8 "HillBends$Scene" "taken" "[I" : Cond) ∈ wsA := wsA_t (List.mem_append_left _ (List.mem_of_getElem? (l := tables_1_1) (i := 119) rfl)) rfl
theorem mw_1_121 : (.laysFinal RX8 "HillBends$Scene" "has" "[I" : Cond) ∈ wsA := wsA_t (List.mem_append_left _ (List.mem_of_getElem? (l := tables_1_1) (i := 121) rfl)) rfl
theorem mw_1_123 : (.laysFinal RX8 "HillBends$Scene" "heap" "[I" : Cond) ∈ wsA := wsA_t (List.mem_append_left _ (List.mem_of_getElem? (l := tables_1_1) (i := 123) rfl)) rfl
theorem mw_1_125 : (.lays RX8 "HillBends$Scene" "seconds" "I" : Cond) ∈ wsA := wsA_t (List.mem_append_left _ (List.mem_of_getElem? (l := tables_1_1) (i := 125) rfl)) rfl
theorem mw_1_127 : (.lays RX8 "HillBends$Scene" "night" "I" : Cond) ∈ wsA := wsA_t (List.mem_append_left _ (List.mem_of_getElem? (l := tables_1_1) (i := 127) rfl)) rfl
theorem mw_1_46 : (.laysFinal RX9 "HillBends$Tape" "bytes" "[I" : Cond) ∈ wsA := wsA_t (List.mem_append_left _ (List.mem_of_getElem? (l := tables_1_1) (i := 46) rfl)) rfl
theorem mw_1_48 : (.laysFinal RX9 "HillBends$Tape" "kinds" "[I" : Cond) ∈ wsA := wsA_t (List.mem_append_left _ (List.mem_of_getElem? (l := tables_1_1) (i := 48) rfl)) rfl
theorem mw_1_50 : (.laysFinal RX9 "HillBends$Tape" "places" "[I" : Cond) ∈ wsA := wsA_t (List.mem_append_left _ (List.mem_of_getElem? (l := tables_1_1) (i := 50) rfl)) rfl
theorem mw_1_52 : (.laysFinal RX9 "HillBends$Tape" "values" "[I" : Cond) ∈ wsA := wsA_t (List.mem_append_left _ (List.mem_of_getElem? (l := tables_1_1) (i := 52) rfl)) rfl
theorem mw_1_54 : (.lays RX9 "HillBends$Tape" "size" "I" : Cond) ∈ wsA := wsA_t (List.mem_append_left _ (List.mem_of_getElem? (l := tables_1_1) (i := 54) rfl)) rfl
theorem mw_1_56 : (.lays RX9 "HillBends$Tape" "tokens" "I" : Cond) ∈ wsA := wsA_t (List.mem_append_left _ (List.mem_of_getElem? (l := tables_1_1) (i := 56) rfl)) rfl
theorem mw_1_58 : (.lays RX9 "HillBends$Tape" "fault" "I" : Cond) ∈ wsA := wsA_t (List.mem_append_left _ (List.mem_of_getElem? (l := tables_1_1) (i := 58) rfl)) rfl
theorem mw_2_19 : (.laysFinal RX10 "HillBends$World" "hill" "LHillBends$Hill;" : Cond) ∈ wsA := wsA_t (List.mem_append_right _ (List.mem_append_left _ (List.mem_of_getElem? (l := tables_1_2) (i := 19) rfl))) rfl
theorem mw_2_21 : (.laysFinal RX10 "HillBends$World" "now" "LHillBends$Scene;" : Cond) ∈ wsA := wsA_t (List.mem_append_right _ (List.mem_append_left _ (List.mem_of_getElem? (l := tables_1_2) (i := 21) rfl))) rfl
theorem mw_2_23 : (.laysFinal RX10 "HillBends$World" "leaves" "[I" : Cond) ∈ wsA := wsA_t (List.mem_append_right _ (List.mem_append_left _ (List.mem_of_getElem? (l := tables_1_2) (i := 23) rfl))) rfl
theorem mw_2_25 : (.laysFinal RX10 "HillBends$World" "noteNight" "[I" : Cond) ∈ wsA := wsA_t (List.mem_append_right _ (List.mem_append_left _ (List.mem_of_getElem? (l := tables_1_2) (i := 25) rfl))) rfl
theorem mw_2_27 : (.laysFinal RX10 "HillBends$World" "noteBend" "[I" : Cond) ∈ wsA := wsA_t (List.mem_append_right _ (List.mem_append_left _ (List.mem_of_getElem? (l := tables_1_2) (i := 27) rfl))) rfl
theorem mw_2_29 : (.laysFinal RX10 "HillBends$World" "noteSort" "[I" : Cond) ∈ wsA := wsA_t (List.mem_append_right _ (List.mem_append_left _ (List.mem_of_getElem? (l := tables_1_2) (i := 29) rfl))) rfl
theorem mw_2_31 : (.lays RX10 "HillBends$World" "notes" "I" : Cond) ∈ wsA := wsA_t (List.mem_append_right _ (List.mem_append_left _ (List.mem_of_getElem? (l := tables_1_2) (i := 31) rfl))) rfl
theorem mw_2_33 : (.lays RX10 "HillBends$World" "force" "I" : Cond) ∈ wsA := wsA_t (List.mem_append_right _ (List.mem_append_left _ (List.mem_of_getElem? (l := tables_1_2) (i := 33) rfl))) rfl
theorem mw_2_35 : (.lays RX10 "HillBends$World" "x" "I" : Cond) ∈ wsA := wsA_t (List.mem_append_right _ (List.mem_append_left _ (List.mem_of_getElem? (l := tables_1_2) (i := 35) rfl))) rfl
theorem mw_2_219 : (.laysFinal RX11 "HillBends" "tape" "LHillBends$Tape;" : Cond) ∈ wsA := wsA_t (List.mem_append_right _ (List.mem_append_left _ (List.mem_of_getElem? (l := tables_1_2) (i := 219) rfl))) rfl
theorem mw_2_221 : (.laysFinal RX11 "HillBends" "hillReader" "LHillBends$HillReader;" : Cond) ∈ wsA := wsA_t (List.mem_append_right _ (List.mem_append_left _ (List.mem_of_getElem? (l := tables_1_2) (i := 221) rfl))) rfl
theorem mw_2_223 : (.laysFinal RX11 "HillBends" "rules" "[LHillBends$Rule;" : Cond) ∈ wsA := wsA_t (List.mem_append_right _ (List.mem_append_left _ (List.mem_of_getElem? (l := tables_1_2) (i := 223) rfl))) rfl
theorem mw_2_225 : (.laysFinal RX11 "HillBends" "world" "LHillBends$World;" : Cond) ∈ wsA := wsA_t (List.mem_append_right _ (List.mem_append_left _ (List.mem_of_getElem? (l := tables_1_2) (i := 225) rfl))) rfl
theorem mw_2_227 : (.laysFinal RX11 "HillBends" "images" "[LHillBends$World;" : Cond) ∈ wsA := wsA_t (List.mem_append_right _ (List.mem_append_left _ (List.mem_of_getElem? (l := tables_1_2) (i := 227) rfl))) rfl
theorem mw_2_229 : (.laysFinal RX11 "HillBends" "history" "LHillBends$History;" : Cond) ∈ wsA := wsA_t (List.mem_append_right _ (List.mem_append_left _ (List.mem_of_getElem? (l := tables_1_2) (i := 229) rfl))) rfl
theorem mw_2_231 : (.laysFinal RX11 "HillBends" "nights" "LHillBends$Nights;" : Cond) ∈ wsA := wsA_t (List.mem_append_right _ (List.mem_append_left _ (List.mem_of_getElem? (l := tables_1_2) (i := 231) rfl))) rfl
theorem mw_2_233 : (.laysFinal RX11 "HillBends" "chances" "LHillBends$Chances;" : Cond) ∈ wsA := wsA_t (List.mem_append_right _ (List.mem_append_left _ (List.mem_of_getElem? (l := tables_1_2) (i := 233) rfl))) rfl
theorem mw_2_235 : (.laysFinal RX11 "HillBends" "choices" "LHillBends$Choices;" : Cond) ∈ wsA := wsA_t (List.mem_append_right _ (List.mem_append_left _ (List.mem_of_getElem? (l := tables_1_2) (i := 235) rfl))) rfl
theorem mw_2_237 : (.laysFinal RX11 "HillBends" "forecast" "LHillBends$Forecast;" : Cond) ∈ wsA := wsA_t (List.mem_append_right _ (List.mem_append_left _ (List.mem_of_getElem? (l := tables_1_2) (i := 237) rfl))) rfl
theorem mw_2_239 : (.lays RX11 "HillBends" "ruleCount" "I" : Cond) ∈ wsA := wsA_t (List.mem_append_right _ (List.mem_append_left _ (List.mem_of_getElem? (l := tables_1_2) (i := 239) rfl))) rfl
theorem mw_3_1 : (.lays RX11 "HillBends" "imagesMade" "I" : Cond) ∈ wsA := wsA_t (List.mem_append_right _ (List.mem_append_right _ (List.mem_append_left _ (List.mem_of_getElem? (l := tables_1_3) (i := 1) rfl)))) rfl
theorem mw_6_20 : (.laysFinal RX12 "HillBendsModel" "tape" "[B" : Cond) ∈ wsA := wsA_t (List.mem_append_right _ (List.mem_append_right _ (List.mem_append_right _ (List.mem_append_right _ (List.mem_append_right _ (List.mem_append_left _ (List.mem_of_getElem? (l := tables_1_6) (i := 20) rfl))))))) rfl
theorem mw_6_22 : (.lays RX12 "HillBendsModel" "taped" "I" : Cond) ∈ wsA := wsA_t (List.mem_append_right _ (List.mem_append_right _ (List.mem_append_right _ (List.mem_append_right _ (List.mem_append_right _ (List.mem_append_left _ (List.mem_of_getElem? (l := tables_1_6) (i := 22) rfl))))))) rfl
theorem mw_6_24 : (.lays RX12 "HillBendsModel" "rules" "I" : Cond) ∈ wsA := wsA_t (List.mem_append_right _ (List.mem_append_right _ (List.mem_append_right _ (List.mem_append_right _ (List.mem_append_right _ (List.mem_append_left _ (List.mem_of_getElem? (l := tables_1_6) (i := 24) rfl))))))) rfl
theorem mw_6_26 : (.laysFinal RX12 "HillBendsModel" "sign" "[I" : Cond) ∈ wsA := wsA_t (List.mem_append_right _ (List.mem_append_right _ (List.mem_append_right _ (List.mem_append_right _ (List.mem_append_right _ (List.mem_append_left _ (List.mem_of_getElem? (l := tables_1_6) (i := 26) rfl))))))) rfl
theorem mw_6_28 : (.laysFinal RX12 "HillBendsModel" "length" "[I" : Cond) ∈ wsA := wsA_t (List.mem_append_right _ (List.mem_append_right _ (List.mem_append_right _ (List.mem_append_right _ (List.mem_append_right _ (List.mem_append_left _ (List.mem_of_getElem? (l := tables_1_6) (i := 28) rfl))))))) rfl
theorem mw_6_30 : (.laysFinal RX12 "HillBendsModel" "clause" "[I" : Cond) ∈ wsA := wsA_t (List.mem_append_right _ (List.mem_append_right _ (List.mem_append_right _ (List.mem_append_right _ (List.mem_append_right _ (List.mem_append_left _ (List.mem_of_getElem? (l := tables_1_6) (i := 30) rfl))))))) rfl
theorem mw_6_32 : (.laysFinal RX12 "HillBendsModel" "clauses" "[I" : Cond) ∈ wsA := wsA_t (List.mem_append_right _ (List.mem_append_right _ (List.mem_append_right _ (List.mem_append_right _ (List.mem_append_right _ (List.mem_append_left _ (List.mem_of_getElem? (l := tables_1_6) (i := 32) rfl))))))) rfl
theorem mw_6_34 : (.laysFinal RX12 "HillBendsModel" "read" "[I" : Cond) ∈ wsA := wsA_t (List.mem_append_right _ (List.mem_append_right _ (List.mem_append_right _ (List.mem_append_right _ (List.mem_append_right _ (List.mem_append_left _ (List.mem_of_getElem? (l := tables_1_6) (i := 34) rfl))))))) rfl
theorem mw_6_36 : (.lays RX12 "HillBendsModel" "next" "I" : Cond) ∈ wsA := wsA_t (List.mem_append_right _ (List.mem_append_right _ (List.mem_append_right _ (List.mem_append_right _ (List.mem_append_right _ (List.mem_append_left _ (List.mem_of_getElem? (l := tables_1_6) (i := 36) rfl))))))) rfl
theorem mw_6_38 : (.lays RX12 "HillBendsModel" "wrong" "I" : Cond) ∈ wsA := wsA_t (List.mem_append_right _ (List.mem_append_right _ (List.mem_append_right _ (List.mem_append_right _ (List.mem_append_right _ (List.mem_append_left _ (List.mem_of_getElem? (l := tables_1_6) (i := 38) rfl))))))) rfl
theorem mw_6_40 : (.lays RX12 "HillBendsModel" "number" "I" : Cond) ∈ wsA := wsA_t (List.mem_append_right _ (List.mem_append_right _ (List.mem_append_right _ (List.mem_append_right _ (List.mem_append_right _ (List.mem_append_left _ (List.mem_of_getElem? (l := tables_1_6) (i := 40) rfl))))))) rfl
theorem mw_6_42 : (.lays RX12 "HillBendsModel" "text" "I" : Cond) ∈ wsA := wsA_t (List.mem_append_right _ (List.mem_append_right _ (List.mem_append_right _ (List.mem_append_right _ (List.mem_append_right _ (List.mem_append_left _ (List.mem_of_getElem? (l := tables_1_6) (i := 42) rfl))))))) rfl
theorem mw_6_44 : (.lays RX12 "HillBendsModel" "made" "I" : Cond) ∈ wsA := wsA_t (List.mem_append_right _ (List.mem_append_right _ (List.mem_append_right _ (List.mem_append_right _ (List.mem_append_right _ (List.mem_append_left _ (List.mem_of_getElem? (l := tables_1_6) (i := 44) rfl))))))) rfl
theorem mw_6_46 : (.lays RX12 "HillBendsModel" "deep" "I" : Cond) ∈ wsA := wsA_t (List.mem_append_right _ (List.mem_append_right _ (List.mem_append_right _ (List.mem_append_right _ (List.mem_append_right _ (List.mem_append_left _ (List.mem_of_getElem? (l := tables_1_6) (i := 46) rfl))))))) rfl
theorem mw_6_48 : (.lays RX12 "HillBendsModel" "lines" "I" : Cond) ∈ wsA := wsA_t (List.mem_append_right _ (List.mem_append_right _ (List.mem_append_right _ (List.mem_append_right _ (List.mem_append_right _ (List.mem_append_left _ (List.mem_of_getElem? (l := tables_1_6) (i := 48) rfl))))))) rfl
theorem mw_6_50 : (.laysFinal RX12 "HillBendsModel" "open" "[I" : Cond) ∈ wsA := wsA_t (List.mem_append_right _ (List.mem_append_right _ (List.mem_append_right _ (List.mem_append_right _ (List.mem_append_right _ (List.mem_append_left _ (List.mem_of_getElem? (l := tables_1_6) (i := 50) rfl))))))) rfl
theorem mw_6_52 : (.lays RX12 "HillBendsModel" "opened" "I" : Cond) ∈ wsA := wsA_t (List.mem_append_right _ (List.mem_append_right _ (List.mem_append_right _ (List.mem_append_right _ (List.mem_append_right _ (List.mem_append_left _ (List.mem_of_getElem? (l := tables_1_6) (i := 52) rfl))))))) rfl
theorem mw_6_54 : (.laysFinal RX12 "HillBendsModel" "stack" "[J" : Cond) ∈ wsA := wsA_t (List.mem_append_right _ (List.mem_append_right _ (List.mem_append_right _ (List.mem_append_right _ (List.mem_append_right _ (List.mem_append_left _ (List.mem_of_getElem? (l := tables_1_6) (i := 54) rfl))))))) rfl
theorem mw_6_56 : (.lays RX12 "HillBendsModel" "top" "I" : Cond) ∈ wsA := wsA_t (List.mem_append_right _ (List.mem_append_right _ (List.mem_append_right _ (List.mem_append_right _ (List.mem_append_right _ (List.mem_append_left _ (List.mem_of_getElem? (l := tables_1_6) (i := 56) rfl))))))) rfl
theorem mw_6_58 : (.laysFinal RX12 "HillBendsModel" "word" "[J" : Cond) ∈ wsA := wsA_t (List.mem_append_right _ (List.mem_append_right _ (List.mem_append_right _ (List.mem_append_right _ (List.mem_append_right _ (List.mem_append_left _ (List.mem_of_getElem? (l := tables_1_6) (i := 58) rfl))))))) rfl
theorem mw_6_60 : (.laysFinal RX12 "HillBendsModel" "said" "[I" : Cond) ∈ wsA := wsA_t (List.mem_append_right _ (List.mem_append_right _ (List.mem_append_right _ (List.mem_append_right _ (List.mem_append_right _ (List.mem_append_left _ (List.mem_of_getElem? (l := tables_1_6) (i := 60) rfl))))))) rfl
theorem mw_6_62 : (.lays RX12 "HillBendsModel" "force" "I" : Cond) ∈ wsA := wsA_t (List.mem_append_right _ (List.mem_append_right _ (List.mem_append_right _ (List.mem_append_right _ (List.mem_append_right _ (List.mem_append_left _ (List.mem_of_getElem? (l := tables_1_6) (i := 62) rfl))))))) rfl
theorem mw_6_64 : (.lays RX12 "HillBendsModel" "x" "I" : Cond) ∈ wsA := wsA_t (List.mem_append_right _ (List.mem_append_right _ (List.mem_append_right _ (List.mem_append_right _ (List.mem_append_right _ (List.mem_append_left _ (List.mem_of_getElem? (l := tables_1_6) (i := 64) rfl))))))) rfl
theorem mw_6_66 : (.laysFinal RX12 "HillBendsModel" "turnNext" "[I" : Cond) ∈ wsA := wsA_t (List.mem_append_right _ (List.mem_append_right _ (List.mem_append_right _ (List.mem_append_right _ (List.mem_append_right _ (List.mem_append_left _ (List.mem_of_getElem? (l := tables_1_6) (i := 66) rfl))))))) rfl
theorem mw_6_68 : (.laysFinal RX12 "HillBendsModel" "wasSaid" "[I" : Cond) ∈ wsA := wsA_t (List.mem_append_right _ (List.mem_append_right _ (List.mem_append_right _ (List.mem_append_right _ (List.mem_append_right _ (List.mem_append_left _ (List.mem_of_getElem? (l := tables_1_6) (i := 68) rfl))))))) rfl
theorem mw_6_70 : (.lays RX12 "HillBendsModel" "undone" "I" : Cond) ∈ wsA := wsA_t (List.mem_append_right _ (List.mem_append_right _ (List.mem_append_right _ (List.mem_append_right _ (List.mem_append_right _ (List.mem_append_left _ (List.mem_of_getElem? (l := tables_1_6) (i := 70) rfl))))))) rfl
theorem mw_6_72 : (.laysFinal RX12 "HillBendsModel" "many" "[I" : Cond) ∈ wsA := wsA_t (List.mem_append_right _ (List.mem_append_right _ (List.mem_append_right _ (List.mem_append_right _ (List.mem_append_right _ (List.mem_append_left _ (List.mem_of_getElem? (l := tables_1_6) (i := 72) rfl))))))) rfl
theorem mw_6_74 : (.laysFinal RX12 "HillBendsModel" "had" "[I" : Cond) ∈ wsA := wsA_t (List.mem_append_right _ (List.mem_append_right _ (List.mem_append_right _ (List.mem_append_right _ (List.mem_append_right _ (List.mem_append_left _ (List.mem_of_getElem? (l := tables_1_6) (i := 74) rfl))))))) rfl
theorem mw_6_76 : (.laysFinal RX12 "HillBendsModel" "row" "[I" : Cond) ∈ wsA := wsA_t (List.mem_append_right _ (List.mem_append_right _ (List.mem_append_right _ (List.mem_append_right _ (List.mem_append_right _ (List.mem_append_left _ (List.mem_of_getElem? (l := tables_1_6) (i := 76) rfl))))))) rfl
theorem mw_6_78 : (.laysFinal RX12 "HillBendsModel" "best" "[I" : Cond) ∈ wsA := wsA_t (List.mem_append_right _ (List.mem_append_right _ (List.mem_append_right _ (List.mem_append_right _ (List.mem_append_right _ (List.mem_append_left _ (List.mem_of_getElem? (l := tables_1_6) (i := 78) rfl))))))) rfl
theorem mw_6_80 : (.lays RX12 "HillBendsModel" "bestMuch" "I" : Cond) ∈ wsA := wsA_t (List.mem_append_right _ (List.mem_append_right _ (List.mem_append_right _ (List.mem_append_right _ (List.mem_append_right _ (List.mem_append_left _ (List.mem_of_getElem? (l := tables_1_6) (i := 80) rfl))))))) rfl
theorem mw_6_82 : (.lays RX12 "HillBendsModel" "bestLess" "I" : Cond) ∈ wsA := wsA_t (List.mem_append_right _ (List.mem_append_right _ (List.mem_append_right _ (List.mem_append_right _ (List.mem_append_right _ (List.mem_append_left _ (List.mem_of_getElem? (l := tables_1_6) (i := 82) rfl))))))) rfl
theorem mw_6_84 : (.laysFinal RX12 "HillBendsModel" "atMost" "[I" : Cond) ∈ wsA := wsA_t (List.mem_append_right _ (List.mem_append_right _ (List.mem_append_right _ (List.mem_append_right _ (List.mem_append_right _ (List.mem_append_left _ (List.mem_of_getElem? (l := tables_1_6) (i := 84) rfl))))))) rfl
theorem mw_6_86 : (.lays RX12 "HillBendsModel" "giftMany" "I" : Cond) ∈ wsA := wsA_t (List.mem_append_right _ (List.mem_append_right _ (List.mem_append_right _ (List.mem_append_right _ (List.mem_append_right _ (List.mem_append_left _ (List.mem_of_getElem? (l := tables_1_6) (i := 86) rfl))))))) rfl
theorem mw_6_88 : (.lays RX12 "HillBendsModel" "giftFirst" "I" : Cond) ∈ wsA := wsA_t (List.mem_append_right _ (List.mem_append_right _ (List.mem_append_right _ (List.mem_append_right _ (List.mem_append_right _ (List.mem_append_left _ (List.mem_of_getElem? (l := tables_1_6) (i := 88) rfl))))))) rfl
theorem mw_6_90 : (.laysFinal RX12 "HillBendsModel" "giftBits" "[I" : Cond) ∈ wsA := wsA_t (List.mem_append_right _ (List.mem_append_right _ (List.mem_append_right _ (List.mem_append_right _ (List.mem_append_right _ (List.mem_append_left _ (List.mem_of_getElem? (l := tables_1_6) (i := 90) rfl))))))) rfl
theorem mw_6_92 : (.laysFinal RX12 "HillBendsModel" "kept" "[I" : Cond) ∈ wsA := wsA_t (List.mem_append_right _ (List.mem_append_right _ (List.mem_append_right _ (List.mem_append_right _ (List.mem_append_right _ (List.mem_append_left _ (List.mem_of_getElem? (l := tables_1_6) (i := 92) rfl))))))) rfl
theorem mw_6_94 : (.laysFinal RX12 "HillBendsModel" "isFit" "[Z" : Cond) ∈ wsA := wsA_t (List.mem_append_right _ (List.mem_append_right _ (List.mem_append_right _ (List.mem_append_right _ (List.mem_append_right _ (List.mem_append_left _ (List.mem_of_getElem? (l := tables_1_6) (i := 94) rfl))))))) rfl
theorem mw_6_96 : (.laysFinal RX12 "HillBendsModel" "askThen" "[I" : Cond) ∈ wsA := wsA_t (List.mem_append_right _ (List.mem_append_right _ (List.mem_append_right _ (List.mem_append_right _ (List.mem_append_right _ (List.mem_append_left _ (List.mem_of_getElem? (l := tables_1_6) (i := 96) rfl))))))) rfl
theorem mw_6_98 : (.lays RX12 "HillBendsModel" "drawX" "J" : Cond) ∈ wsA := wsA_t (List.mem_append_right _ (List.mem_append_right _ (List.mem_append_right _ (List.mem_append_right _ (List.mem_append_right _ (List.mem_append_left _ (List.mem_of_getElem? (l := tables_1_6) (i := 98) rfl))))))) rfl
theorem mw_6_100 : (.laysFinal RX12 "HillBendsModel" "images" "[I" : Cond) ∈ wsA := wsA_t (List.mem_append_right _ (List.mem_append_right _ (List.mem_append_right _ (List.mem_append_right _ (List.mem_append_right _ (List.mem_append_left _ (List.mem_of_getElem? (l := tables_1_6) (i := 100) rfl))))))) rfl
theorem mw_6_102 : (.laysFinal RX12 "HillBendsModel" "imageForce" "[I" : Cond) ∈ wsA := wsA_t (List.mem_append_right _ (List.mem_append_right _ (List.mem_append_right _ (List.mem_append_right _ (List.mem_append_right _ (List.mem_append_left _ (List.mem_of_getElem? (l := tables_1_6) (i := 102) rfl))))))) rfl
theorem mw_6_104 : (.laysFinal RX12 "HillBendsModel" "imageX" "[I" : Cond) ∈ wsA := wsA_t (List.mem_append_right _ (List.mem_append_right _ (List.mem_append_right _ (List.mem_append_right _ (List.mem_append_right _ (List.mem_append_left _ (List.mem_of_getElem? (l := tables_1_6) (i := 104) rfl))))))) rfl
theorem mw_6_106 : (.laysFinal RX12 "HillBendsModel" "isMade" "[Z" : Cond) ∈ wsA := wsA_t (List.mem_append_right _ (List.mem_append_right _ (List.mem_append_right _ (List.mem_append_right _ (List.mem_append_right _ (List.mem_append_left _ (List.mem_of_getElem? (l := tables_1_6) (i := 106) rfl))))))) rfl
set_option maxRecDepth 20000 in
theorem lay0 : ∀ w ∈ u_ws RX0 TX0 6, w ∈ wsA := List.forall_mem_cons.mpr ⟨mw_2_106, List.forall_mem_cons.mpr ⟨mw_2_108, List.forall_mem_cons.mpr ⟨mw_2_110, List.forall_mem_cons.mpr ⟨mw_2_112, List.forall_mem_cons.mpr ⟨mw_2_114, List.forall_mem_cons.mpr ⟨mw_2_116, fun _ h => absurd h List.not_mem_nil⟩⟩⟩⟩⟩⟩
set_option maxRecDepth 20000 in
theorem lay1 : ∀ w ∈ u_ws RX1 TX1 9, w ∈ wsA := List.forall_mem_cons.mpr ⟨mw_2_137, List.forall_mem_cons.mpr ⟨mw_2_139, List.forall_mem_cons.mpr ⟨mw_2_141, List.forall_mem_cons.mpr ⟨mw_2_143, List.forall_mem_cons.mpr ⟨mw_2_145, List.forall_mem_cons.mpr ⟨mw_2_147, List.forall_mem_cons.mpr ⟨mw_2_149, List.forall_mem_cons.mpr ⟨mw_2_151, List.forall_mem_cons.mpr ⟨mw_2_153, fun _ h => absurd h List.not_mem_nil⟩⟩⟩⟩⟩⟩⟩⟩⟩
set_option maxRecDepth 20000 in
theorem lay2 : ∀ w ∈ u_ws RX2 TX2 4, w ∈ wsA := List.forall_mem_cons.mpr ⟨mw_2_168, List.forall_mem_cons.mpr ⟨mw_2_170, List.forall_mem_cons.mpr ⟨mw_2_172, List.forall_mem_cons.mpr ⟨mw_2_174, fun _ h => absurd h List.not_mem_nil⟩⟩⟩⟩
set_option maxRecDepth 20000 in
theorem lay3 : ∀ w ∈ u_ws RX3 TX3 11, w ∈ wsA := List.forall_mem_cons.mpr ⟨mw_1_190, List.forall_mem_cons.mpr ⟨mw_1_192, List.forall_mem_cons.mpr ⟨mw_1_194, List.forall_mem_cons.mpr ⟨mw_1_196, List.forall_mem_cons.mpr ⟨mw_1_198, List.forall_mem_cons.mpr ⟨mw_1_200, List.forall_mem_cons.mpr ⟨mw_1_202, List.forall_mem_cons.mpr ⟨mw_1_204, List.forall_mem_cons.mpr ⟨mw_1_206, List.forall_mem_cons.mpr ⟨mw_1_208, List.forall_mem_cons.mpr ⟨mw_1_210, fun _ h => absurd h List.not_mem_nil⟩⟩⟩⟩⟩⟩⟩⟩⟩⟩⟩
set_option maxRecDepth 20000 in
theorem lay4 : ∀ w ∈ u_ws RX4 TX4 2, w ∈ wsA := List.forall_mem_cons.mpr ⟨mw_1_216, List.forall_mem_cons.mpr ⟨mw_1_218, fun _ h => absurd h List.not_mem_nil⟩⟩
set_option maxRecDepth 20000 in
theorem lay5 : ∀ w ∈ u_ws RX5 TX5 3, w ∈ wsA := List.forall_mem_cons.mpr ⟨mw_2_52, List.forall_mem_cons.mpr ⟨mw_2_54, List.forall_mem_cons.mpr ⟨mw_2_56, fun _ h => absurd h List.not_mem_nil⟩⟩⟩
set_option maxRecDepth 20000 in
theorem lay6 : ∀ w ∈ u_ws RX6 TX6 6, w ∈ wsA := List.forall_mem_cons.mpr ⟨mw_2_75, List.forall_mem_cons.mpr ⟨mw_2_77, List.forall_mem_cons.mpr ⟨mw_2_79, List.forall_mem_cons.mpr ⟨mw_2_81, List.forall_mem_cons.mpr ⟨mw_2_83, List.forall_mem_cons.mpr ⟨mw_2_85, fun _ h => absurd h List.not_mem_nil⟩⟩⟩⟩⟩⟩
set_option maxRecDepth 20000 in
theorem lay7 : ∀ w ∈ u_ws RX7 TX7 8, w ∈ wsA := List.forall_mem_cons.mpr ⟨mw_2_190, List.forall_mem_cons.mpr ⟨mw_2_192, List.forall_mem_cons.mpr ⟨mw_2_194, List.forall_mem_cons.mpr ⟨mw_2_196, List.forall_mem_cons.mpr ⟨mw_2_198, List.forall_mem_cons.mpr ⟨mw_2_200, List.forall_mem_cons.mpr ⟨mw_2_202, List.forall_mem_cons.mpr ⟨mw_2_204, fun _ h => absurd h List.not_mem_nil⟩⟩⟩⟩⟩⟩⟩⟩
set_option maxRecDepth 20000 in
theorem lay8 : ∀ w ∈ u_ws RX8 TX8 8, w ∈ wsA := List.forall_mem_cons.mpr ⟨mw_1_113, List.forall_mem_cons.mpr ⟨mw_1_115, List.forall_mem_cons.mpr ⟨mw_1_117, List.forall_mem_cons.mpr ⟨mw_1_119, List.forall_mem_cons.mpr ⟨mw_1_121, List.forall_mem_cons.mpr ⟨mw_1_123, List.forall_mem_cons.mpr ⟨mw_1_125, List.forall_mem_cons.mpr ⟨mw_1_127, fun _ h => absurd h List.not_mem_nil⟩⟩⟩⟩⟩⟩⟩⟩
set_option maxRecDepth 20000 in
theorem lay9 : ∀ w ∈ u_ws RX9 TX9 7, w ∈ wsA := List.forall_mem_cons.mpr ⟨mw_1_46, List.forall_mem_cons.mpr ⟨mw_1_48, List.forall_mem_cons.mpr ⟨mw_1_50, List.forall_mem_cons.mpr ⟨mw_1_52, List.forall_mem_cons.mpr ⟨mw_1_54, List.forall_mem_cons.mpr ⟨mw_1_56, List.forall_mem_cons.mpr ⟨mw_1_58, fun _ h => absurd h List.not_mem_nil⟩⟩⟩⟩⟩⟩⟩
set_option maxRecDepth 20000 in
theorem lay10 : ∀ w ∈ u_ws RX10 TX10 9, w ∈ wsA := List.forall_mem_cons.mpr ⟨mw_2_19, List.forall_mem_cons.mpr ⟨mw_2_21, List.forall_mem_cons.mpr ⟨mw_2_23, List.forall_mem_cons.mpr ⟨mw_2_25, List.forall_mem_cons.mpr ⟨mw_2_27, List.forall_mem_cons.mpr ⟨mw_2_29, List.forall_mem_cons.mpr ⟨mw_2_31, List.forall_mem_cons.mpr ⟨mw_2_33, List.forall_mem_cons.mpr ⟨mw_2_35, fun _ h => absurd h List.not_mem_nil⟩⟩⟩⟩⟩⟩⟩⟩⟩
set_option maxRecDepth 20000 in
theorem lay11 : ∀ w ∈ u_ws RX11 TX11 12, w ∈ wsA := List.forall_mem_cons.mpr ⟨mw_2_219, List.forall_mem_cons.mpr ⟨mw_2_221, List.forall_mem_cons.mpr ⟨mw_2_223, List.forall_mem_cons.mpr ⟨mw_2_225, List.forall_mem_cons.mpr ⟨mw_2_227, List.forall_mem_cons.mpr ⟨mw_2_229, List.forall_mem_cons.mpr ⟨mw_2_231, List.forall_mem_cons.mpr ⟨mw_2_233, List.forall_mem_cons.mpr ⟨mw_2_235, List.forall_mem_cons.mpr ⟨mw_2_237, List.forall_mem_cons.mpr ⟨mw_2_239, List.forall_mem_cons.mpr ⟨mw_3_1, fun _ h => absurd h List.not_mem_nil⟩⟩⟩⟩⟩⟩⟩⟩⟩⟩⟩⟩
set_option maxRecDepth 20000 in
theorem lay12 : ∀ w ∈ u_ws RX12 TX12 44, w ∈ wsA := List.forall_mem_cons.mpr ⟨mw_6_20, List.forall_mem_cons.mpr ⟨mw_6_22, List.forall_mem_cons.mpr ⟨mw_6_24, List.forall_mem_cons.mpr ⟨mw_6_26, List.forall_mem_cons.mpr ⟨mw_6_28, List.forall_mem_cons.mpr ⟨mw_6_30, List.forall_mem_cons.mpr ⟨mw_6_32, List.forall_mem_cons.mpr ⟨mw_6_34, List.forall_mem_cons.mpr ⟨mw_6_36, List.forall_mem_cons.mpr ⟨mw_6_38, List.forall_mem_cons.mpr ⟨mw_6_40, List.forall_mem_cons.mpr ⟨mw_6_42, List.forall_mem_cons.mpr ⟨mw_6_44, List.forall_mem_cons.mpr ⟨mw_6_46, List.forall_mem_cons.mpr ⟨mw_6_48, List.forall_mem_cons.mpr ⟨mw_6_50, List.forall_mem_cons.mpr ⟨mw_6_52, List.forall_mem_cons.mpr ⟨mw_6_54, List.forall_mem_cons.mpr ⟨mw_6_56, List.forall_mem_cons.mpr ⟨mw_6_58, List.forall_mem_cons.mpr ⟨mw_6_60, List.forall_mem_cons.mpr ⟨mw_6_62, List.forall_mem_cons.mpr ⟨mw_6_64, List.forall_mem_cons.mpr ⟨mw_6_66, List.forall_mem_cons.mpr ⟨mw_6_68, List.forall_mem_cons.mpr ⟨mw_6_70, List.forall_mem_cons.mpr ⟨mw_6_72, List.forall_mem_cons.mpr ⟨mw_6_74, List.forall_mem_cons.mpr ⟨mw_6_76, List.forall_mem_cons.mpr ⟨mw_6_78, List.forall_mem_cons.mpr ⟨mw_6_80, List.forall_mem_cons.mpr ⟨mw_6_82, List.forall_mem_cons.mpr ⟨mw_6_84, List.forall_mem_cons.mpr ⟨mw_6_86, List.forall_mem_cons.mpr ⟨mw_6_88, List.forall_mem_cons.mpr ⟨mw_6_90, List.forall_mem_cons.mpr ⟨mw_6_92, List.forall_mem_cons.mpr ⟨mw_6_94, List.forall_mem_cons.mpr ⟨mw_6_96, List.forall_mem_cons.mpr ⟨mw_6_98, List.forall_mem_cons.mpr ⟨mw_6_100, List.forall_mem_cons.mpr ⟨mw_6_102, List.forall_mem_cons.mpr ⟨mw_6_104, List.forall_mem_cons.mpr ⟨mw_6_106, fun _ h => absurd h List.not_mem_nil⟩⟩⟩⟩⟩⟩⟩⟩⟩⟩⟩⟩⟩⟩⟩⟩⟩⟩⟩⟩⟩⟩⟩⟩⟩⟩⟩⟩⟩⟩⟩⟩⟩⟩⟩⟩⟩⟩⟩⟩⟩⟩⟩⟩
theorem fq_0_0 : FQ 0 0 RX0 TX0 (.array .int) := ⟨0, 6, Fs0, tyX0, fun _ _ _ _ => rfl, rfl, by decide, lay0, tyX0_ok, nmX0, fun _ _ _ => rfl, fun _ _ _ _ => rfl, by decide +kernel, fun _ _ _ => Nat.le_of_ble_eq_true rfl, rfl⟩
theorem fq_0_1 : FQ 0 1 RX0 TX0 (.array .int) := ⟨0, 6, Fs0, tyX0, fun _ _ _ _ => rfl, rfl, by decide, lay0, tyX0_ok, nmX0, fun _ _ _ => rfl, fun _ _ _ _ => rfl, by decide +kernel, fun _ _ _ => Nat.le_of_ble_eq_true rfl, rfl⟩
theorem fq_0_2 : FQ 0 2 RX0 TX0 (.array .int) := ⟨0, 6, Fs0, tyX0, fun _ _ _ _ => rfl, rfl, by decide, lay0, tyX0_ok, nmX0, fun _ _ _ => rfl, fun _ _ _ _ => rfl, by decide +kernel, fun _ _ _ => Nat.le_of_ble_eq_true rfl, rfl⟩
theorem fq_0_3 : FQ 0 3 RX0 TX0 (.array .int) := ⟨0, 6, Fs0, tyX0, fun _ _ _ _ => rfl, rfl, by decide, lay0, tyX0_ok, nmX0, fun _ _ _ => rfl, fun _ _ _ _ => rfl, by decide +kernel, fun _ _ _ => Nat.le_of_ble_eq_true rfl, rfl⟩
theorem fi_0_4 : FI 0 4 RX0 TX0 .int := ⟨0, 6, Fs0, tyX0, fun _ _ _ _ => rfl, rfl, by decide, lay0, tyX0_ok, nmX0, fun _ _ _ => rfl, fun _ _ _ _ => rfl, by decide +kernel, fun _ _ _ => Nat.le_of_ble_eq_true rfl, rfl⟩
theorem fi_0_5 : FI 0 5 RX0 TX0 .int := ⟨0, 6, Fs0, tyX0, fun _ _ _ _ => rfl, rfl, by decide, lay0, tyX0_ok, nmX0, fun _ _ _ => rfl, fun _ _ _ _ => rfl, by decide +kernel, fun _ _ _ => Nat.le_of_ble_eq_true rfl, rfl⟩
theorem fq_1_0 : FQ 1 0 RX1 TX1 (.array .int) := ⟨1, 9, Fs1, tyX1, fun _ _ _ _ => rfl, rfl, by decide, lay1, tyX1_ok, nmX1, fun _ _ _ => rfl, fun _ _ _ _ => rfl, by decide +kernel, fun _ _ _ => Nat.le_of_ble_eq_true rfl, rfl⟩
theorem fq_1_1 : FQ 1 1 RX1 TX1 (.array .int) := ⟨1, 9, Fs1, tyX1, fun _ _ _ _ => rfl, rfl, by decide, lay1, tyX1_ok, nmX1, fun _ _ _ => rfl, fun _ _ _ _ => rfl, by decide +kernel, fun _ _ _ => Nat.le_of_ble_eq_true rfl, rfl⟩
theorem fq_1_2 : FQ 1 2 RX1 TX1 (.array .int) := ⟨1, 9, Fs1, tyX1, fun _ _ _ _ => rfl, rfl, by decide, lay1, tyX1_ok, nmX1, fun _ _ _ => rfl, fun _ _ _ _ => rfl, by decide +kernel, fun _ _ _ => Nat.le_of_ble_eq_true rfl, rfl⟩
theorem fq_1_3 : FQ 1 3 RX1 TX1 (.array .int) := ⟨1, 9, Fs1, tyX1, fun _ _ _ _ => rfl, rfl, by decide, lay1, tyX1_ok, nmX1, fun _ _ _ => rfl, fun _ _ _ _ => rfl, by decide +kernel, fun _ _ _ => Nat.le_of_ble_eq_true rfl, rfl⟩
theorem fi_1_4 : FI 1 4 RX1 TX1 .int := ⟨1, 9, Fs1, tyX1, fun _ _ _ _ => rfl, rfl, by decide, lay1, tyX1_ok, nmX1, fun _ _ _ => rfl, fun _ _ _ _ => rfl, by decide +kernel, fun _ _ _ => Nat.le_of_ble_eq_true rfl, rfl⟩
theorem fq_1_5 : FQ 1 5 RX1 TX1 (.array .int) := ⟨1, 9, Fs1, tyX1, fun _ _ _ _ => rfl, rfl, by decide, lay1, tyX1_ok, nmX1, fun _ _ _ => rfl, fun _ _ _ _ => rfl, by decide +kernel, fun _ _ _ => Nat.le_of_ble_eq_true rfl, rfl⟩
theorem fq_1_6 : FQ 1 6 RX1 TX1 (.array .int) := ⟨1, 9, Fs1, tyX1, fun _ _ _ _ => rfl, rfl, by decide, lay1, tyX1_ok, nmX1, fun _ _ _ => rfl, fun _ _ _ _ => rfl, by decide +kernel, fun _ _ _ => Nat.le_of_ble_eq_true rfl, rfl⟩
theorem fq_1_7 : FQ 1 7 RX1 TX1 (.array .int) := ⟨1, 9, Fs1, tyX1, fun _ _ _ _ => rfl, rfl, by decide, lay1, tyX1_ok, nmX1, fun _ _ _ => rfl, fun _ _ _ _ => rfl, by decide +kernel, fun _ _ _ => Nat.le_of_ble_eq_true rfl, rfl⟩
theorem fi_1_8 : FI 1 8 RX1 TX1 .int := ⟨1, 9, Fs1, tyX1, fun _ _ _ _ => rfl, rfl, by decide, lay1, tyX1_ok, nmX1, fun _ _ _ => rfl, fun _ _ _ _ => rfl, by decide +kernel, fun _ _ _ => Nat.le_of_ble_eq_true rfl, rfl⟩
theorem fq_2_0 : FQ 2 0 RX2 TX2 (.array .int) := ⟨2, 4, Fs2, tyX2, fun _ _ _ _ => rfl, rfl, by decide, lay2, tyX2_ok, nmX2, fun _ _ _ => rfl, fun _ _ _ _ => rfl, by decide +kernel, fun _ _ _ => Nat.le_of_ble_eq_true rfl, rfl⟩
theorem fq_2_1 : FQ 2 1 RX2 TX2 (.array .int) := ⟨2, 4, Fs2, tyX2, fun _ _ _ _ => rfl, rfl, by decide, lay2, tyX2_ok, nmX2, fun _ _ _ => rfl, fun _ _ _ _ => rfl, by decide +kernel, fun _ _ _ => Nat.le_of_ble_eq_true rfl, rfl⟩
theorem fq_2_2 : FQ 2 2 RX2 TX2 (.object "HillBends$Scene") := ⟨2, 4, Fs2, tyX2, fun _ _ _ _ => rfl, rfl, by decide, lay2, tyX2_ok, nmX2, fun _ _ _ => rfl, fun _ _ _ _ => rfl, by decide +kernel, fun _ _ _ => Nat.le_of_ble_eq_true rfl, rfl⟩
theorem fi_2_3 : FI 2 3 RX2 TX2 .int := ⟨2, 4, Fs2, tyX2, fun _ _ _ _ => rfl, rfl, by decide, lay2, tyX2_ok, nmX2, fun _ _ _ => rfl, fun _ _ _ _ => rfl, by decide +kernel, fun _ _ _ => Nat.le_of_ble_eq_true rfl, rfl⟩
theorem fq_3_0 : FQ 3 0 RX3 TX3 (.array .int) := ⟨3, 11, Fs3, tyX3, fun _ _ _ _ => rfl, rfl, by decide, lay3, tyX3_ok, nmX3, fun _ _ _ => rfl, fun _ _ _ _ => rfl, by decide +kernel, fun _ _ _ => Nat.le_of_ble_eq_true rfl, rfl⟩
theorem fq_3_1 : FQ 3 1 RX3 TX3 (.array .int) := ⟨3, 11, Fs3, tyX3, fun _ _ _ _ => rfl, rfl, by decide, lay3, tyX3_ok, nmX3, fun _ _ _ => rfl, fun _ _ _ _ => rfl, by decide +kernel, fun _ _ _ => Nat.le_of_ble_eq_true rfl, rfl⟩
theorem fq_3_2 : FQ 3 2 RX3 TX3 (.array .int) := ⟨3, 11, Fs3, tyX3, fun _ _ _ _ => rfl, rfl, by decide, lay3, tyX3_ok, nmX3, fun _ _ _ => rfl, fun _ _ _ _ => rfl, by decide +kernel, fun _ _ _ => Nat.le_of_ble_eq_true rfl, rfl⟩
theorem fq_3_3 : FQ 3 3 RX3 TX3 (.array .int) := ⟨3, 11, Fs3, tyX3, fun _ _ _ _ => rfl, rfl, by decide, lay3, tyX3_ok, nmX3, fun _ _ _ => rfl, fun _ _ _ _ => rfl, by decide +kernel, fun _ _ _ => Nat.le_of_ble_eq_true rfl, rfl⟩
theorem fq_3_4 : FQ 3 4 RX3 TX3 (.array .int) := ⟨3, 11, Fs3, tyX3, fun _ _ _ _ => rfl, rfl, by decide, lay3, tyX3_ok, nmX3, fun _ _ _ => rfl, fun _ _ _ _ => rfl, by decide +kernel, fun _ _ _ => Nat.le_of_ble_eq_true rfl, rfl⟩
theorem fq_3_5 : FQ 3 5 RX3 TX3 (.object "HillBends$Scene") := ⟨3, 11, Fs3, tyX3, fun _ _ _ _ => rfl, rfl, by decide, lay3, tyX3_ok, nmX3, fun _ _ _ => rfl, fun _ _ _ _ => rfl, by decide +kernel, fun _ _ _ => Nat.le_of_ble_eq_true rfl, rfl⟩
theorem fi_3_6 : FI 3 6 RX3 TX3 .boolean := ⟨3, 11, Fs3, tyX3, fun _ _ _ _ => rfl, rfl, by decide, lay3, tyX3_ok, nmX3, fun _ _ _ => rfl, fun _ _ _ _ => rfl, by decide +kernel, fun _ _ _ => Nat.le_of_ble_eq_true rfl, rfl⟩
theorem fi_3_7 : FI 3 7 RX3 TX3 .int := ⟨3, 11, Fs3, tyX3, fun _ _ _ _ => rfl, rfl, by decide, lay3, tyX3_ok, nmX3, fun _ _ _ => rfl, fun _ _ _ _ => rfl, by decide +kernel, fun _ _ _ => Nat.le_of_ble_eq_true rfl, rfl⟩
theorem fi_3_8 : FI 3 8 RX3 TX3 .int := ⟨3, 11, Fs3, tyX3, fun _ _ _ _ => rfl, rfl, by decide, lay3, tyX3_ok, nmX3, fun _ _ _ => rfl, fun _ _ _ _ => rfl, by decide +kernel, fun _ _ _ => Nat.le_of_ble_eq_true rfl, rfl⟩
theorem fi_3_9 : FI 3 9 RX3 TX3 .int := ⟨3, 11, Fs3, tyX3, fun _ _ _ _ => rfl, rfl, by decide, lay3, tyX3_ok, nmX3, fun _ _ _ => rfl, fun _ _ _ _ => rfl, by decide +kernel, fun _ _ _ => Nat.le_of_ble_eq_true rfl, rfl⟩
theorem fi_3_10 : FI 3 10 RX3 TX3 .int := ⟨3, 11, Fs3, tyX3, fun _ _ _ _ => rfl, rfl, by decide, lay3, tyX3_ok, nmX3, fun _ _ _ => rfl, fun _ _ _ _ => rfl, by decide +kernel, fun _ _ _ => Nat.le_of_ble_eq_true rfl, rfl⟩
theorem fq_4_0 : FQ 4 0 RX4 TX4 (.object "HillBends$Hill") := ⟨4, 2, Fs4, tyX4, fun _ _ _ _ => rfl, rfl, by decide, lay4, tyX4_ok, nmX4, fun _ _ _ => rfl, fun _ _ _ _ => rfl, by decide +kernel, fun _ _ _ => Nat.le_of_ble_eq_true rfl, rfl⟩
theorem fi_4_1 : FI 4 1 RX4 TX4 .int := ⟨4, 2, Fs4, tyX4, fun _ _ _ _ => rfl, rfl, by decide, lay4, tyX4_ok, nmX4, fun _ _ _ => rfl, fun _ _ _ _ => rfl, by decide +kernel, fun _ _ _ => Nat.le_of_ble_eq_true rfl, rfl⟩
theorem fq_5_0 : FQ 5 0 RX5 TX5 (.array (.object "HillBends$Scene")) := ⟨5, 3, Fs5, tyX5, fun _ _ _ _ => rfl, rfl, by decide, lay5, tyX5_ok, nmX5, fun _ _ _ => rfl, fun _ _ _ _ => rfl, by decide +kernel, fun _ _ _ => Nat.le_of_ble_eq_true rfl, rfl⟩
theorem fi_5_1 : FI 5 1 RX5 TX5 .int := ⟨5, 3, Fs5, tyX5, fun _ _ _ _ => rfl, rfl, by decide, lay5, tyX5_ok, nmX5, fun _ _ _ => rfl, fun _ _ _ _ => rfl, by decide +kernel, fun _ _ _ => Nat.le_of_ble_eq_true rfl, rfl⟩
theorem fi_5_2 : FI 5 2 RX5 TX5 .int := ⟨5, 3, Fs5, tyX5, fun _ _ _ _ => rfl, rfl, by decide, lay5, tyX5_ok, nmX5, fun _ _ _ => rfl, fun _ _ _ _ => rfl, by decide +kernel, fun _ _ _ => Nat.le_of_ble_eq_true rfl, rfl⟩
theorem fq_6_0 : FQ 6 0 RX6 TX6 (.array .long) := ⟨6, 6, Fs6, tyX6, fun _ _ _ _ => rfl, rfl, by decide, lay6, tyX6_ok, nmX6, fun _ _ _ => rfl, fun _ _ _ _ => rfl, by decide +kernel, fun _ _ _ => Nat.le_of_ble_eq_true rfl, rfl⟩
theorem fq_6_1 : FQ 6 1 RX6 TX6 (.array .long) := ⟨6, 6, Fs6, tyX6, fun _ _ _ _ => rfl, rfl, by decide, lay6, tyX6_ok, nmX6, fun _ _ _ => rfl, fun _ _ _ _ => rfl, by decide +kernel, fun _ _ _ => Nat.le_of_ble_eq_true rfl, rfl⟩
theorem fq_6_2 : FQ 6 2 RX6 TX6 (.object "HillBends$Scene") := ⟨6, 6, Fs6, tyX6, fun _ _ _ _ => rfl, rfl, by decide, lay6, tyX6_ok, nmX6, fun _ _ _ => rfl, fun _ _ _ _ => rfl, by decide +kernel, fun _ _ _ => Nat.le_of_ble_eq_true rfl, rfl⟩
theorem fi_6_3 : FI 6 3 RX6 TX6 .int := ⟨6, 6, Fs6, tyX6, fun _ _ _ _ => rfl, rfl, by decide, lay6, tyX6_ok, nmX6, fun _ _ _ => rfl, fun _ _ _ _ => rfl, by decide +kernel, fun _ _ _ => Nat.le_of_ble_eq_true rfl, rfl⟩
theorem fi_6_4 : FI 6 4 RX6 TX6 .int := ⟨6, 6, Fs6, tyX6, fun _ _ _ _ => rfl, rfl, by decide, lay6, tyX6_ok, nmX6, fun _ _ _ => rfl, fun _ _ _ _ => rfl, by decide +kernel, fun _ _ _ => Nat.le_of_ble_eq_true rfl, rfl⟩
theorem fi_6_5 : FI 6 5 RX6 TX6 .int := ⟨6, 6, Fs6, tyX6, fun _ _ _ _ => rfl, rfl, by decide, lay6, tyX6_ok, nmX6, fun _ _ _ => rfl, fun _ _ _ _ => rfl, by decide +kernel, fun _ _ _ => Nat.le_of_ble_eq_true rfl, rfl⟩
theorem fq_7_0 : FQ 7 0 RX7 TX7 (.array .int) := ⟨7, 8, Fs7, tyX7, fun _ _ _ _ => rfl, rfl, by decide, lay7, tyX7_ok, nmX7, fun _ _ _ => rfl, fun _ _ _ _ => rfl, by decide +kernel, fun _ _ _ => Nat.le_of_ble_eq_true rfl, rfl⟩
theorem fq_7_1 : FQ 7 1 RX7 TX7 (.array .int) := ⟨7, 8, Fs7, tyX7, fun _ _ _ _ => rfl, rfl, by decide, lay7, tyX7_ok, nmX7, fun _ _ _ => rfl, fun _ _ _ _ => rfl, by decide +kernel, fun _ _ _ => Nat.le_of_ble_eq_true rfl, rfl⟩
theorem fq_7_2 : FQ 7 2 RX7 TX7 (.array .int) := ⟨7, 8, Fs7, tyX7, fun _ _ _ _ => rfl, rfl, by decide, lay7, tyX7_ok, nmX7, fun _ _ _ => rfl, fun _ _ _ _ => rfl, by decide +kernel, fun _ _ _ => Nat.le_of_ble_eq_true rfl, rfl⟩
theorem fq_7_3 : FQ 7 3 RX7 TX7 (.array .int) := ⟨7, 8, Fs7, tyX7, fun _ _ _ _ => rfl, rfl, by decide, lay7, tyX7_ok, nmX7, fun _ _ _ => rfl, fun _ _ _ _ => rfl, by decide +kernel, fun _ _ _ => Nat.le_of_ble_eq_true rfl, rfl⟩
theorem fi_7_4 : FI 7 4 RX7 TX7 .int := ⟨7, 8, Fs7, tyX7, fun _ _ _ _ => rfl, rfl, by decide, lay7, tyX7_ok, nmX7, fun _ _ _ => rfl, fun _ _ _ _ => rfl, by decide +kernel, fun _ _ _ => Nat.le_of_ble_eq_true rfl, rfl⟩
theorem fi_7_5 : FI 7 5 RX7 TX7 .int := ⟨7, 8, Fs7, tyX7, fun _ _ _ _ => rfl, rfl, by decide, lay7, tyX7_ok, nmX7, fun _ _ _ => rfl, fun _ _ _ _ => rfl, by decide +kernel, fun _ _ _ => Nat.le_of_ble_eq_true rfl, rfl⟩
theorem fi_7_6 : FI 7 6 RX7 TX7 .int := ⟨7, 8, Fs7, tyX7, fun _ _ _ _ => rfl, rfl, by decide, lay7, tyX7_ok, nmX7, fun _ _ _ => rfl, fun _ _ _ _ => rfl, by decide +kernel, fun _ _ _ => Nat.le_of_ble_eq_true rfl, rfl⟩
theorem fi_7_7 : FI 7 7 RX7 TX7 .int := ⟨7, 8, Fs7, tyX7, fun _ _ _ _ => rfl, rfl, by decide, lay7, tyX7_ok, nmX7, fun _ _ _ => rfl, fun _ _ _ _ => rfl, by decide +kernel, fun _ _ _ => Nat.le_of_ble_eq_true rfl, rfl⟩
theorem fq_8_0 : FQ 8 0 RX8 TX8 (.array .int) := ⟨8, 8, Fs8, tyX8, fun _ _ _ _ => rfl, rfl, by decide, lay8, tyX8_ok, nmX8, fun _ _ _ => rfl, fun _ _ _ _ => rfl, by decide +kernel, fun _ _ _ => Nat.le_of_ble_eq_true rfl, rfl⟩
theorem fq_8_1 : FQ 8 1 RX8 TX8 (.array .int) := ⟨8, 8, Fs8, tyX8, fun _ _ _ _ => rfl, rfl, by decide, lay8, tyX8_ok, nmX8, fun _ _ _ => rfl, fun _ _ _ _ => rfl, by decide +kernel, fun _ _ _ => Nat.le_of_ble_eq_true rfl, rfl⟩
theorem fq_8_2 : FQ 8 2 RX8 TX8 (.array .int) := ⟨8, 8, Fs8, tyX8, fun _ _ _ _ => rfl, rfl, by decide, lay8, tyX8_ok, nmX8, fun _ _ _ => rfl, fun _ _ _ _ => rfl, by decide +kernel, fun _ _ _ => Nat.le_of_ble_eq_true rfl, rfl⟩
theorem fq_8_3 : FQ 8 3 RX8 TX8 (.array .int) := ⟨8, 8, Fs8, tyX8, fun _ _ _ _ => rfl, rfl, by decide, lay8, tyX8_ok, nmX8, fun _ _ _ => rfl, fun _ _ _ _ => rfl, by decide +kernel, fun _ _ _ => Nat.le_of_ble_eq_true rfl, rfl⟩
theorem fq_8_4 : FQ 8 4 RX8 TX8 (.array .int) := ⟨8, 8, Fs8, tyX8, fun _ _ _ _ => rfl, rfl, by decide, lay8, tyX8_ok, nmX8, fun _ _ _ => rfl, fun _ _ _ _ => rfl, by decide +kernel, fun _ _ _ => Nat.le_of_ble_eq_true rfl, rfl⟩
theorem fq_8_5 : FQ 8 5 RX8 TX8 (.array .int) := ⟨8, 8, Fs8, tyX8, fun _ _ _ _ => rfl, rfl, by decide, lay8, tyX8_ok, nmX8, fun _ _ _ => rfl, fun _ _ _ _ => rfl, by decide +kernel, fun _ _ _ => Nat.le_of_ble_eq_true rfl, rfl⟩
theorem fi_8_6 : FI 8 6 RX8 TX8 .int := ⟨8, 8, Fs8, tyX8, fun _ _ _ _ => rfl, rfl, by decide, lay8, tyX8_ok, nmX8, fun _ _ _ => rfl, fun _ _ _ _ => rfl, by decide +kernel, fun _ _ _ => Nat.le_of_ble_eq_true rfl, rfl⟩
theorem fi_8_7 : FI 8 7 RX8 TX8 .int := ⟨8, 8, Fs8, tyX8, fun _ _ _ _ => rfl, rfl, by decide, lay8, tyX8_ok, nmX8, fun _ _ _ => rfl, fun _ _ _ _ => rfl, by decide +kernel, fun _ _ _ => Nat.le_of_ble_eq_true rfl, rfl⟩
theorem fq_9_0 : FQ 9 0 RX9 TX9 (.array .int) := ⟨9, 7, Fs9, tyX9, fun _ _ _ _ => rfl, rfl, by decide, lay9, tyX9_ok, nmX9, fun _ _ _ => rfl, fun _ _ _ _ => rfl, by decide +kernel, fun _ _ _ => Nat.le_of_ble_eq_true rfl, rfl⟩
theorem fq_9_1 : FQ 9 1 RX9 TX9 (.array .int) := ⟨9, 7, Fs9, tyX9, fun _ _ _ _ => rfl, rfl, by decide, lay9, tyX9_ok, nmX9, fun _ _ _ => rfl, fun _ _ _ _ => rfl, by decide +kernel, fun _ _ _ => Nat.le_of_ble_eq_true rfl, rfl⟩
theorem fq_9_2 : FQ 9 2 RX9 TX9 (.array .int) := ⟨9, 7, Fs9, tyX9, fun _ _ _ _ => rfl, rfl, by decide, lay9, tyX9_ok, nmX9, fun _ _ _ => rfl, fun _ _ _ _ => rfl, by decide +kernel, fun _ _ _ => Nat.le_of_ble_eq_true rfl, rfl⟩
theorem fq_9_3 : FQ 9 3 RX9 TX9 (.array .int) := ⟨9, 7, Fs9, tyX9, fun _ _ _ _ => rfl, rfl, by decide, lay9, tyX9_ok, nmX9, fun _ _ _ => rfl, fun _ _ _ _ => rfl, by decide +kernel, fun _ _ _ => Nat.le_of_ble_eq_true rfl, rfl⟩
theorem fi_9_4 : FI 9 4 RX9 TX9 .int := ⟨9, 7, Fs9, tyX9, fun _ _ _ _ => rfl, rfl, by decide, lay9, tyX9_ok, nmX9, fun _ _ _ => rfl, fun _ _ _ _ => rfl, by decide +kernel, fun _ _ _ => Nat.le_of_ble_eq_true rfl, rfl⟩
theorem fi_9_5 : FI 9 5 RX9 TX9 .int := ⟨9, 7, Fs9, tyX9, fun _ _ _ _ => rfl, rfl, by decide, lay9, tyX9_ok, nmX9, fun _ _ _ => rfl, fun _ _ _ _ => rfl, by decide +kernel, fun _ _ _ => Nat.le_of_ble_eq_true rfl, rfl⟩
theorem fi_9_6 : FI 9 6 RX9 TX9 .int := ⟨9, 7, Fs9, tyX9, fun _ _ _ _ => rfl, rfl, by decide, lay9, tyX9_ok, nmX9, fun _ _ _ => rfl, fun _ _ _ _ => rfl, by decide +kernel, fun _ _ _ => Nat.le_of_ble_eq_true rfl, rfl⟩
theorem fq_10_0 : FQ 10 0 RX10 TX10 (.object "HillBends$Hill") := ⟨10, 9, Fs10, tyX10, fun _ _ _ _ => rfl, rfl, by decide, lay10, tyX10_ok, nmX10, fun _ _ _ => rfl, fun _ _ _ _ => rfl, by decide +kernel, fun _ _ _ => Nat.le_of_ble_eq_true rfl, rfl⟩
theorem fq_10_1 : FQ 10 1 RX10 TX10 (.object "HillBends$Scene") := ⟨10, 9, Fs10, tyX10, fun _ _ _ _ => rfl, rfl, by decide, lay10, tyX10_ok, nmX10, fun _ _ _ => rfl, fun _ _ _ _ => rfl, by decide +kernel, fun _ _ _ => Nat.le_of_ble_eq_true rfl, rfl⟩
theorem fq_10_2 : FQ 10 2 RX10 TX10 (.array .int) := ⟨10, 9, Fs10, tyX10, fun _ _ _ _ => rfl, rfl, by decide, lay10, tyX10_ok, nmX10, fun _ _ _ => rfl, fun _ _ _ _ => rfl, by decide +kernel, fun _ _ _ => Nat.le_of_ble_eq_true rfl, rfl⟩
theorem fq_10_3 : FQ 10 3 RX10 TX10 (.array .int) := ⟨10, 9, Fs10, tyX10, fun _ _ _ _ => rfl, rfl, by decide, lay10, tyX10_ok, nmX10, fun _ _ _ => rfl, fun _ _ _ _ => rfl, by decide +kernel, fun _ _ _ => Nat.le_of_ble_eq_true rfl, rfl⟩
theorem fq_10_4 : FQ 10 4 RX10 TX10 (.array .int) := ⟨10, 9, Fs10, tyX10, fun _ _ _ _ => rfl, rfl, by decide, lay10, tyX10_ok, nmX10, fun _ _ _ => rfl, fun _ _ _ _ => rfl, by decide +kernel, fun _ _ _ => Nat.le_of_ble_eq_true rfl, rfl⟩
theorem fq_10_5 : FQ 10 5 RX10 TX10 (.array .int) := ⟨10, 9, Fs10, tyX10, fun _ _ _ _ => rfl, rfl, by decide, lay10, tyX10_ok, nmX10, fun _ _ _ => rfl, fun _ _ _ _ => rfl, by decide +kernel, fun _ _ _ => Nat.le_of_ble_eq_true rfl, rfl⟩
theorem fi_10_6 : FI 10 6 RX10 TX10 .int := ⟨10, 9, Fs10, tyX10, fun _ _ _ _ => rfl, rfl, by decide, lay10, tyX10_ok, nmX10, fun _ _ _ => rfl, fun _ _ _ _ => rfl, by decide +kernel, fun _ _ _ => Nat.le_of_ble_eq_true rfl, rfl⟩
theorem fi_10_7 : FI 10 7 RX10 TX10 .int := ⟨10, 9, Fs10, tyX10, fun _ _ _ _ => rfl, rfl, by decide, lay10, tyX10_ok, nmX10, fun _ _ _ => rfl, fun _ _ _ _ => rfl, by decide +kernel, fun _ _ _ => Nat.le_of_ble_eq_true rfl, rfl⟩
theorem fi_10_8 : FI 10 8 RX10 TX10 .int := ⟨10, 9, Fs10, tyX10, fun _ _ _ _ => rfl, rfl, by decide, lay10, tyX10_ok, nmX10, fun _ _ _ => rfl, fun _ _ _ _ => rfl, by decide +kernel, fun _ _ _ => Nat.le_of_ble_eq_true rfl, rfl⟩
theorem fq_11_0 : FQ 11 0 RX11 TX11 (.object "HillBends$Tape") := ⟨11, 12, Fs11, tyX11, fun _ _ _ _ => rfl, rfl, by decide, lay11, tyX11_ok, nmX11, fun _ _ _ => rfl, fun _ _ _ _ => rfl, by decide +kernel, fun _ _ _ => Nat.le_of_ble_eq_true rfl, rfl⟩
theorem fq_11_1 : FQ 11 1 RX11 TX11 (.object "HillBends$HillReader") := ⟨11, 12, Fs11, tyX11, fun _ _ _ _ => rfl, rfl, by decide, lay11, tyX11_ok, nmX11, fun _ _ _ => rfl, fun _ _ _ _ => rfl, by decide +kernel, fun _ _ _ => Nat.le_of_ble_eq_true rfl, rfl⟩
theorem fq_11_2 : FQ 11 2 RX11 TX11 (.array (.object "HillBends$Rule")) := ⟨11, 12, Fs11, tyX11, fun _ _ _ _ => rfl, rfl, by decide, lay11, tyX11_ok, nmX11, fun _ _ _ => rfl, fun _ _ _ _ => rfl, by decide +kernel, fun _ _ _ => Nat.le_of_ble_eq_true rfl, rfl⟩
theorem fq_11_3 : FQ 11 3 RX11 TX11 (.object "HillBends$World") := ⟨11, 12, Fs11, tyX11, fun _ _ _ _ => rfl, rfl, by decide, lay11, tyX11_ok, nmX11, fun _ _ _ => rfl, fun _ _ _ _ => rfl, by decide +kernel, fun _ _ _ => Nat.le_of_ble_eq_true rfl, rfl⟩
theorem fq_11_4 : FQ 11 4 RX11 TX11 (.array (.object "HillBends$World")) := ⟨11, 12, Fs11, tyX11, fun _ _ _ _ => rfl, rfl, by decide, lay11, tyX11_ok, nmX11, fun _ _ _ => rfl, fun _ _ _ _ => rfl, by decide +kernel, fun _ _ _ => Nat.le_of_ble_eq_true rfl, rfl⟩
theorem fq_11_5 : FQ 11 5 RX11 TX11 (.object "HillBends$History") := ⟨11, 12, Fs11, tyX11, fun _ _ _ _ => rfl, rfl, by decide, lay11, tyX11_ok, nmX11, fun _ _ _ => rfl, fun _ _ _ _ => rfl, by decide +kernel, fun _ _ _ => Nat.le_of_ble_eq_true rfl, rfl⟩
theorem fq_11_6 : FQ 11 6 RX11 TX11 (.object "HillBends$Nights") := ⟨11, 12, Fs11, tyX11, fun _ _ _ _ => rfl, rfl, by decide, lay11, tyX11_ok, nmX11, fun _ _ _ => rfl, fun _ _ _ _ => rfl, by decide +kernel, fun _ _ _ => Nat.le_of_ble_eq_true rfl, rfl⟩
theorem fq_11_7 : FQ 11 7 RX11 TX11 (.object "HillBends$Chances") := ⟨11, 12, Fs11, tyX11, fun _ _ _ _ => rfl, rfl, by decide, lay11, tyX11_ok, nmX11, fun _ _ _ => rfl, fun _ _ _ _ => rfl, by decide +kernel, fun _ _ _ => Nat.le_of_ble_eq_true rfl, rfl⟩
theorem fq_11_8 : FQ 11 8 RX11 TX11 (.object "HillBends$Choices") := ⟨11, 12, Fs11, tyX11, fun _ _ _ _ => rfl, rfl, by decide, lay11, tyX11_ok, nmX11, fun _ _ _ => rfl, fun _ _ _ _ => rfl, by decide +kernel, fun _ _ _ => Nat.le_of_ble_eq_true rfl, rfl⟩
theorem fq_11_9 : FQ 11 9 RX11 TX11 (.object "HillBends$Forecast") := ⟨11, 12, Fs11, tyX11, fun _ _ _ _ => rfl, rfl, by decide, lay11, tyX11_ok, nmX11, fun _ _ _ => rfl, fun _ _ _ _ => rfl, by decide +kernel, fun _ _ _ => Nat.le_of_ble_eq_true rfl, rfl⟩
theorem fi_11_10 : FI 11 10 RX11 TX11 .int := ⟨11, 12, Fs11, tyX11, fun _ _ _ _ => rfl, rfl, by decide, lay11, tyX11_ok, nmX11, fun _ _ _ => rfl, fun _ _ _ _ => rfl, by decide +kernel, fun _ _ _ => Nat.le_of_ble_eq_true rfl, rfl⟩
theorem fi_11_11 : FI 11 11 RX11 TX11 .int := ⟨11, 12, Fs11, tyX11, fun _ _ _ _ => rfl, rfl, by decide, lay11, tyX11_ok, nmX11, fun _ _ _ => rfl, fun _ _ _ _ => rfl, by decide +kernel, fun _ _ _ => Nat.le_of_ble_eq_true rfl, rfl⟩
theorem fq_12_0 : FQ 12 0 RX12 TX12 (.array .byte) := ⟨12, 44, Fs12, tyX12, fun _ _ _ _ => rfl, rfl, by decide, lay12, tyX12_ok, nmX12, fun _ _ _ => rfl, fun _ _ _ _ => rfl, by decide +kernel, fun _ _ _ => Nat.le_of_ble_eq_true rfl, rfl⟩
theorem fi_12_1 : FI 12 1 RX12 TX12 .int := ⟨12, 44, Fs12, tyX12, fun _ _ _ _ => rfl, rfl, by decide, lay12, tyX12_ok, nmX12, fun _ _ _ => rfl, fun _ _ _ _ => rfl, by decide +kernel, fun _ _ _ => Nat.le_of_ble_eq_true rfl, rfl⟩
theorem fi_12_2 : FI 12 2 RX12 TX12 .int := ⟨12, 44, Fs12, tyX12, fun _ _ _ _ => rfl, rfl, by decide, lay12, tyX12_ok, nmX12, fun _ _ _ => rfl, fun _ _ _ _ => rfl, by decide +kernel, fun _ _ _ => Nat.le_of_ble_eq_true rfl, rfl⟩
theorem fq_12_3 : FQ 12 3 RX12 TX12 (.array .int) := ⟨12, 44, Fs12, tyX12, fun _ _ _ _ => rfl, rfl, by decide, lay12, tyX12_ok, nmX12, fun _ _ _ => rfl, fun _ _ _ _ => rfl, by decide +kernel, fun _ _ _ => Nat.le_of_ble_eq_true rfl, rfl⟩
theorem fq_12_4 : FQ 12 4 RX12 TX12 (.array .int) := ⟨12, 44, Fs12, tyX12, fun _ _ _ _ => rfl, rfl, by decide, lay12, tyX12_ok, nmX12, fun _ _ _ => rfl, fun _ _ _ _ => rfl, by decide +kernel, fun _ _ _ => Nat.le_of_ble_eq_true rfl, rfl⟩
theorem fq_12_5 : FQ 12 5 RX12 TX12 (.array .int) := ⟨12, 44, Fs12, tyX12, fun _ _ _ _ => rfl, rfl, by decide, lay12, tyX12_ok, nmX12, fun _ _ _ => rfl, fun _ _ _ _ => rfl, by decide +kernel, fun _ _ _ => Nat.le_of_ble_eq_true rfl, rfl⟩
theorem fq_12_6 : FQ 12 6 RX12 TX12 (.array .int) := ⟨12, 44, Fs12, tyX12, fun _ _ _ _ => rfl, rfl, by decide, lay12, tyX12_ok, nmX12, fun _ _ _ => rfl, fun _ _ _ _ => rfl, by decide +kernel, fun _ _ _ => Nat.le_of_ble_eq_true rfl, rfl⟩
theorem fq_12_7 : FQ 12 7 RX12 TX12 (.array .int) := ⟨12, 44, Fs12, tyX12, fun _ _ _ _ => rfl, rfl, by decide, lay12, tyX12_ok, nmX12, fun _ _ _ => rfl, fun _ _ _ _ => rfl, by decide +kernel, fun _ _ _ => Nat.le_of_ble_eq_true rfl, rfl⟩
theorem fi_12_8 : FI 12 8 RX12 TX12 .int := ⟨12, 44, Fs12, tyX12, fun _ _ _ _ => rfl, rfl, by decide, lay12, tyX12_ok, nmX12, fun _ _ _ => rfl, fun _ _ _ _ => rfl, by decide +kernel, fun _ _ _ => Nat.le_of_ble_eq_true rfl, rfl⟩
theorem fi_12_9 : FI 12 9 RX12 TX12 .int := ⟨12, 44, Fs12, tyX12, fun _ _ _ _ => rfl, rfl, by decide, lay12, tyX12_ok, nmX12, fun _ _ _ => rfl, fun _ _ _ _ => rfl, by decide +kernel, fun _ _ _ => Nat.le_of_ble_eq_true rfl, rfl⟩
theorem fi_12_10 : FI 12 10 RX12 TX12 .int := ⟨12, 44, Fs12, tyX12, fun _ _ _ _ => rfl, rfl, by decide, lay12, tyX12_ok, nmX12, fun _ _ _ => rfl, fun _ _ _ _ => rfl, by decide +kernel, fun _ _ _ => Nat.le_of_ble_eq_true rfl, rfl⟩
theorem fi_12_11 : FI 12 11 RX12 TX12 .int := ⟨12, 44, Fs12, tyX12, fun _ _ _ _ => rfl, rfl, by decide, lay12, tyX12_ok, nmX12, fun _ _ _ => rfl, fun _ _ _ _ => rfl, by decide +kernel, fun _ _ _ => Nat.le_of_ble_eq_true rfl, rfl⟩
theorem fi_12_12 : FI 12 12 RX12 TX12 .int := ⟨12, 44, Fs12, tyX12, fun _ _ _ _ => rfl, rfl, by decide, lay12, tyX12_ok, nmX12, fun _ _ _ => rfl, fun _ _ _ _ => rfl, by decide +kernel, fun _ _ _ => Nat.le_of_ble_eq_true rfl, rfl⟩
theorem fi_12_13 : FI 12 13 RX12 TX12 .int := ⟨12, 44, Fs12, tyX12, fun _ _ _ _ => rfl, rfl, by decide, lay12, tyX12_ok, nmX12, fun _ _ _ => rfl, fun _ _ _ _ => rfl, by decide +kernel, fun _ _ _ => Nat.le_of_ble_eq_true rfl, rfl⟩
theorem fi_12_14 : FI 12 14 RX12 TX12 .int := ⟨12, 44, Fs12, tyX12, fun _ _ _ _ => rfl, rfl, by decide, lay12, tyX12_ok, nmX12, fun _ _ _ => rfl, fun _ _ _ _ => rfl, by decide +kernel, fun _ _ _ => Nat.le_of_ble_eq_true rfl, rfl⟩
theorem fq_12_15 : FQ 12 15 RX12 TX12 (.array .int) := ⟨12, 44, Fs12, tyX12, fun _ _ _ _ => rfl, rfl, by decide, lay12, tyX12_ok, nmX12, fun _ _ _ => rfl, fun _ _ _ _ => rfl, by decide +kernel, fun _ _ _ => Nat.le_of_ble_eq_true rfl, rfl⟩
theorem fi_12_16 : FI 12 16 RX12 TX12 .int := ⟨12, 44, Fs12, tyX12, fun _ _ _ _ => rfl, rfl, by decide, lay12, tyX12_ok, nmX12, fun _ _ _ => rfl, fun _ _ _ _ => rfl, by decide +kernel, fun _ _ _ => Nat.le_of_ble_eq_true rfl, rfl⟩
theorem fq_12_17 : FQ 12 17 RX12 TX12 (.array .long) := ⟨12, 44, Fs12, tyX12, fun _ _ _ _ => rfl, rfl, by decide, lay12, tyX12_ok, nmX12, fun _ _ _ => rfl, fun _ _ _ _ => rfl, by decide +kernel, fun _ _ _ => Nat.le_of_ble_eq_true rfl, rfl⟩
theorem fi_12_18 : FI 12 18 RX12 TX12 .int := ⟨12, 44, Fs12, tyX12, fun _ _ _ _ => rfl, rfl, by decide, lay12, tyX12_ok, nmX12, fun _ _ _ => rfl, fun _ _ _ _ => rfl, by decide +kernel, fun _ _ _ => Nat.le_of_ble_eq_true rfl, rfl⟩
theorem fq_12_19 : FQ 12 19 RX12 TX12 (.array .long) := ⟨12, 44, Fs12, tyX12, fun _ _ _ _ => rfl, rfl, by decide, lay12, tyX12_ok, nmX12, fun _ _ _ => rfl, fun _ _ _ _ => rfl, by decide +kernel, fun _ _ _ => Nat.le_of_ble_eq_true rfl, rfl⟩
theorem fq_12_20 : FQ 12 20 RX12 TX12 (.array .int) := ⟨12, 44, Fs12, tyX12, fun _ _ _ _ => rfl, rfl, by decide, lay12, tyX12_ok, nmX12, fun _ _ _ => rfl, fun _ _ _ _ => rfl, by decide +kernel, fun _ _ _ => Nat.le_of_ble_eq_true rfl, rfl⟩
theorem fi_12_21 : FI 12 21 RX12 TX12 .int := ⟨12, 44, Fs12, tyX12, fun _ _ _ _ => rfl, rfl, by decide, lay12, tyX12_ok, nmX12, fun _ _ _ => rfl, fun _ _ _ _ => rfl, by decide +kernel, fun _ _ _ => Nat.le_of_ble_eq_true rfl, rfl⟩
theorem fi_12_22 : FI 12 22 RX12 TX12 .int := ⟨12, 44, Fs12, tyX12, fun _ _ _ _ => rfl, rfl, by decide, lay12, tyX12_ok, nmX12, fun _ _ _ => rfl, fun _ _ _ _ => rfl, by decide +kernel, fun _ _ _ => Nat.le_of_ble_eq_true rfl, rfl⟩
theorem fq_12_23 : FQ 12 23 RX12 TX12 (.array .int) := ⟨12, 44, Fs12, tyX12, fun _ _ _ _ => rfl, rfl, by decide, lay12, tyX12_ok, nmX12, fun _ _ _ => rfl, fun _ _ _ _ => rfl, by decide +kernel, fun _ _ _ => Nat.le_of_ble_eq_true rfl, rfl⟩
theorem fq_12_24 : FQ 12 24 RX12 TX12 (.array .int) := ⟨12, 44, Fs12, tyX12, fun _ _ _ _ => rfl, rfl, by decide, lay12, tyX12_ok, nmX12, fun _ _ _ => rfl, fun _ _ _ _ => rfl, by decide +kernel, fun _ _ _ => Nat.le_of_ble_eq_true rfl, rfl⟩
theorem fi_12_25 : FI 12 25 RX12 TX12 .int := ⟨12, 44, Fs12, tyX12, fun _ _ _ _ => rfl, rfl, by decide, lay12, tyX12_ok, nmX12, fun _ _ _ => rfl, fun _ _ _ _ => rfl, by decide +kernel, fun _ _ _ => Nat.le_of_ble_eq_true rfl, rfl⟩
theorem fq_12_26 : FQ 12 26 RX12 TX12 (.array .int) := ⟨12, 44, Fs12, tyX12, fun _ _ _ _ => rfl, rfl, by decide, lay12, tyX12_ok, nmX12, fun _ _ _ => rfl, fun _ _ _ _ => rfl, by decide +kernel, fun _ _ _ => Nat.le_of_ble_eq_true rfl, rfl⟩
theorem fq_12_27 : FQ 12 27 RX12 TX12 (.array .int) := ⟨12, 44, Fs12, tyX12, fun _ _ _ _ => rfl, rfl, by decide, lay12, tyX12_ok, nmX12, fun _ _ _ => rfl, fun _ _ _ _ => rfl, by decide +kernel, fun _ _ _ => Nat.le_of_ble_eq_true rfl, rfl⟩
theorem fq_12_28 : FQ 12 28 RX12 TX12 (.array .int) := ⟨12, 44, Fs12, tyX12, fun _ _ _ _ => rfl, rfl, by decide, lay12, tyX12_ok, nmX12, fun _ _ _ => rfl, fun _ _ _ _ => rfl, by decide +kernel, fun _ _ _ => Nat.le_of_ble_eq_true rfl, rfl⟩
theorem fq_12_29 : FQ 12 29 RX12 TX12 (.array .int) := ⟨12, 44, Fs12, tyX12, fun _ _ _ _ => rfl, rfl, by decide, lay12, tyX12_ok, nmX12, fun _ _ _ => rfl, fun _ _ _ _ => rfl, by decide +kernel, fun _ _ _ => Nat.le_of_ble_eq_true rfl, rfl⟩
theorem fi_12_30 : FI 12 30 RX12 TX12 .int := ⟨12, 44, Fs12, tyX12, fun _ _ _ _ => rfl, rfl, by decide, lay12, tyX12_ok, nmX12, fun _ _ _ => rfl, fun _ _ _ _ => rfl, by decide +kernel, fun _ _ _ => Nat.le_of_ble_eq_true rfl, rfl⟩
theorem fi_12_31 : FI 12 31 RX12 TX12 .int := ⟨12, 44, Fs12, tyX12, fun _ _ _ _ => rfl, rfl, by decide, lay12, tyX12_ok, nmX12, fun _ _ _ => rfl, fun _ _ _ _ => rfl, by decide +kernel, fun _ _ _ => Nat.le_of_ble_eq_true rfl, rfl⟩
theorem fq_12_32 : FQ 12 32 RX12 TX12 (.array .int) := ⟨12, 44, Fs12, tyX12, fun _ _ _ _ => rfl, rfl, by decide, lay12, tyX12_ok, nmX12, fun _ _ _ => rfl, fun _ _ _ _ => rfl, by decide +kernel, fun _ _ _ => Nat.le_of_ble_eq_true rfl, rfl⟩
theorem fi_12_33 : FI 12 33 RX12 TX12 .int := ⟨12, 44, Fs12, tyX12, fun _ _ _ _ => rfl, rfl, by decide, lay12, tyX12_ok, nmX12, fun _ _ _ => rfl, fun _ _ _ _ => rfl, by decide +kernel, fun _ _ _ => Nat.le_of_ble_eq_true rfl, rfl⟩
theorem fi_12_34 : FI 12 34 RX12 TX12 .int := ⟨12, 44, Fs12, tyX12, fun _ _ _ _ => rfl, rfl, by decide, lay12, tyX12_ok, nmX12, fun _ _ _ => rfl, fun _ _ _ _ => rfl, by decide +kernel, fun _ _ _ => Nat.le_of_ble_eq_true rfl, rfl⟩
theorem fq_12_35 : FQ 12 35 RX12 TX12 (.array .int) := ⟨12, 44, Fs12, tyX12, fun _ _ _ _ => rfl, rfl, by decide, lay12, tyX12_ok, nmX12, fun _ _ _ => rfl, fun _ _ _ _ => rfl, by decide +kernel, fun _ _ _ => Nat.le_of_ble_eq_true rfl, rfl⟩
theorem fq_12_36 : FQ 12 36 RX12 TX12 (.array .int) := ⟨12, 44, Fs12, tyX12, fun _ _ _ _ => rfl, rfl, by decide, lay12, tyX12_ok, nmX12, fun _ _ _ => rfl, fun _ _ _ _ => rfl, by decide +kernel, fun _ _ _ => Nat.le_of_ble_eq_true rfl, rfl⟩
theorem fq_12_37 : FQ 12 37 RX12 TX12 (.array .boolean) := ⟨12, 44, Fs12, tyX12, fun _ _ _ _ => rfl, rfl, by decide, lay12, tyX12_ok, nmX12, fun _ _ _ => rfl, fun _ _ _ _ => rfl, by decide +kernel, fun _ _ _ => Nat.le_of_ble_eq_true rfl, rfl⟩
theorem fq_12_38 : FQ 12 38 RX12 TX12 (.array .int) := ⟨12, 44, Fs12, tyX12, fun _ _ _ _ => rfl, rfl, by decide, lay12, tyX12_ok, nmX12, fun _ _ _ => rfl, fun _ _ _ _ => rfl, by decide +kernel, fun _ _ _ => Nat.le_of_ble_eq_true rfl, rfl⟩
theorem fl_12_39 : FL 12 39 RX12 TX12 := ⟨12, 44, Fs12, tyX12, fun _ _ _ _ => rfl, rfl, by decide, lay12, tyX12_ok, nmX12, fun _ _ _ => rfl, fun _ _ _ _ => rfl, by decide +kernel, fun _ _ _ => Nat.le_of_ble_eq_true rfl, rfl⟩
theorem fq_12_40 : FQ 12 40 RX12 TX12 (.array .int) := ⟨12, 44, Fs12, tyX12, fun _ _ _ _ => rfl, rfl, by decide, lay12, tyX12_ok, nmX12, fun _ _ _ => rfl, fun _ _ _ _ => rfl, by decide +kernel, fun _ _ _ => Nat.le_of_ble_eq_true rfl, rfl⟩
theorem fq_12_41 : FQ 12 41 RX12 TX12 (.array .int) := ⟨12, 44, Fs12, tyX12, fun _ _ _ _ => rfl, rfl, by decide, lay12, tyX12_ok, nmX12, fun _ _ _ => rfl, fun _ _ _ _ => rfl, by decide +kernel, fun _ _ _ => Nat.le_of_ble_eq_true rfl, rfl⟩
theorem fq_12_42 : FQ 12 42 RX12 TX12 (.array .int) := ⟨12, 44, Fs12, tyX12, fun _ _ _ _ => rfl, rfl, by decide, lay12, tyX12_ok, nmX12, fun _ _ _ => rfl, fun _ _ _ _ => rfl, by decide +kernel, fun _ _ _ => Nat.le_of_ble_eq_true rfl, rfl⟩
theorem fq_12_43 : FQ 12 43 RX12 TX12 (.array .boolean) := ⟨12, 44, Fs12, tyX12, fun _ _ _ _ => rfl, rfl, by decide, lay12, tyX12_ok, nmX12, fun _ _ _ => rfl, fun _ _ _ _ => rfl, by decide +kernel, fun _ _ _ => Nat.le_of_ble_eq_true rfl, rfl⟩
theorem fq_13_0 : FQ 13 0 RX10 TX10 (.object "HillBends$Hill") := ⟨10, 9, Fs10, tyX10, fun _ _ _ _ => rfl, rfl, by decide, lay10, tyX10_ok, nmX10, fun _ _ _ => rfl, fun _ _ _ _ => rfl, by decide +kernel, fun _ _ _ => Nat.le_of_ble_eq_true rfl, rfl⟩
theorem fq_13_1 : FQ 13 1 RX10 TX10 (.object "HillBends$Scene") := ⟨10, 9, Fs10, tyX10, fun _ _ _ _ => rfl, rfl, by decide, lay10, tyX10_ok, nmX10, fun _ _ _ => rfl, fun _ _ _ _ => rfl, by decide +kernel, fun _ _ _ => Nat.le_of_ble_eq_true rfl, rfl⟩
theorem fq_13_2 : FQ 13 2 RX10 TX10 (.array .int) := ⟨10, 9, Fs10, tyX10, fun _ _ _ _ => rfl, rfl, by decide, lay10, tyX10_ok, nmX10, fun _ _ _ => rfl, fun _ _ _ _ => rfl, by decide +kernel, fun _ _ _ => Nat.le_of_ble_eq_true rfl, rfl⟩
theorem fq_13_3 : FQ 13 3 RX10 TX10 (.array .int) := ⟨10, 9, Fs10, tyX10, fun _ _ _ _ => rfl, rfl, by decide, lay10, tyX10_ok, nmX10, fun _ _ _ => rfl, fun _ _ _ _ => rfl, by decide +kernel, fun _ _ _ => Nat.le_of_ble_eq_true rfl, rfl⟩
theorem fq_13_4 : FQ 13 4 RX10 TX10 (.array .int) := ⟨10, 9, Fs10, tyX10, fun _ _ _ _ => rfl, rfl, by decide, lay10, tyX10_ok, nmX10, fun _ _ _ => rfl, fun _ _ _ _ => rfl, by decide +kernel, fun _ _ _ => Nat.le_of_ble_eq_true rfl, rfl⟩
theorem fq_13_5 : FQ 13 5 RX10 TX10 (.array .int) := ⟨10, 9, Fs10, tyX10, fun _ _ _ _ => rfl, rfl, by decide, lay10, tyX10_ok, nmX10, fun _ _ _ => rfl, fun _ _ _ _ => rfl, by decide +kernel, fun _ _ _ => Nat.le_of_ble_eq_true rfl, rfl⟩
theorem fi_13_6 : FI 13 6 RX10 TX10 .int := ⟨10, 9, Fs10, tyX10, fun _ _ _ _ => rfl, rfl, by decide, lay10, tyX10_ok, nmX10, fun _ _ _ => rfl, fun _ _ _ _ => rfl, by decide +kernel, fun _ _ _ => Nat.le_of_ble_eq_true rfl, rfl⟩
theorem fi_13_7 : FI 13 7 RX10 TX10 .int := ⟨10, 9, Fs10, tyX10, fun _ _ _ _ => rfl, rfl, by decide, lay10, tyX10_ok, nmX10, fun _ _ _ => rfl, fun _ _ _ _ => rfl, by decide +kernel, fun _ _ _ => Nat.le_of_ble_eq_true rfl, rfl⟩
theorem fi_13_8 : FI 13 8 RX10 TX10 .int := ⟨10, 9, Fs10, tyX10, fun _ _ _ _ => rfl, rfl, by decide, lay10, tyX10_ok, nmX10, fun _ _ _ => rfl, fun _ _ _ _ => rfl, by decide +kernel, fun _ _ _ => Nat.le_of_ble_eq_true rfl, rfl⟩
theorem fq_14_0 : FQ 14 0 RX10 TX10 (.object "HillBends$Hill") := ⟨10, 9, Fs10, tyX10, fun _ _ _ _ => rfl, rfl, by decide, lay10, tyX10_ok, nmX10, fun _ _ _ => rfl, fun _ _ _ _ => rfl, by decide +kernel, fun _ _ _ => Nat.le_of_ble_eq_true rfl, rfl⟩
theorem fq_14_1 : FQ 14 1 RX10 TX10 (.object "HillBends$Scene") := ⟨10, 9, Fs10, tyX10, fun _ _ _ _ => rfl, rfl, by decide, lay10, tyX10_ok, nmX10, fun _ _ _ => rfl, fun _ _ _ _ => rfl, by decide +kernel, fun _ _ _ => Nat.le_of_ble_eq_true rfl, rfl⟩
theorem fq_14_2 : FQ 14 2 RX10 TX10 (.array .int) := ⟨10, 9, Fs10, tyX10, fun _ _ _ _ => rfl, rfl, by decide, lay10, tyX10_ok, nmX10, fun _ _ _ => rfl, fun _ _ _ _ => rfl, by decide +kernel, fun _ _ _ => Nat.le_of_ble_eq_true rfl, rfl⟩
theorem fq_14_3 : FQ 14 3 RX10 TX10 (.array .int) := ⟨10, 9, Fs10, tyX10, fun _ _ _ _ => rfl, rfl, by decide, lay10, tyX10_ok, nmX10, fun _ _ _ => rfl, fun _ _ _ _ => rfl, by decide +kernel, fun _ _ _ => Nat.le_of_ble_eq_true rfl, rfl⟩
theorem fq_14_4 : FQ 14 4 RX10 TX10 (.array .int) := ⟨10, 9, Fs10, tyX10, fun _ _ _ _ => rfl, rfl, by decide, lay10, tyX10_ok, nmX10, fun _ _ _ => rfl, fun _ _ _ _ => rfl, by decide +kernel, fun _ _ _ => Nat.le_of_ble_eq_true rfl, rfl⟩
theorem fq_14_5 : FQ 14 5 RX10 TX10 (.array .int) := ⟨10, 9, Fs10, tyX10, fun _ _ _ _ => rfl, rfl, by decide, lay10, tyX10_ok, nmX10, fun _ _ _ => rfl, fun _ _ _ _ => rfl, by decide +kernel, fun _ _ _ => Nat.le_of_ble_eq_true rfl, rfl⟩
theorem fi_14_6 : FI 14 6 RX10 TX10 .int := ⟨10, 9, Fs10, tyX10, fun _ _ _ _ => rfl, rfl, by decide, lay10, tyX10_ok, nmX10, fun _ _ _ => rfl, fun _ _ _ _ => rfl, by decide +kernel, fun _ _ _ => Nat.le_of_ble_eq_true rfl, rfl⟩
theorem fi_14_7 : FI 14 7 RX10 TX10 .int := ⟨10, 9, Fs10, tyX10, fun _ _ _ _ => rfl, rfl, by decide, lay10, tyX10_ok, nmX10, fun _ _ _ => rfl, fun _ _ _ _ => rfl, by decide +kernel, fun _ _ _ => Nat.le_of_ble_eq_true rfl, rfl⟩
theorem fi_14_8 : FI 14 8 RX10 TX10 .int := ⟨10, 9, Fs10, tyX10, fun _ _ _ _ => rfl, rfl, by decide, lay10, tyX10_ok, nmX10, fun _ _ _ => rfl, fun _ _ _ _ => rfl, by decide +kernel, fun _ _ _ => Nat.le_of_ble_eq_true rfl, rfl⟩
theorem fq_15_0 : FQ 15 0 RX10 TX10 (.object "HillBends$Hill") := ⟨10, 9, Fs10, tyX10, fun _ _ _ _ => rfl, rfl, by decide, lay10, tyX10_ok, nmX10, fun _ _ _ => rfl, fun _ _ _ _ => rfl, by decide +kernel, fun _ _ _ => Nat.le_of_ble_eq_true rfl, rfl⟩
theorem fq_15_1 : FQ 15 1 RX10 TX10 (.object "HillBends$Scene") := ⟨10, 9, Fs10, tyX10, fun _ _ _ _ => rfl, rfl, by decide, lay10, tyX10_ok, nmX10, fun _ _ _ => rfl, fun _ _ _ _ => rfl, by decide +kernel, fun _ _ _ => Nat.le_of_ble_eq_true rfl, rfl⟩
theorem fq_15_2 : FQ 15 2 RX10 TX10 (.array .int) := ⟨10, 9, Fs10, tyX10, fun _ _ _ _ => rfl, rfl, by decide, lay10, tyX10_ok, nmX10, fun _ _ _ => rfl, fun _ _ _ _ => rfl, by decide +kernel, fun _ _ _ => Nat.le_of_ble_eq_true rfl, rfl⟩
theorem fq_15_3 : FQ 15 3 RX10 TX10 (.array .int) := ⟨10, 9, Fs10, tyX10, fun _ _ _ _ => rfl, rfl, by decide, lay10, tyX10_ok, nmX10, fun _ _ _ => rfl, fun _ _ _ _ => rfl, by decide +kernel, fun _ _ _ => Nat.le_of_ble_eq_true rfl, rfl⟩
theorem fq_15_4 : FQ 15 4 RX10 TX10 (.array .int) := ⟨10, 9, Fs10, tyX10, fun _ _ _ _ => rfl, rfl, by decide, lay10, tyX10_ok, nmX10, fun _ _ _ => rfl, fun _ _ _ _ => rfl, by decide +kernel, fun _ _ _ => Nat.le_of_ble_eq_true rfl, rfl⟩
theorem fq_15_5 : FQ 15 5 RX10 TX10 (.array .int) := ⟨10, 9, Fs10, tyX10, fun _ _ _ _ => rfl, rfl, by decide, lay10, tyX10_ok, nmX10, fun _ _ _ => rfl, fun _ _ _ _ => rfl, by decide +kernel, fun _ _ _ => Nat.le_of_ble_eq_true rfl, rfl⟩
theorem fi_15_6 : FI 15 6 RX10 TX10 .int := ⟨10, 9, Fs10, tyX10, fun _ _ _ _ => rfl, rfl, by decide, lay10, tyX10_ok, nmX10, fun _ _ _ => rfl, fun _ _ _ _ => rfl, by decide +kernel, fun _ _ _ => Nat.le_of_ble_eq_true rfl, rfl⟩
theorem fi_15_7 : FI 15 7 RX10 TX10 .int := ⟨10, 9, Fs10, tyX10, fun _ _ _ _ => rfl, rfl, by decide, lay10, tyX10_ok, nmX10, fun _ _ _ => rfl, fun _ _ _ _ => rfl, by decide +kernel, fun _ _ _ => Nat.le_of_ble_eq_true rfl, rfl⟩
theorem fi_15_8 : FI 15 8 RX10 TX10 .int := ⟨10, 9, Fs10, tyX10, fun _ _ _ _ => rfl, rfl, by decide, lay10, tyX10_ok, nmX10, fun _ _ _ => rfl, fun _ _ _ _ => rfl, by decide +kernel, fun _ _ _ => Nat.le_of_ble_eq_true rfl, rfl⟩
theorem fq_16_0 : FQ 16 0 RX10 TX10 (.object "HillBends$Hill") := ⟨10, 9, Fs10, tyX10, fun _ _ _ _ => rfl, rfl, by decide, lay10, tyX10_ok, nmX10, fun _ _ _ => rfl, fun _ _ _ _ => rfl, by decide +kernel, fun _ _ _ => Nat.le_of_ble_eq_true rfl, rfl⟩
theorem fq_16_1 : FQ 16 1 RX10 TX10 (.object "HillBends$Scene") := ⟨10, 9, Fs10, tyX10, fun _ _ _ _ => rfl, rfl, by decide, lay10, tyX10_ok, nmX10, fun _ _ _ => rfl, fun _ _ _ _ => rfl, by decide +kernel, fun _ _ _ => Nat.le_of_ble_eq_true rfl, rfl⟩
theorem fq_16_2 : FQ 16 2 RX10 TX10 (.array .int) := ⟨10, 9, Fs10, tyX10, fun _ _ _ _ => rfl, rfl, by decide, lay10, tyX10_ok, nmX10, fun _ _ _ => rfl, fun _ _ _ _ => rfl, by decide +kernel, fun _ _ _ => Nat.le_of_ble_eq_true rfl, rfl⟩
theorem fq_16_3 : FQ 16 3 RX10 TX10 (.array .int) := ⟨10, 9, Fs10, tyX10, fun _ _ _ _ => rfl, rfl, by decide, lay10, tyX10_ok, nmX10, fun _ _ _ => rfl, fun _ _ _ _ => rfl, by decide +kernel, fun _ _ _ => Nat.le_of_ble_eq_true rfl, rfl⟩
theorem fq_16_4 : FQ 16 4 RX10 TX10 (.array .int) := ⟨10, 9, Fs10, tyX10, fun _ _ _ _ => rfl, rfl, by decide, lay10, tyX10_ok, nmX10, fun _ _ _ => rfl, fun _ _ _ _ => rfl, by decide +kernel, fun _ _ _ => Nat.le_of_ble_eq_true rfl, rfl⟩
theorem fq_16_5 : FQ 16 5 RX10 TX10 (.array .int) := ⟨10, 9, Fs10, tyX10, fun _ _ _ _ => rfl, rfl, by decide, lay10, tyX10_ok, nmX10, fun _ _ _ => rfl, fun _ _ _ _ => rfl, by decide +kernel, fun _ _ _ => Nat.le_of_ble_eq_true rfl, rfl⟩
theorem fi_16_6 : FI 16 6 RX10 TX10 .int := ⟨10, 9, Fs10, tyX10, fun _ _ _ _ => rfl, rfl, by decide, lay10, tyX10_ok, nmX10, fun _ _ _ => rfl, fun _ _ _ _ => rfl, by decide +kernel, fun _ _ _ => Nat.le_of_ble_eq_true rfl, rfl⟩
theorem fi_16_7 : FI 16 7 RX10 TX10 .int := ⟨10, 9, Fs10, tyX10, fun _ _ _ _ => rfl, rfl, by decide, lay10, tyX10_ok, nmX10, fun _ _ _ => rfl, fun _ _ _ _ => rfl, by decide +kernel, fun _ _ _ => Nat.le_of_ble_eq_true rfl, rfl⟩
theorem fi_16_8 : FI 16 8 RX10 TX10 .int := ⟨10, 9, Fs10, tyX10, fun _ _ _ _ => rfl, rfl, by decide, lay10, tyX10_ok, nmX10, fun _ _ _ => rfl, fun _ _ _ _ => rfl, by decide +kernel, fun _ _ _ => Nat.le_of_ble_eq_true rfl, rfl⟩
theorem fq_17_0 : FQ 17 0 RX3 TX3 (.array .int) := ⟨3, 11, Fs3, tyX3, fun _ _ _ _ => rfl, rfl, by decide, lay3, tyX3_ok, nmX3, fun _ _ _ => rfl, fun _ _ _ _ => rfl, by decide +kernel, fun _ _ _ => Nat.le_of_ble_eq_true rfl, rfl⟩
theorem fq_17_1 : FQ 17 1 RX3 TX3 (.array .int) := ⟨3, 11, Fs3, tyX3, fun _ _ _ _ => rfl, rfl, by decide, lay3, tyX3_ok, nmX3, fun _ _ _ => rfl, fun _ _ _ _ => rfl, by decide +kernel, fun _ _ _ => Nat.le_of_ble_eq_true rfl, rfl⟩
theorem fq_17_2 : FQ 17 2 RX3 TX3 (.array .int) := ⟨3, 11, Fs3, tyX3, fun _ _ _ _ => rfl, rfl, by decide, lay3, tyX3_ok, nmX3, fun _ _ _ => rfl, fun _ _ _ _ => rfl, by decide +kernel, fun _ _ _ => Nat.le_of_ble_eq_true rfl, rfl⟩
theorem fq_17_3 : FQ 17 3 RX3 TX3 (.array .int) := ⟨3, 11, Fs3, tyX3, fun _ _ _ _ => rfl, rfl, by decide, lay3, tyX3_ok, nmX3, fun _ _ _ => rfl, fun _ _ _ _ => rfl, by decide +kernel, fun _ _ _ => Nat.le_of_ble_eq_true rfl, rfl⟩
theorem fq_17_4 : FQ 17 4 RX3 TX3 (.array .int) := ⟨3, 11, Fs3, tyX3, fun _ _ _ _ => rfl, rfl, by decide, lay3, tyX3_ok, nmX3, fun _ _ _ => rfl, fun _ _ _ _ => rfl, by decide +kernel, fun _ _ _ => Nat.le_of_ble_eq_true rfl, rfl⟩
theorem fq_17_5 : FQ 17 5 RX3 TX3 (.object "HillBends$Scene") := ⟨3, 11, Fs3, tyX3, fun _ _ _ _ => rfl, rfl, by decide, lay3, tyX3_ok, nmX3, fun _ _ _ => rfl, fun _ _ _ _ => rfl, by decide +kernel, fun _ _ _ => Nat.le_of_ble_eq_true rfl, rfl⟩
theorem fi_17_6 : FI 17 6 RX3 TX3 .boolean := ⟨3, 11, Fs3, tyX3, fun _ _ _ _ => rfl, rfl, by decide, lay3, tyX3_ok, nmX3, fun _ _ _ => rfl, fun _ _ _ _ => rfl, by decide +kernel, fun _ _ _ => Nat.le_of_ble_eq_true rfl, rfl⟩
theorem fi_17_7 : FI 17 7 RX3 TX3 .int := ⟨3, 11, Fs3, tyX3, fun _ _ _ _ => rfl, rfl, by decide, lay3, tyX3_ok, nmX3, fun _ _ _ => rfl, fun _ _ _ _ => rfl, by decide +kernel, fun _ _ _ => Nat.le_of_ble_eq_true rfl, rfl⟩
theorem fi_17_8 : FI 17 8 RX3 TX3 .int := ⟨3, 11, Fs3, tyX3, fun _ _ _ _ => rfl, rfl, by decide, lay3, tyX3_ok, nmX3, fun _ _ _ => rfl, fun _ _ _ _ => rfl, by decide +kernel, fun _ _ _ => Nat.le_of_ble_eq_true rfl, rfl⟩
theorem fi_17_9 : FI 17 9 RX3 TX3 .int := ⟨3, 11, Fs3, tyX3, fun _ _ _ _ => rfl, rfl, by decide, lay3, tyX3_ok, nmX3, fun _ _ _ => rfl, fun _ _ _ _ => rfl, by decide +kernel, fun _ _ _ => Nat.le_of_ble_eq_true rfl, rfl⟩
theorem fi_17_10 : FI 17 10 RX3 TX3 .int := ⟨3, 11, Fs3, tyX3, fun _ _ _ _ => rfl, rfl, by decide, lay3, tyX3_ok, nmX3, fun _ _ _ => rfl, fun _ _ _ _ => rfl, by decide +kernel, fun _ _ _ => Nat.le_of_ble_eq_true rfl, rfl⟩
theorem fq_18_0 : FQ 18 0 RX3 TX3 (.array .int) := ⟨3, 11, Fs3, tyX3, fun _ _ _ _ => rfl, rfl, by decide, lay3, tyX3_ok, nmX3, fun _ _ _ => rfl, fun _ _ _ _ => rfl, by decide +kernel, fun _ _ _ => Nat.le_of_ble_eq_true rfl, rfl⟩
theorem fq_18_1 : FQ 18 1 RX3 TX3 (.array .int) := ⟨3, 11, Fs3, tyX3, fun _ _ _ _ => rfl, rfl, by decide, lay3, tyX3_ok, nmX3, fun _ _ _ => rfl, fun _ _ _ _ => rfl, by decide +kernel, fun _ _ _ => Nat.le_of_ble_eq_true rfl, rfl⟩
theorem fq_18_2 : FQ 18 2 RX3 TX3 (.array .int) := ⟨3, 11, Fs3, tyX3, fun _ _ _ _ => rfl, rfl, by decide, lay3, tyX3_ok, nmX3, fun _ _ _ => rfl, fun _ _ _ _ => rfl, by decide +kernel, fun _ _ _ => Nat.le_of_ble_eq_true rfl, rfl⟩
theorem fq_18_3 : FQ 18 3 RX3 TX3 (.array .int) := ⟨3, 11, Fs3, tyX3, fun _ _ _ _ => rfl, rfl, by decide, lay3, tyX3_ok, nmX3, fun _ _ _ => rfl, fun _ _ _ _ => rfl, by decide +kernel, fun _ _ _ => Nat.le_of_ble_eq_true rfl, rfl⟩
theorem fq_18_4 : FQ 18 4 RX3 TX3 (.array .int) := ⟨3, 11, Fs3, tyX3, fun _ _ _ _ => rfl, rfl, by decide, lay3, tyX3_ok, nmX3, fun _ _ _ => rfl, fun _ _ _ _ => rfl, by decide +kernel, fun _ _ _ => Nat.le_of_ble_eq_true rfl, rfl⟩
theorem fq_18_5 : FQ 18 5 RX3 TX3 (.object "HillBends$Scene") := ⟨3, 11, Fs3, tyX3, fun _ _ _ _ => rfl, rfl, by decide, lay3, tyX3_ok, nmX3, fun _ _ _ => rfl, fun _ _ _ _ => rfl, by decide +kernel, fun _ _ _ => Nat.le_of_ble_eq_true rfl, rfl⟩
theorem fi_18_6 : FI 18 6 RX3 TX3 .boolean := ⟨3, 11, Fs3, tyX3, fun _ _ _ _ => rfl, rfl, by decide, lay3, tyX3_ok, nmX3, fun _ _ _ => rfl, fun _ _ _ _ => rfl, by decide +kernel, fun _ _ _ => Nat.le_of_ble_eq_true rfl, rfl⟩
theorem fi_18_7 : FI 18 7 RX3 TX3 .int := ⟨3, 11, Fs3, tyX3, fun _ _ _ _ => rfl, rfl, by decide, lay3, tyX3_ok, nmX3, fun _ _ _ => rfl, fun _ _ _ _ => rfl, by decide +kernel, fun _ _ _ => Nat.le_of_ble_eq_true rfl, rfl⟩
theorem fi_18_8 : FI 18 8 RX3 TX3 .int := ⟨3, 11, Fs3, tyX3, fun _ _ _ _ => rfl, rfl, by decide, lay3, tyX3_ok, nmX3, fun _ _ _ => rfl, fun _ _ _ _ => rfl, by decide +kernel, fun _ _ _ => Nat.le_of_ble_eq_true rfl, rfl⟩
theorem fi_18_9 : FI 18 9 RX3 TX3 .int := ⟨3, 11, Fs3, tyX3, fun _ _ _ _ => rfl, rfl, by decide, lay3, tyX3_ok, nmX3, fun _ _ _ => rfl, fun _ _ _ _ => rfl, by decide +kernel, fun _ _ _ => Nat.le_of_ble_eq_true rfl, rfl⟩
theorem fi_18_10 : FI 18 10 RX3 TX3 .int := ⟨3, 11, Fs3, tyX3, fun _ _ _ _ => rfl, rfl, by decide, lay3, tyX3_ok, nmX3, fun _ _ _ => rfl, fun _ _ _ _ => rfl, by decide +kernel, fun _ _ _ => Nat.le_of_ble_eq_true rfl, rfl⟩
theorem fq_100_0 : FQ 100 0 RX8 TX8 (.array .int) := ⟨8, 8, Fs8, tyX8, fun _ _ _ _ => rfl, rfl, by decide, lay8, tyX8_ok, nmX8, fun _ _ _ => rfl, fun _ _ _ _ => rfl, by decide +kernel, fun _ _ _ => Nat.le_of_ble_eq_true rfl, rfl⟩
theorem fq_100_1 : FQ 100 1 RX8 TX8 (.array .int) := ⟨8, 8, Fs8, tyX8, fun _ _ _ _ => rfl, rfl, by decide, lay8, tyX8_ok, nmX8, fun _ _ _ => rfl, fun _ _ _ _ => rfl, by decide +kernel, fun _ _ _ => Nat.le_of_ble_eq_true rfl, rfl⟩
theorem fq_100_2 : FQ 100 2 RX8 TX8 (.array .int) := ⟨8, 8, Fs8, tyX8, fun _ _ _ _ => rfl, rfl, by decide, lay8, tyX8_ok, nmX8, fun _ _ _ => rfl, fun _ _ _ _ => rfl, by decide +kernel, fun _ _ _ => Nat.le_of_ble_eq_true rfl, rfl⟩
theorem fq_100_3 : FQ 100 3 RX8 TX8 (.array .int) := ⟨8, 8, Fs8, tyX8, fun _ _ _ _ => rfl, rfl, by decide, lay8, tyX8_ok, nmX8, fun _ _ _ => rfl, fun _ _ _ _ => rfl, by decide +kernel, fun _ _ _ => Nat.le_of_ble_eq_true rfl, rfl⟩
theorem fq_100_4 : FQ 100 4 RX8 TX8 (.array .int) := ⟨8, 8, Fs8, tyX8, fun _ _ _ _ => rfl, rfl, by decide, lay8, tyX8_ok, nmX8, fun _ _ _ => rfl, fun _ _ _ _ => rfl, by decide +kernel, fun _ _ _ => Nat.le_of_ble_eq_true rfl, rfl⟩
theorem fq_100_5 : FQ 100 5 RX8 TX8 (.array .int) := ⟨8, 8, Fs8, tyX8, fun _ _ _ _ => rfl, rfl, by decide, lay8, tyX8_ok, nmX8, fun _ _ _ => rfl, fun _ _ _ _ => rfl, by decide +kernel, fun _ _ _ => Nat.le_of_ble_eq_true rfl, rfl⟩
theorem fi_100_6 : FI 100 6 RX8 TX8 .int := ⟨8, 8, Fs8, tyX8, fun _ _ _ _ => rfl, rfl, by decide, lay8, tyX8_ok, nmX8, fun _ _ _ => rfl, fun _ _ _ _ => rfl, by decide +kernel, fun _ _ _ => Nat.le_of_ble_eq_true rfl, rfl⟩
theorem fi_100_7 : FI 100 7 RX8 TX8 .int := ⟨8, 8, Fs8, tyX8, fun _ _ _ _ => rfl, rfl, by decide, lay8, tyX8_ok, nmX8, fun _ _ _ => rfl, fun _ _ _ _ => rfl, by decide +kernel, fun _ _ _ => Nat.le_of_ble_eq_true rfl, rfl⟩
theorem fq_101_0 : FQ 101 0 RX8 TX8 (.array .int) := ⟨8, 8, Fs8, tyX8, fun _ _ _ _ => rfl, rfl, by decide, lay8, tyX8_ok, nmX8, fun _ _ _ => rfl, fun _ _ _ _ => rfl, by decide +kernel, fun _ _ _ => Nat.le_of_ble_eq_true rfl, rfl⟩
theorem fq_101_1 : FQ 101 1 RX8 TX8 (.array .int) := ⟨8, 8, Fs8, tyX8, fun _ _ _ _ => rfl, rfl, by decide, lay8, tyX8_ok, nmX8, fun _ _ _ => rfl, fun _ _ _ _ => rfl, by decide +kernel, fun _ _ _ => Nat.le_of_ble_eq_true rfl, rfl⟩
theorem fq_101_2 : FQ 101 2 RX8 TX8 (.array .int) := ⟨8, 8, Fs8, tyX8, fun _ _ _ _ => rfl, rfl, by decide, lay8, tyX8_ok, nmX8, fun _ _ _ => rfl, fun _ _ _ _ => rfl, by decide +kernel, fun _ _ _ => Nat.le_of_ble_eq_true rfl, rfl⟩
theorem fq_101_3 : FQ 101 3 RX8 TX8 (.array .int) := ⟨8, 8, Fs8, tyX8, fun _ _ _ _ => rfl, rfl, by decide, lay8, tyX8_ok, nmX8, fun _ _ _ => rfl, fun _ _ _ _ => rfl, by decide +kernel, fun _ _ _ => Nat.le_of_ble_eq_true rfl, rfl⟩
theorem fq_101_4 : FQ 101 4 RX8 TX8 (.array .int) := ⟨8, 8, Fs8, tyX8, fun _ _ _ _ => rfl, rfl, by decide, lay8, tyX8_ok, nmX8, fun _ _ _ => rfl, fun _ _ _ _ => rfl, by decide +kernel, fun _ _ _ => Nat.le_of_ble_eq_true rfl, rfl⟩
theorem fq_101_5 : FQ 101 5 RX8 TX8 (.array .int) := ⟨8, 8, Fs8, tyX8, fun _ _ _ _ => rfl, rfl, by decide, lay8, tyX8_ok, nmX8, fun _ _ _ => rfl, fun _ _ _ _ => rfl, by decide +kernel, fun _ _ _ => Nat.le_of_ble_eq_true rfl, rfl⟩
theorem fi_101_6 : FI 101 6 RX8 TX8 .int := ⟨8, 8, Fs8, tyX8, fun _ _ _ _ => rfl, rfl, by decide, lay8, tyX8_ok, nmX8, fun _ _ _ => rfl, fun _ _ _ _ => rfl, by decide +kernel, fun _ _ _ => Nat.le_of_ble_eq_true rfl, rfl⟩
theorem fi_101_7 : FI 101 7 RX8 TX8 .int := ⟨8, 8, Fs8, tyX8, fun _ _ _ _ => rfl, rfl, by decide, lay8, tyX8_ok, nmX8, fun _ _ _ => rfl, fun _ _ _ _ => rfl, by decide +kernel, fun _ _ _ => Nat.le_of_ble_eq_true rfl, rfl⟩
theorem fq_102_0 : FQ 102 0 RX8 TX8 (.array .int) := ⟨8, 8, Fs8, tyX8, fun _ _ _ _ => rfl, rfl, by decide, lay8, tyX8_ok, nmX8, fun _ _ _ => rfl, fun _ _ _ _ => rfl, by decide +kernel, fun _ _ _ => Nat.le_of_ble_eq_true rfl, rfl⟩
theorem fq_102_1 : FQ 102 1 RX8 TX8 (.array .int) := ⟨8, 8, Fs8, tyX8, fun _ _ _ _ => rfl, rfl, by decide, lay8, tyX8_ok, nmX8, fun _ _ _ => rfl, fun _ _ _ _ => rfl, by decide +kernel, fun _ _ _ => Nat.le_of_ble_eq_true rfl, rfl⟩
theorem fq_102_2 : FQ 102 2 RX8 TX8 (.array .int) := ⟨8, 8, Fs8, tyX8, fun _ _ _ _ => rfl, rfl, by decide, lay8, tyX8_ok, nmX8, fun _ _ _ => rfl, fun _ _ _ _ => rfl, by decide +kernel, fun _ _ _ => Nat.le_of_ble_eq_true rfl, rfl⟩
theorem fq_102_3 : FQ 102 3 RX8 TX8 (.array .int) := ⟨8, 8, Fs8, tyX8, fun _ _ _ _ => rfl, rfl, by decide, lay8, tyX8_ok, nmX8, fun _ _ _ => rfl, fun _ _ _ _ => rfl, by decide +kernel, fun _ _ _ => Nat.le_of_ble_eq_true rfl, rfl⟩
theorem fq_102_4 : FQ 102 4 RX8 TX8 (.array .int) := ⟨8, 8, Fs8, tyX8, fun _ _ _ _ => rfl, rfl, by decide, lay8, tyX8_ok, nmX8, fun _ _ _ => rfl, fun _ _ _ _ => rfl, by decide +kernel, fun _ _ _ => Nat.le_of_ble_eq_true rfl, rfl⟩
theorem fq_102_5 : FQ 102 5 RX8 TX8 (.array .int) := ⟨8, 8, Fs8, tyX8, fun _ _ _ _ => rfl, rfl, by decide, lay8, tyX8_ok, nmX8, fun _ _ _ => rfl, fun _ _ _ _ => rfl, by decide +kernel, fun _ _ _ => Nat.le_of_ble_eq_true rfl, rfl⟩
theorem fi_102_6 : FI 102 6 RX8 TX8 .int := ⟨8, 8, Fs8, tyX8, fun _ _ _ _ => rfl, rfl, by decide, lay8, tyX8_ok, nmX8, fun _ _ _ => rfl, fun _ _ _ _ => rfl, by decide +kernel, fun _ _ _ => Nat.le_of_ble_eq_true rfl, rfl⟩
theorem fi_102_7 : FI 102 7 RX8 TX8 .int := ⟨8, 8, Fs8, tyX8, fun _ _ _ _ => rfl, rfl, by decide, lay8, tyX8_ok, nmX8, fun _ _ _ => rfl, fun _ _ _ _ => rfl, by decide +kernel, fun _ _ _ => Nat.le_of_ble_eq_true rfl, rfl⟩
theorem fq_103_0 : FQ 103 0 RX8 TX8 (.array .int) := ⟨8, 8, Fs8, tyX8, fun _ _ _ _ => rfl, rfl, by decide, lay8, tyX8_ok, nmX8, fun _ _ _ => rfl, fun _ _ _ _ => rfl, by decide +kernel, fun _ _ _ => Nat.le_of_ble_eq_true rfl, rfl⟩
theorem fq_103_1 : FQ 103 1 RX8 TX8 (.array .int) := ⟨8, 8, Fs8, tyX8, fun _ _ _ _ => rfl, rfl, by decide, lay8, tyX8_ok, nmX8, fun _ _ _ => rfl, fun _ _ _ _ => rfl, by decide +kernel, fun _ _ _ => Nat.le_of_ble_eq_true rfl, rfl⟩
theorem fq_103_2 : FQ 103 2 RX8 TX8 (.array .int) := ⟨8, 8, Fs8, tyX8, fun _ _ _ _ => rfl, rfl, by decide, lay8, tyX8_ok, nmX8, fun _ _ _ => rfl, fun _ _ _ _ => rfl, by decide +kernel, fun _ _ _ => Nat.le_of_ble_eq_true rfl, rfl⟩
theorem fq_103_3 : FQ 103 3 RX8 TX8 (.array .int) := ⟨8, 8, Fs8, tyX8, fun _ _ _ _ => rfl, rfl, by decide, lay8, tyX8_ok, nmX8, fun _ _ _ => rfl, fun _ _ _ _ => rfl, by decide +kernel, fun _ _ _ => Nat.le_of_ble_eq_true rfl, rfl⟩
theorem fq_103_4 : FQ 103 4 RX8 TX8 (.array .int) := ⟨8, 8, Fs8, tyX8, fun _ _ _ _ => rfl, rfl, by decide, lay8, tyX8_ok, nmX8, fun _ _ _ => rfl, fun _ _ _ _ => rfl, by decide +kernel, fun _ _ _ => Nat.le_of_ble_eq_true rfl, rfl⟩
theorem fq_103_5 : FQ 103 5 RX8 TX8 (.array .int) := ⟨8, 8, Fs8, tyX8, fun _ _ _ _ => rfl, rfl, by decide, lay8, tyX8_ok, nmX8, fun _ _ _ => rfl, fun _ _ _ _ => rfl, by decide +kernel, fun _ _ _ => Nat.le_of_ble_eq_true rfl, rfl⟩
theorem fi_103_6 : FI 103 6 RX8 TX8 .int := ⟨8, 8, Fs8, tyX8, fun _ _ _ _ => rfl, rfl, by decide, lay8, tyX8_ok, nmX8, fun _ _ _ => rfl, fun _ _ _ _ => rfl, by decide +kernel, fun _ _ _ => Nat.le_of_ble_eq_true rfl, rfl⟩
theorem fi_103_7 : FI 103 7 RX8 TX8 .int := ⟨8, 8, Fs8, tyX8, fun _ _ _ _ => rfl, rfl, by decide, lay8, tyX8_ok, nmX8, fun _ _ _ => rfl, fun _ _ _ _ => rfl, by decide +kernel, fun _ _ _ => Nat.le_of_ble_eq_true rfl, rfl⟩
theorem fq_104_0 : FQ 104 0 RX8 TX8 (.array .int) := ⟨8, 8, Fs8, tyX8, fun _ _ _ _ => rfl, rfl, by decide, lay8, tyX8_ok, nmX8, fun _ _ _ => rfl, fun _ _ _ _ => rfl, by decide +kernel, fun _ _ _ => Nat.le_of_ble_eq_true rfl, rfl⟩
theorem fq_104_1 : FQ 104 1 RX8 TX8 (.array .int) := ⟨8, 8, Fs8, tyX8, fun _ _ _ _ => rfl, rfl, by decide, lay8, tyX8_ok, nmX8, fun _ _ _ => rfl, fun _ _ _ _ => rfl, by decide +kernel, fun _ _ _ => Nat.le_of_ble_eq_true rfl, rfl⟩
theorem fq_104_2 : FQ 104 2 RX8 TX8 (.array .int) := ⟨8, 8, Fs8, tyX8, fun _ _ _ _ => rfl, rfl, by decide, lay8, tyX8_ok, nmX8, fun _ _ _ => rfl, fun _ _ _ _ => rfl, by decide +kernel, fun _ _ _ => Nat.le_of_ble_eq_true rfl, rfl⟩
theorem fq_104_3 : FQ 104 3 RX8 TX8 (.array .int) := ⟨8, 8, Fs8, tyX8, fun _ _ _ _ => rfl, rfl, by decide, lay8, tyX8_ok, nmX8, fun _ _ _ => rfl, fun _ _ _ _ => rfl, by decide +kernel, fun _ _ _ => Nat.le_of_ble_eq_true rfl, rfl⟩
theorem fq_104_4 : FQ 104 4 RX8 TX8 (.array .int) := ⟨8, 8, Fs8, tyX8, fun _ _ _ _ => rfl, rfl, by decide, lay8, tyX8_ok, nmX8, fun _ _ _ => rfl, fun _ _ _ _ => rfl, by decide +kernel, fun _ _ _ => Nat.le_of_ble_eq_true rfl, rfl⟩
theorem fq_104_5 : FQ 104 5 RX8 TX8 (.array .int) := ⟨8, 8, Fs8, tyX8, fun _ _ _ _ => rfl, rfl, by decide, lay8, tyX8_ok, nmX8, fun _ _ _ => rfl, fun _ _ _ _ => rfl, by decide +kernel, fun _ _ _ => Nat.le_of_ble_eq_true rfl, rfl⟩
theorem fi_104_6 : FI 104 6 RX8 TX8 .int := ⟨8, 8, Fs8, tyX8, fun _ _ _ _ => rfl, rfl, by decide, lay8, tyX8_ok, nmX8, fun _ _ _ => rfl, fun _ _ _ _ => rfl, by decide +kernel, fun _ _ _ => Nat.le_of_ble_eq_true rfl, rfl⟩
theorem fi_104_7 : FI 104 7 RX8 TX8 .int := ⟨8, 8, Fs8, tyX8, fun _ _ _ _ => rfl, rfl, by decide, lay8, tyX8_ok, nmX8, fun _ _ _ => rfl, fun _ _ _ _ => rfl, by decide +kernel, fun _ _ _ => Nat.le_of_ble_eq_true rfl, rfl⟩
theorem fq_105_0 : FQ 105 0 RX8 TX8 (.array .int) := ⟨8, 8, Fs8, tyX8, fun _ _ _ _ => rfl, rfl, by decide, lay8, tyX8_ok, nmX8, fun _ _ _ => rfl, fun _ _ _ _ => rfl, by decide +kernel, fun _ _ _ => Nat.le_of_ble_eq_true rfl, rfl⟩
theorem fq_105_1 : FQ 105 1 RX8 TX8 (.array .int) := ⟨8, 8, Fs8, tyX8, fun _ _ _ _ => rfl, rfl, by decide, lay8, tyX8_ok, nmX8, fun _ _ _ => rfl, fun _ _ _ _ => rfl, by decide +kernel, fun _ _ _ => Nat.le_of_ble_eq_true rfl, rfl⟩
theorem fq_105_2 : FQ 105 2 RX8 TX8 (.array .int) := ⟨8, 8, Fs8, tyX8, fun _ _ _ _ => rfl, rfl, by decide, lay8, tyX8_ok, nmX8, fun _ _ _ => rfl, fun _ _ _ _ => rfl, by decide +kernel, fun _ _ _ => Nat.le_of_ble_eq_true rfl, rfl⟩
theorem fq_105_3 : FQ 105 3 RX8 TX8 (.array .int) := ⟨8, 8, Fs8, tyX8, fun _ _ _ _ => rfl, rfl, by decide, lay8, tyX8_ok, nmX8, fun _ _ _ => rfl, fun _ _ _ _ => rfl, by decide +kernel, fun _ _ _ => Nat.le_of_ble_eq_true rfl, rfl⟩
theorem fq_105_4 : FQ 105 4 RX8 TX8 (.array .int) := ⟨8, 8, Fs8, tyX8, fun _ _ _ _ => rfl, rfl, by decide, lay8, tyX8_ok, nmX8, fun _ _ _ => rfl, fun _ _ _ _ => rfl, by decide +kernel, fun _ _ _ => Nat.le_of_ble_eq_true rfl, rfl⟩
theorem fq_105_5 : FQ 105 5 RX8 TX8 (.array .int) := ⟨8, 8, Fs8, tyX8, fun _ _ _ _ => rfl, rfl, by decide, lay8, tyX8_ok, nmX8, fun _ _ _ => rfl, fun _ _ _ _ => rfl, by decide +kernel, fun _ _ _ => Nat.le_of_ble_eq_true rfl, rfl⟩
theorem fi_105_6 : FI 105 6 RX8 TX8 .int := ⟨8, 8, Fs8, tyX8, fun _ _ _ _ => rfl, rfl, by decide, lay8, tyX8_ok, nmX8, fun _ _ _ => rfl, fun _ _ _ _ => rfl, by decide +kernel, fun _ _ _ => Nat.le_of_ble_eq_true rfl, rfl⟩
theorem fi_105_7 : FI 105 7 RX8 TX8 .int := ⟨8, 8, Fs8, tyX8, fun _ _ _ _ => rfl, rfl, by decide, lay8, tyX8_ok, nmX8, fun _ _ _ => rfl, fun _ _ _ _ => rfl, by decide +kernel, fun _ _ _ => Nat.le_of_ble_eq_true rfl, rfl⟩
theorem fq_106_0 : FQ 106 0 RX8 TX8 (.array .int) := ⟨8, 8, Fs8, tyX8, fun _ _ _ _ => rfl, rfl, by decide, lay8, tyX8_ok, nmX8, fun _ _ _ => rfl, fun _ _ _ _ => rfl, by decide +kernel, fun _ _ _ => Nat.le_of_ble_eq_true rfl, rfl⟩
theorem fq_106_1 : FQ 106 1 RX8 TX8 (.array .int) := ⟨8, 8, Fs8, tyX8, fun _ _ _ _ => rfl, rfl, by decide, lay8, tyX8_ok, nmX8, fun _ _ _ => rfl, fun _ _ _ _ => rfl, by decide +kernel, fun _ _ _ => Nat.le_of_ble_eq_true rfl, rfl⟩
theorem fq_106_2 : FQ 106 2 RX8 TX8 (.array .int) := ⟨8, 8, Fs8, tyX8, fun _ _ _ _ => rfl, rfl, by decide, lay8, tyX8_ok, nmX8, fun _ _ _ => rfl, fun _ _ _ _ => rfl, by decide +kernel, fun _ _ _ => Nat.le_of_ble_eq_true rfl, rfl⟩
theorem fq_106_3 : FQ 106 3 RX8 TX8 (.array .int) := ⟨8, 8, Fs8, tyX8, fun _ _ _ _ => rfl, rfl, by decide, lay8, tyX8_ok, nmX8, fun _ _ _ => rfl, fun _ _ _ _ => rfl, by decide +kernel, fun _ _ _ => Nat.le_of_ble_eq_true rfl, rfl⟩
theorem fq_106_4 : FQ 106 4 RX8 TX8 (.array .int) := ⟨8, 8, Fs8, tyX8, fun _ _ _ _ => rfl, rfl, by decide, lay8, tyX8_ok, nmX8, fun _ _ _ => rfl, fun _ _ _ _ => rfl, by decide +kernel, fun _ _ _ => Nat.le_of_ble_eq_true rfl, rfl⟩
theorem fq_106_5 : FQ 106 5 RX8 TX8 (.array .int) := ⟨8, 8, Fs8, tyX8, fun _ _ _ _ => rfl, rfl, by decide, lay8, tyX8_ok, nmX8, fun _ _ _ => rfl, fun _ _ _ _ => rfl, by decide +kernel, fun _ _ _ => Nat.le_of_ble_eq_true rfl, rfl⟩
theorem fi_106_6 : FI 106 6 RX8 TX8 .int := ⟨8, 8, Fs8, tyX8, fun _ _ _ _ => rfl, rfl, by decide, lay8, tyX8_ok, nmX8, fun _ _ _ => rfl, fun _ _ _ _ => rfl, by decide +kernel, fun _ _ _ => Nat.le_of_ble_eq_true rfl, rfl⟩
theorem fi_106_7 : FI 106 7 RX8 TX8 .int := ⟨8, 8, Fs8, tyX8, fun _ _ _ _ => rfl, rfl, by decide, lay8, tyX8_ok, nmX8, fun _ _ _ => rfl, fun _ _ _ _ => rfl, by decide +kernel, fun _ _ _ => Nat.le_of_ble_eq_true rfl, rfl⟩
theorem ai_20 : AI 20 1 5 := fun _ _ _ _ => rfl
theorem ai_21 : AI 21 1 5 := fun _ _ _ _ => rfl
theorem ai_22 : AI 22 1 5 := fun _ _ _ _ => rfl
theorem ai_23 : AI 23 1 1024 := fun _ _ _ _ => rfl
theorem ai_24 : AI 24 1 5 := fun _ _ _ _ => rfl
theorem ai_25 : AI 25 1 5 := fun _ _ _ _ => rfl
theorem ai_26 : AI 26 1 8 := fun _ _ _ _ => rfl
theorem ai_27 : AI 27 1 5 := fun _ _ _ _ => rfl
theorem ai_28 : AI 28 1 5 := fun _ _ _ _ => rfl
theorem ai_29 : AI 29 1 8 := fun _ _ _ _ => rfl
theorem ai_30 : AI 30 1 8 := fun _ _ _ _ => rfl
theorem ai_31 : AI 31 1 427 := fun _ _ _ _ => rfl
theorem ai_32 : AI 32 1 5 := fun _ _ _ _ => rfl
theorem ai_33 : AI 33 1 5 := fun _ _ _ _ => rfl
theorem ai_34 : AI 34 1 5 := fun _ _ _ _ => rfl
theorem ai_35 : AI 35 1 5 := fun _ _ _ _ => rfl
theorem ai_36 : AI 36 1 8 := fun _ _ _ _ => rfl
theorem ai_37 : AI 37 1 8 := fun _ _ _ _ => rfl
theorem aq_38 : AQ 38 4 20 102 := ⟨fun _ _ _ _ => rfl, fun k hk => if_pos hk⟩
theorem ar_38 : AR 38 4 20 := fun _ _ _ _ => rfl
theorem aj_39 : AJ 39 10 := fun _ _ _ _ => rfl
theorem aj_40 : AJ 40 64 := fun _ _ _ _ => rfl
theorem ai_41 : AI 41 1 401 := fun _ _ _ _ => rfl
theorem ai_42 : AI 42 1 12 := fun _ _ _ _ => rfl
theorem ai_43 : AI 43 1 12 := fun _ _ _ _ => rfl
theorem ai_44 : AI 44 1 12 := fun _ _ _ _ => rfl
theorem ai_45 : AI 45 1 4 := fun _ _ _ _ => rfl
theorem ai_46 : AI 46 1 4 := fun _ _ _ _ => rfl
theorem ai_47 : AI 47 1 4 := fun _ _ _ _ => rfl
theorem ai_48 : AI 48 1 4 := fun _ _ _ _ => rfl
theorem ai_49 : AI 49 1 20 := fun _ _ _ _ => rfl
theorem ai_50 : AI 50 1 40 := fun _ _ _ _ => rfl
theorem ai_51 : AI 51 1 400 := fun _ _ _ _ => rfl
theorem ai_52 : AI 52 1 401 := fun _ _ _ _ => rfl
theorem ai_53 : AI 53 1 401 := fun _ _ _ _ => rfl
theorem ai_54 : AI 54 1 401 := fun _ _ _ _ => rfl
theorem ai_55 : AI 55 1 5 := fun _ _ _ _ => rfl
theorem ai_56 : AI 56 1 10 := fun _ _ _ _ => rfl
theorem ai_57 : AI 57 1 10 := fun _ _ _ _ => rfl
theorem ai_58 : AI 58 1 10 := fun _ _ _ _ => rfl
theorem aq_59 : AQ 59 5 6 7 := ⟨fun _ _ _ _ => rfl, fun k hk => if_pos hk⟩
theorem ar_59 : AR 59 5 6 := fun _ _ _ _ => rfl
theorem ar_60 : AR 60 6 4 := fun _ _ _ _ => rfl
theorem ai_61 : AI 61 0 400 := fun _ _ _ _ => rfl
theorem ai_62 : AI 62 1 2400 := fun _ _ _ _ => rfl
theorem ai_63 : AI 63 1 7 := fun _ _ _ _ => rfl
theorem ai_64 : AI 64 1 288 := fun _ _ _ _ => rfl
theorem ai_65 : AI 65 1 6 := fun _ _ _ _ => rfl
theorem ai_66 : AI 66 1 165 := fun _ _ _ _ => rfl
theorem ai_67 : AI 67 1 400 := fun _ _ _ _ => rfl
theorem aj_68 : AJ 68 64 := fun _ _ _ _ => rfl
theorem aj_69 : AJ 69 10 := fun _ _ _ _ => rfl
theorem ai_70 : AI 70 1 201 := fun _ _ _ _ => rfl
theorem ai_71 : AI 71 1 8 := fun _ _ _ _ => rfl
theorem ai_72 : AI 72 1 1880 := fun _ _ _ _ => rfl
theorem ai_73 : AI 73 1 5 := fun _ _ _ _ => rfl
theorem ai_74 : AI 74 1 5 := fun _ _ _ _ => rfl
theorem ai_75 : AI 75 1 5 := fun _ _ _ _ => rfl
theorem ai_76 : AI 76 1 5 := fun _ _ _ _ => rfl
theorem ai_77 : AI 77 1 5 := fun _ _ _ _ => rfl
theorem ai_78 : AI 78 1 8 := fun _ _ _ _ => rfl
theorem ai_79 : AI 79 1 94 := fun _ _ _ _ => rfl
theorem ai_80 : AI 80 3 7 := fun _ _ _ _ => rfl
theorem ai_81 : AI 81 1 56 := fun _ _ _ _ => rfl
theorem ai_82 : AI 82 1 804 := fun _ _ _ _ => rfl
theorem ai_83 : AI 83 1 4 := fun _ _ _ _ => rfl
theorem ai_84 : AI 84 1 4 := fun _ _ _ _ => rfl
theorem ai_85 : AI 85 3 4 := fun _ _ _ _ => rfl
theorem ai_86 : AI 86 1 5 := fun _ _ _ _ => rfl
theorem ai_87 : AI 87 1 10 := fun _ _ _ _ => rfl
theorem ai_88 : AI 88 1 10 := fun _ _ _ _ => rfl
theorem ai_89 : AI 89 1 10 := fun _ _ _ _ => rfl
theorem ai_90 : AI 90 1 5 := fun _ _ _ _ => rfl
theorem ai_91 : AI 91 1 5 := fun _ _ _ _ => rfl
theorem ai_92 : AI 92 1 5 := fun _ _ _ _ => rfl
theorem ai_93 : AI 93 1 8 := fun _ _ _ _ => rfl
theorem ai_94 : AI 94 1 8 := fun _ _ _ _ => rfl
theorem ai_95 : AI 95 1 5 := fun _ _ _ _ => rfl
theorem ai_96 : AI 96 1 5 := fun _ _ _ _ => rfl
theorem ai_97 : AI 97 1 5 := fun _ _ _ _ => rfl
theorem ai_98 : AI 98 1 8 := fun _ _ _ _ => rfl
theorem ai_99 : AI 99 1 8 := fun _ _ _ _ => rfl
theorem ai_107 : AI 107 1 4 := fun _ _ _ _ => rfl
theorem ai_108 : AI 108 1 4 := fun _ _ _ _ => rfl
theorem ai_109 : AI 109 1 4 := fun _ _ _ _ => rfl
theorem ai_110 : AI 110 1 4 := fun _ _ _ _ => rfl
theorem ai_111 : AI 111 1 20 := fun _ _ _ _ => rfl
theorem ai_112 : AI 112 1 40 := fun _ _ _ _ => rfl
theorem ai_113 : AI 113 1 4 := fun _ _ _ _ => rfl
theorem ai_114 : AI 114 1 4 := fun _ _ _ _ => rfl
theorem ai_115 : AI 115 1 4 := fun _ _ _ _ => rfl
theorem ai_116 : AI 116 1 4 := fun _ _ _ _ => rfl
theorem ai_117 : AI 117 1 20 := fun _ _ _ _ => rfl
theorem ai_118 : AI 118 1 40 := fun _ _ _ _ => rfl
theorem ai_119 : AI 119 1 4 := fun _ _ _ _ => rfl
theorem ai_120 : AI 120 1 4 := fun _ _ _ _ => rfl
theorem ai_121 : AI 121 1 4 := fun _ _ _ _ => rfl
theorem ai_122 : AI 122 1 4 := fun _ _ _ _ => rfl
theorem ai_123 : AI 123 1 20 := fun _ _ _ _ => rfl
theorem ai_124 : AI 124 1 40 := fun _ _ _ _ => rfl
theorem ai_125 : AI 125 1 4 := fun _ _ _ _ => rfl
theorem ai_126 : AI 126 1 4 := fun _ _ _ _ => rfl
theorem ai_127 : AI 127 1 4 := fun _ _ _ _ => rfl
theorem ai_128 : AI 128 1 4 := fun _ _ _ _ => rfl
theorem ai_129 : AI 129 1 20 := fun _ _ _ _ => rfl
theorem ai_130 : AI 130 1 40 := fun _ _ _ _ => rfl
theorem ai_131 : AI 131 1 4 := fun _ _ _ _ => rfl
theorem ai_132 : AI 132 1 4 := fun _ _ _ _ => rfl
theorem ai_133 : AI 133 1 4 := fun _ _ _ _ => rfl
theorem ai_134 : AI 134 1 4 := fun _ _ _ _ => rfl
theorem ai_135 : AI 135 1 20 := fun _ _ _ _ => rfl
theorem ai_136 : AI 136 1 40 := fun _ _ _ _ => rfl
theorem ai_137 : AI 137 1 4 := fun _ _ _ _ => rfl
theorem ai_138 : AI 138 1 4 := fun _ _ _ _ => rfl
theorem ai_139 : AI 139 1 4 := fun _ _ _ _ => rfl
theorem ai_140 : AI 140 1 4 := fun _ _ _ _ => rfl
theorem ai_141 : AI 141 1 20 := fun _ _ _ _ => rfl
theorem ai_142 : AI 142 1 40 := fun _ _ _ _ => rfl
theorem ai_143 : AI 143 1 4 := fun _ _ _ _ => rfl
theorem ai_144 : AI 144 1 4 := fun _ _ _ _ => rfl
theorem ai_145 : AI 145 1 4 := fun _ _ _ _ => rfl
theorem ai_146 : AI 146 1 4 := fun _ _ _ _ => rfl
theorem ai_147 : AI 147 1 20 := fun _ _ _ _ => rfl
theorem ai_148 : AI 148 1 40 := fun _ _ _ _ => rfl
