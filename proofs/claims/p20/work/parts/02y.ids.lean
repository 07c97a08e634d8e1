noncomputable def wTb_0 (i : Nat) : Cond := (cond (Nat.blt i 16) (cond (Nat.blt i 8) (cond (Nat.blt i 4) (cond (Nat.blt i 2) (cond (Nat.blt i 1) (.lays RX0 "ChildCoins$Land" "coins" "I" : Cond) (.laysFinal RX0 "ChildCoins$Land" "struck" "[I" : Cond)) (cond (Nat.blt i 3) (.laysFinal RX0 "ChildCoins$Land" "worth" "[I" : Cond) (.lays RX0 "ChildCoins$Land" "people" "I" : Cond))) (cond (Nat.blt i 6) (cond (Nat.blt i 5) (.laysFinal RX0 "ChildCoins$Land" "born" "[I" : Cond) (.laysFinal RX0 "ChildCoins$Land" "toldHolds" "[I" : Cond)) (cond (Nat.blt i 7) (.lays RX0 "ChildCoins$Land" "debts" "I" : Cond) (.laysFinal RX0 "ChildCoins$Land" "debtor" "[I" : Cond)))) (cond (Nat.blt i 12) (cond (Nat.blt i 10) (cond (Nat.blt i 9) (.laysFinal RX0 "ChildCoins$Land" "firstCreditor" "[I" : Cond) (.laysFinal RX0 "ChildCoins$Land" "sum" "[I" : Cond)) (cond (Nat.blt i 11) (.lays RX0 "ChildCoins$Land" "span" "I" : Cond) (.lays RX0 "ChildCoins$Land" "spanTold" "Z" : Cond))) (cond (Nat.blt i 14) (cond (Nat.blt i 13) (.laysFinal RX1 "ChildCoins$Now" "cells" "[I" : Cond) (.laysFinal RX1 "ChildCoins$Now" "past" "[I" : Cond)) (cond (Nat.blt i 15) (.lays RX1 "ChildCoins$Now" "known" "I" : Cond) (.laysFinal RX2 "ChildCoins$Payment" "stock" "[I" : Cond))))) (cond (Nat.blt i 24) (cond (Nat.blt i 20) (cond (Nat.blt i 18) (cond (Nat.blt i 17) (.laysFinal RX2 "ChildCoins$Payment" "used" "[I" : Cond) (.laysFinal RX2 "ChildCoins$Payment" "fewest" "[I" : Cond)) (cond (Nat.blt i 19) (.lays RX2 "ChildCoins$Payment" "total" "I" : Cond) (.lays RX3 "ChildCoins$Reader" "bytes" "[I" : Cond))) (cond (Nat.blt i 22) (cond (Nat.blt i 21) (.lays RX3 "ChildCoins$Reader" "length" "I" : Cond) (.lays RX3 "ChildCoins$Reader" "at" "I" : Cond)) (cond (Nat.blt i 23) (.lays RX3 "ChildCoins$Reader" "start" "I" : Cond) (.lays RX3 "ChildCoins$Reader" "token" "I" : Cond)))) (cond (Nat.blt i 28) (cond (Nat.blt i 26) (cond (Nat.blt i 25) (.lays RX3 "ChildCoins$Reader" "value" "I" : Cond) (.laysFinal RX4 "ChildCoins$Rows" "trial" "LChildCoins$Now;" : Cond)) (cond (Nat.blt i 27) (.laysFinal RX4 "ChildCoins$Rows" "row" "[I" : Cond) (.laysFinal RX4 "ChildCoins$Rows" "best" "[I" : Cond))) (cond (Nat.blt i 30) (cond (Nat.blt i 29) (.lays RX4 "ChildCoins$Rows" "bestLength" "I" : Cond) (.laysFinal RX5 "ChildCoins$World" "stock" "[I" : Cond)) (cond (Nat.blt i 31) (.laysFinal RX5 "ChildCoins$World" "worth" "[I" : Cond) (.lays RX5 "ChildCoins$World" "coins" "I" : Cond))))))
noncomputable def wTb_1 (i : Nat) : Cond := (cond (Nat.blt i 48) (cond (Nat.blt i 40) (cond (Nat.blt i 36) (cond (Nat.blt i 34) (cond (Nat.blt i 33) (.lays RX5 "ChildCoins$World" "sum" "I" : Cond) (.laysFinal RX6 "ChildCoins" "text" "[I" : Cond)) (cond (Nat.blt i 35) (.lays RX6 "ChildCoins" "typed" "I" : Cond) (.laysFinal RX6 "ChildCoins" "reader" "LChildCoins$Reader;" : Cond))) (cond (Nat.blt i 38) (cond (Nat.blt i 37) (.lays RX6 "ChildCoins" "ours" "LChildCoins$Land;" : Cond) (.lays RX6 "ChildCoins" "draft" "LChildCoins$Land;" : Cond)) (cond (Nat.blt i 39) (.laysFinal RX6 "ChildCoins" "present" "LChildCoins$Now;" : Cond) (.laysFinal RX6 "ChildCoins" "images" "[LChildCoins$Now;" : Cond)))) (cond (Nat.blt i 44) (cond (Nat.blt i 42) (cond (Nat.blt i 41) (.lays RX6 "ChildCoins" "keptImages" "I" : Cond) (.laysFinal RX6 "ChildCoins" "payment" "LChildCoins$Payment;" : Cond)) (cond (Nat.blt i 43) (.laysFinal RX6 "ChildCoins" "world" "LChildCoins$World;" : Cond) (.laysFinal RX6 "ChildCoins" "rows" "LChildCoins$Rows;" : Cond))) (cond (Nat.blt i 46) (cond (Nat.blt i 45) (.laysFinal RX6 "ChildCoins" "taken" "[I" : Cond) (.lays RX6 "ChildCoins" "takenCount" "I" : Cond)) (cond (Nat.blt i 47) (.lays RX6 "ChildCoins" "traced" "J" : Cond) (.lays RX7 "ChildCoinsModel" "trace" "J" : Cond))))) (cond (Nat.blt i 56) (cond (Nat.blt i 52) (cond (Nat.blt i 50) (cond (Nat.blt i 49) (.laysFinal RX7 "ChildCoinsModel" "text" "[B" : Cond) (.lays RX7 "ChildCoinsModel" "typed" "I" : Cond)) (cond (Nat.blt i 51) (.laysFinal RX7 "ChildCoinsModel" "coins" "[I" : Cond) (.laysFinal RX7 "ChildCoinsModel" "struck" "[I" : Cond))) (cond (Nat.blt i 54) (cond (Nat.blt i 53) (.laysFinal RX7 "ChildCoinsModel" "worth" "[I" : Cond) (.laysFinal RX7 "ChildCoinsModel" "people" "[I" : Cond)) (cond (Nat.blt i 55) (.laysFinal RX7 "ChildCoinsModel" "born" "[I" : Cond) (.laysFinal RX7 "ChildCoinsModel" "draftHolds" "[I" : Cond)))) (cond (Nat.blt i 60) (cond (Nat.blt i 58) (cond (Nat.blt i 57) (.laysFinal RX7 "ChildCoinsModel" "debts" "[I" : Cond) (.laysFinal RX7 "ChildCoinsModel" "debtor" "[I" : Cond)) (cond (Nat.blt i 59) (.laysFinal RX7 "ChildCoinsModel" "draftCreditor" "[I" : Cond) (.laysFinal RX7 "ChildCoinsModel" "owed" "[I" : Cond))) (cond (Nat.blt i 62) (cond (Nat.blt i 61) (.laysFinal RX7 "ChildCoinsModel" "span" "[I" : Cond) (.lays RX7 "ChildCoinsModel" "spanTold" "Z" : Cond)) (cond (Nat.blt i 63) (.lays RX7 "ChildCoinsModel" "at" "I" : Cond) (.lays RX7 "ChildCoinsModel" "start" "I" : Cond))))))
noncomputable def wTb_2 (i : Nat) : Cond := (cond (Nat.blt i 80) (cond (Nat.blt i 72) (cond (Nat.blt i 68) (cond (Nat.blt i 66) (cond (Nat.blt i 65) (.lays RX7 "ChildCoinsModel" "sort" "I" : Cond) (.lays RX7 "ChildCoinsModel" "value" "I" : Cond)) (cond (Nat.blt i 67) (.lays RX7 "ChildCoinsModel" "fault" "I" : Cond) (.laysFinal RX7 "ChildCoinsModel" "now" "[I" : Cond))) (cond (Nat.blt i 70) (cond (Nat.blt i 69) (.laysFinal RX7 "ChildCoinsModel" "isKept" "[Z" : Cond) (.laysFinal RX7 "ChildCoinsModel" "tried" "[I" : Cond)) (cond (Nat.blt i 71) (.laysFinal RX7 "ChildCoinsModel" "there" "[I" : Cond) (.laysFinal RX7 "ChildCoinsModel" "fewest" "[I" : Cond)))) (cond (Nat.blt i 76) (cond (Nat.blt i 74) (cond (Nat.blt i 73) (.laysFinal RX7 "ChildCoinsModel" "paid" "[I" : Cond) (.laysFinal RX7 "ChildCoinsModel" "row" "[I" : Cond)) (cond (Nat.blt i 75) (.laysFinal RX7 "ChildCoinsModel" "toldCoin" "[I" : Cond) (.lays RX7 "ChildCoinsModel" "told" "I" : Cond))) (cond (Nat.blt i 78) (cond (Nat.blt i 77) (.code yX0_init cX0_init 1 none : Cond) (.methodLink RX0 3 objectInit : Cond)) (cond (Nat.blt i 79) (.instanceMethod objectInit : Cond) (.code objectInit ⟨#[0xb1]⟩ 1 none : Cond))))) (cond (Nat.blt i 88) (cond (Nat.blt i 84) (cond (Nat.blt i 82) (cond (Nat.blt i 81) (.fieldLink RX0 9 "ChildCoins$Land" "coins" "I" : Cond) (.arrayClass .int : Cond)) (cond (Nat.blt i 83) (.fieldLink RX0 15 "ChildCoins$Land" "struck" "[I" : Cond) (.fieldLink RX0 19 "ChildCoins$Land" "worth" "[I" : Cond))) (cond (Nat.blt i 86) (cond (Nat.blt i 85) (.fieldLink RX0 22 "ChildCoins$Land" "people" "I" : Cond) (.fieldLink RX0 25 "ChildCoins$Land" "born" "[I" : Cond)) (cond (Nat.blt i 87) (.fieldLink RX0 28 "ChildCoins$Land" "toldHolds" "[I" : Cond) (.fieldLink RX0 31 "ChildCoins$Land" "debts" "I" : Cond)))) (cond (Nat.blt i 92) (cond (Nat.blt i 90) (cond (Nat.blt i 89) (.fieldLink RX0 34 "ChildCoins$Land" "debtor" "[I" : Cond) (.fieldLink RX0 37 "ChildCoins$Land" "firstCreditor" "[I" : Cond)) (cond (Nat.blt i 91) (.fieldLink RX0 40 "ChildCoins$Land" "sum" "[I" : Cond) (.fieldLink RX0 43 "ChildCoins$Land" "span" "I" : Cond))) (cond (Nat.blt i 94) (cond (Nat.blt i 93) (.fieldLink RX0 46 "ChildCoins$Land" "spanTold" "Z" : Cond) (.code yX0_empty cX0_empty 2 none : Cond)) (cond (Nat.blt i 95) (.code yX0_hasCoin cX0_hasCoin 2 (some .boolean) : Cond) (.code yX0_hasPerson cX0_hasPerson 2 (some .boolean) : Cond))))))
noncomputable def wTb_3 (i : Nat) : Cond := (cond (Nat.blt i 112) (cond (Nat.blt i 104) (cond (Nat.blt i 100) (cond (Nat.blt i 98) (cond (Nat.blt i 97) (.code yX0_hasDebt cX0_hasDebt 2 (some .boolean) : Cond) (.code yX0_isAbout cX0_isAbout 3 (some .boolean) : Cond)) (cond (Nat.blt i 99) (.code yX0_does cX0_does 3 (some .boolean) : Cond) (.methodLink RX0 50 yX0_isAbout : Cond))) (cond (Nat.blt i 102) (cond (Nat.blt i 101) (.instanceMethod yX0_isAbout : Cond) (.selects RX0 yX0_isAbout yX0_isAbout : Cond)) (cond (Nat.blt i 103) (.initialized RX0 : Cond) (.code yX0_peopleFor cX0_peopleFor 4 (some .int) : Cond)))) (cond (Nat.blt i 108) (cond (Nat.blt i 106) (cond (Nat.blt i 105) (.methodLink RX0 54 yX0_does : Cond) (.instanceMethod yX0_does : Cond)) (cond (Nat.blt i 107) (.selects RX0 yX0_does yX0_does : Cond) (.code yX0_coinsFor cX0_coinsFor 4 (some .int) : Cond))) (cond (Nat.blt i 110) (cond (Nat.blt i 109) (.code yX1_init cX1_init 1 none : Cond) (.methodLink RX1 5 objectInit : Cond)) (cond (Nat.blt i 111) (.fieldLink RX1 11 "ChildCoins$Now" "cells" "[I" : Cond) (.fieldLink RX1 15 "ChildCoins$Now" "past" "[I" : Cond))))) (cond (Nat.blt i 120) (cond (Nat.blt i 116) (cond (Nat.blt i 114) (cond (Nat.blt i 113) (.fieldLink RX1 18 "ChildCoins$Now" "known" "I" : Cond) (.code yX1_begin cX1_begin 2 none : Cond)) (cond (Nat.blt i 115) (.methodLink RX1 27 arraycopyName : Cond) (.native arraycopyName : Cond))) (cond (Nat.blt i 118) (cond (Nat.blt i 117) (.static arraycopyName : Cond) (.initialized "java/lang/System" : Cond)) (cond (Nat.blt i 119) (.code yX1_become cX1_become 2 none : Cond) (.code yX1_becomeAnew cX1_becomeAnew 2 none : Cond)))) (cond (Nat.blt i 124) (cond (Nat.blt i 122) (cond (Nat.blt i 121) (.code yX1_remember cX1_remember 1 none : Cond) (.code yX1_stepBack cX1_stepBack 1 none : Cond)) (cond (Nat.blt i 123) (.code yX1_held cX1_held 3 (some .int) : Cond) (.code yX1_add cX1_add 4 none : Cond))) (cond (Nat.blt i 126) (cond (Nat.blt i 125) (.code yX1_inAll cX1_inAll 4 (some .int) : Cond) (.methodLink RX1 39 yX1_held : Cond)) (cond (Nat.blt i 127) (.instanceMethod yX1_held : Cond) (.selects RX1 yX1_held yX1_held : Cond))))))
noncomputable def wTb_4 (i : Nat) : Cond := (cond (Nat.blt i 144) (cond (Nat.blt i 136) (cond (Nat.blt i 132) (cond (Nat.blt i 130) (cond (Nat.blt i 129) (.initialized RX1 : Cond) (.code yX1_holdsAnything cX1_holdsAnything 3 (some .boolean) : Cond)) (cond (Nat.blt i 131) (.code yX1_creditor cX1_creditor 2 (some .int) : Cond) (.code yX1_setCreditor cX1_setCreditor 3 none : Cond))) (cond (Nat.blt i 134) (cond (Nat.blt i 133) (.code yX1_openBits cX1_openBits 1 (some .int) : Cond) (.code yX1_isOpen cX1_isOpen 2 (some .boolean) : Cond)) (cond (Nat.blt i 135) (.code yX1_settle cX1_settle 6 none : Cond) (.methodLink RX1 43 yX1_creditor : Cond)))) (cond (Nat.blt i 140) (cond (Nat.blt i 138) (cond (Nat.blt i 137) (.instanceMethod yX1_creditor : Cond) (.selects RX1 yX1_creditor yX1_creditor : Cond)) (cond (Nat.blt i 139) (.methodLink RX1 47 yX1_add : Cond) (.instanceMethod yX1_add : Cond))) (cond (Nat.blt i 142) (cond (Nat.blt i 141) (.selects RX1 yX1_add yX1_add : Cond) (.code yX2_init cX2_init 1 none : Cond)) (cond (Nat.blt i 143) (.methodLink RX2 3 objectInit : Cond) (.fieldLink RX2 9 "ChildCoins$Payment" "stock" "[I" : Cond))))) (cond (Nat.blt i 152) (cond (Nat.blt i 148) (cond (Nat.blt i 146) (cond (Nat.blt i 145) (.fieldLink RX2 15 "ChildCoins$Payment" "used" "[I" : Cond) (.fieldLink RX2 18 "ChildCoins$Payment" "fewest" "[I" : Cond)) (cond (Nat.blt i 147) (.fieldLink RX2 21 "ChildCoins$Payment" "total" "I" : Cond) (.code yX2_fewestFrom cX2_fewestFrom 8 (some .int) : Cond))) (cond (Nat.blt i 150) (cond (Nat.blt i 149) (.constant RX2 54 (1000000) : Cond) (.code yX2_fillFewest cX2_fillFewest 6 none : Cond)) (cond (Nat.blt i 151) (.methodLink RX2 61 yX2_fewestFrom : Cond) (.instanceMethod yX2_fewestFrom : Cond)))) (cond (Nat.blt i 156) (cond (Nat.blt i 154) (cond (Nat.blt i 153) (.selects RX2 yX2_fewestFrom yX2_fewestFrom : Cond) (.initialized RX2 : Cond)) (cond (Nat.blt i 155) (.code yX2_choose cX2_choose 8 none : Cond) (.methodLink RX2 50 yX2_fillFewest : Cond))) (cond (Nat.blt i 158) (cond (Nat.blt i 157) (.instanceMethod yX2_fillFewest : Cond) (.selects RX2 yX2_fillFewest yX2_fillFewest : Cond)) (cond (Nat.blt i 159) (.methodLink RX2 55 yX2_choose : Cond) (.instanceMethod yX2_choose : Cond))))))
noncomputable def wTb_5 (i : Nat) : Cond := (cond (Nat.blt i 176) (cond (Nat.blt i 168) (cond (Nat.blt i 164) (cond (Nat.blt i 162) (cond (Nat.blt i 161) (.selects RX2 yX2_choose yX2_choose : Cond) (.code yX2_find cX2_find 7 (some .boolean) : Cond)) (cond (Nat.blt i 163) (.methodLink RX2 25 yX2_find : Cond) (.instanceMethod yX2_find : Cond))) (cond (Nat.blt i 166) (cond (Nat.blt i 165) (.selects RX2 yX2_find yX2_find : Cond) (.code yX2_settles cX2_settles 6 (some .boolean) : Cond)) (cond (Nat.blt i 167) (.code yX3_init cX3_init 1 none : Cond) (.methodLink RX3 3 objectInit : Cond)))) (cond (Nat.blt i 172) (cond (Nat.blt i 170) (cond (Nat.blt i 169) (.fieldLink RX3 9 "ChildCoins$Reader" "bytes" "[I" : Cond) (.fieldLink RX3 15 "ChildCoins$Reader" "length" "I" : Cond)) (cond (Nat.blt i 171) (.fieldLink RX3 19 "ChildCoins$Reader" "at" "I" : Cond) (.fieldLink RX3 22 "ChildCoins$Reader" "start" "I" : Cond))) (cond (Nat.blt i 174) (cond (Nat.blt i 173) (.fieldLink RX3 25 "ChildCoins$Reader" "token" "I" : Cond) (.fieldLink RX3 28 "ChildCoins$Reader" "value" "I" : Cond)) (cond (Nat.blt i 175) (.code yX3_sortOf cX3_sortOf 1 (some .int) : Cond) (.code yX3_weighLetters cX3_weighLetters 1 none : Cond))))) (cond (Nat.blt i 184) (cond (Nat.blt i 180) (cond (Nat.blt i 178) (cond (Nat.blt i 177) (.code yX3_weighNumber cX3_weighNumber 3 none : Cond) (.code yX3_step cX3_step 1 none : Cond)) (cond (Nat.blt i 179) (.methodLink RX3 109 yX3_sortOf : Cond) (.static yX3_sortOf : Cond))) (cond (Nat.blt i 182) (cond (Nat.blt i 181) (.initialized RX3 : Cond) (.methodLink RX3 113 yX3_weighLetters : Cond)) (cond (Nat.blt i 183) (.instanceMethod yX3_weighLetters : Cond) (.selects RX3 yX3_weighLetters yX3_weighLetters : Cond)))) (cond (Nat.blt i 188) (cond (Nat.blt i 186) (cond (Nat.blt i 185) (.methodLink RX3 116 yX3_weighNumber : Cond) (.instanceMethod yX3_weighNumber : Cond)) (cond (Nat.blt i 187) (.selects RX3 yX3_weighNumber yX3_weighNumber : Cond) (.code yX3_readNumber cX3_readNumber 3 (some .boolean) : Cond))) (cond (Nat.blt i 190) (cond (Nat.blt i 189) (.methodLink RX3 42 yX3_step : Cond) (.instanceMethod yX3_step : Cond)) (cond (Nat.blt i 191) (.selects RX3 yX3_step yX3_step : Cond) (.code yX3_readEnding cX3_readEnding 1 (some .boolean) : Cond))))))
noncomputable def wTb_6 (i : Nat) : Cond := (cond (Nat.blt i 208) (cond (Nat.blt i 200) (cond (Nat.blt i 196) (cond (Nat.blt i 194) (cond (Nat.blt i 193) (.methodLink RX3 67 yX3_readNumber : Cond) (.instanceMethod yX3_readNumber : Cond)) (cond (Nat.blt i 195) (.selects RX3 yX3_readNumber yX3_readNumber : Cond) (.methodLink RX3 77 yX3_readEnding : Cond))) (cond (Nat.blt i 198) (cond (Nat.blt i 197) (.instanceMethod yX3_readEnding : Cond) (.selects RX3 yX3_readEnding yX3_readEnding : Cond)) (cond (Nat.blt i 199) (.code yX3_readCoin cX3_readCoin 2 (some .boolean) : Cond) (.code yX3_readPerson cX3_readPerson 2 (some .boolean) : Cond)))) (cond (Nat.blt i 204) (cond (Nat.blt i 202) (cond (Nat.blt i 201) (.code yX3_readHolds cX3_readHolds 4 (some .boolean) : Cond) (.code yX3_readDebt cX3_readDebt 4 (some .boolean) : Cond)) (cond (Nat.blt i 203) (.code yX3_readSpan cX3_readSpan 2 (some .boolean) : Cond) (.methodLink RX3 49 yX3_readCoin : Cond))) (cond (Nat.blt i 206) (cond (Nat.blt i 205) (.instanceMethod yX3_readCoin : Cond) (.selects RX3 yX3_readCoin yX3_readCoin : Cond)) (cond (Nat.blt i 207) (.methodLink RX3 52 yX3_readPerson : Cond) (.instanceMethod yX3_readPerson : Cond))))) (cond (Nat.blt i 216) (cond (Nat.blt i 212) (cond (Nat.blt i 210) (cond (Nat.blt i 209) (.selects RX3 yX3_readPerson yX3_readPerson : Cond) (.methodLink RX3 55 yX3_readHolds : Cond)) (cond (Nat.blt i 211) (.instanceMethod yX3_readHolds : Cond) (.selects RX3 yX3_readHolds yX3_readHolds : Cond))) (cond (Nat.blt i 214) (cond (Nat.blt i 213) (.methodLink RX3 58 yX3_readDebt : Cond) (.instanceMethod yX3_readDebt : Cond)) (cond (Nat.blt i 215) (.selects RX3 yX3_readDebt yX3_readDebt : Cond) (.methodLink RX3 61 yX3_readSpan : Cond)))) (cond (Nat.blt i 220) (cond (Nat.blt i 218) (cond (Nat.blt i 217) (.instanceMethod yX3_readSpan : Cond) (.selects RX3 yX3_readSpan yX3_readSpan : Cond)) (cond (Nat.blt i 219) (.code yX3_readItem cX3_readItem 2 (some .boolean) : Cond) (.methodLink RX3 31 Lib.Math.min.name : Cond))) (cond (Nat.blt i 222) (cond (Nat.blt i 221) (.static Lib.Math.min.name : Cond) (.initialized "java/lang/Math" : Cond)) (cond (Nat.blt i 223) (.code Lib.Math.min.name Lib.Math.min.code 2 (some .int) : Cond) (.instanceMethod yX0_empty : Cond))))))
noncomputable def wTb_7 (i : Nat) : Cond := (cond (Nat.blt i 240) (cond (Nat.blt i 232) (cond (Nat.blt i 228) (cond (Nat.blt i 226) (cond (Nat.blt i 225) (.selects RX0 yX0_empty yX0_empty : Cond) (.methodLink RX3 45 yX3_readItem : Cond)) (cond (Nat.blt i 227) (.instanceMethod yX3_readItem : Cond) (.selects RX3 yX3_readItem yX3_readItem : Cond))) (cond (Nat.blt i 230) (cond (Nat.blt i 229) (.code yX3_read cX3_read 6 (some .int) : Cond) (.code yX4_init cX4_init 1 none : Cond)) (cond (Nat.blt i 231) (.methodLink RX4 3 objectInit : Cond) (.classLink RX4 9 RX1 : Cond)))) (cond (Nat.blt i 236) (cond (Nat.blt i 234) (cond (Nat.blt i 233) (.instantiable RX1 3 : Cond) (.fieldLink RX4 12 "ChildCoins$Rows" "trial" "LChildCoins$Now;" : Cond)) (cond (Nat.blt i 235) (.fieldLink RX4 18 "ChildCoins$Rows" "row" "[I" : Cond) (.fieldLink RX4 22 "ChildCoins$Rows" "best" "[I" : Cond))) (cond (Nat.blt i 238) (cond (Nat.blt i 237) (.fieldLink RX4 25 "ChildCoins$Rows" "bestLength" "I" : Cond) (.instanceMethod yX1_init : Cond)) (cond (Nat.blt i 239) (.code yX4_noteRow cX4_noteRow 2 none : Cond) (.methodLink RX4 85 arraycopyName : Cond))))) (cond (Nat.blt i 248) (cond (Nat.blt i 244) (cond (Nat.blt i 242) (cond (Nat.blt i 241) (.code yJ6_bitCount_0f7a4 cJ6_bitCount_0f7a4 1 (some .int) : Cond) (.constant RJ6 265 (1431655765) : Cond)) (cond (Nat.blt i 243) (.constant RJ6 266 (858993459) : Cond) (.constant RJ6 267 (252645135) : Cond))) (cond (Nat.blt i 246) (cond (Nat.blt i 245) (.methodLink RX4 37 yX4_noteRow : Cond) (.instanceMethod yX4_noteRow : Cond)) (cond (Nat.blt i 247) (.selects RX4 yX4_noteRow yX4_noteRow : Cond) (.initialized RX4 : Cond)))) (cond (Nat.blt i 252) (cond (Nat.blt i 250) (cond (Nat.blt i 249) (.instanceMethod yX1_openBits : Cond) (.selects RX1 yX1_openBits yX1_openBits : Cond)) (cond (Nat.blt i 251) (.methodLink RX4 50 yJ6_bitCount_0f7a4 : Cond) (.static yJ6_bitCount_0f7a4 : Cond))) (cond (Nat.blt i 254) (cond (Nat.blt i 253) (.initialized RJ6 : Cond) (.instanceMethod yX1_isOpen : Cond)) (cond (Nat.blt i 255) (.selects RX1 yX1_isOpen yX1_isOpen : Cond) (.instanceMethod yX2_settles : Cond))))))
noncomputable def wTb_8 (i : Nat) : Cond := (cond (Nat.blt i 272) (cond (Nat.blt i 264) (cond (Nat.blt i 260) (cond (Nat.blt i 258) (cond (Nat.blt i 257) (.selects RX2 yX2_settles yX2_settles : Cond) (.instanceMethod yX1_remember : Cond)) (cond (Nat.blt i 259) (.selects RX1 yX1_remember yX1_remember : Cond) (.instanceMethod yX1_settle : Cond))) (cond (Nat.blt i 262) (cond (Nat.blt i 261) (.selects RX1 yX1_settle yX1_settle : Cond) (.methodLink RX4 33 yX4_extend : Cond)) (cond (Nat.blt i 263) (.static yX4_extend : Cond) (.instanceMethod yX1_stepBack : Cond)))) (cond (Nat.blt i 268) (cond (Nat.blt i 266) (cond (Nat.blt i 265) (.selects RX1 yX1_stepBack yX1_stepBack : Cond) (.code yX4_extend cX4_extend 6 none : Cond)) (cond (Nat.blt i 267) (.instanceMethod yX1_becomeAnew : Cond) (.selects RX1 yX1_becomeAnew yX1_becomeAnew : Cond))) (cond (Nat.blt i 270) (cond (Nat.blt i 269) (.code yX4_search cX4_search 4 none : Cond) (.code yX5_init cX5_init 1 none : Cond)) (cond (Nat.blt i 271) (.methodLink RX5 3 objectInit : Cond) (.fieldLink RX5 9 "ChildCoins$World" "stock" "[I" : Cond))))) (cond (Nat.blt i 280) (cond (Nat.blt i 276) (cond (Nat.blt i 274) (cond (Nat.blt i 273) (.fieldLink RX5 15 "ChildCoins$World" "worth" "[I" : Cond) (.fieldLink RX5 18 "ChildCoins$World" "coins" "I" : Cond)) (cond (Nat.blt i 275) (.fieldLink RX5 22 "ChildCoins$World" "sum" "I" : Cond) (.instanceMethod yX1_inAll : Cond))) (cond (Nat.blt i 278) (cond (Nat.blt i 277) (.selects RX1 yX1_inAll yX1_inAll : Cond) (.code yX5_gather cX5_gather 6 none : Cond)) (cond (Nat.blt i 279) (.code yX5_paysWithout cX5_paysWithout 7 (some .boolean) : Cond) (.code yX5_fewestKindsToCorner cX5_fewestKindsToCorner 3 (some .int) : Cond)))) (cond (Nat.blt i 284) (cond (Nat.blt i 282) (cond (Nat.blt i 281) (.methodLink RX5 44 yX5_paysWithout : Cond) (.instanceMethod yX5_paysWithout : Cond)) (cond (Nat.blt i 283) (.selects RX5 yX5_paysWithout yX5_paysWithout : Cond) (.initialized RX5 : Cond))) (cond (Nat.blt i 286) (cond (Nat.blt i 285) (.methodLink RX5 48 yJ6_bitCount_0f7a4 : Cond) (.code yX5_chance cX5_chance 5 (some .int) : Cond)) (cond (Nat.blt i 287) (.code yX5_oddsUpper cX5_oddsUpper 4 (some .int) : Cond) (.methodLink RX5 53 yX5_chance : Cond))))))
noncomputable def wTb_9 (i : Nat) : Cond := (cond (Nat.blt i 304) (cond (Nat.blt i 296) (cond (Nat.blt i 292) (cond (Nat.blt i 290) (cond (Nat.blt i 289) (.instanceMethod yX5_chance : Cond) (.selects RX5 yX5_chance yX5_chance : Cond)) (cond (Nat.blt i 291) (.code yX5_oddsLower cX5_oddsLower 3 (some .int) : Cond) (.methodLink RX6 1 objectInit : Cond))) (cond (Nat.blt i 294) (cond (Nat.blt i 293) (.fieldLink RX6 9 "ChildCoins" "text" "[I" : Cond) (.fieldLink RX6 13 "ChildCoins" "typed" "I" : Cond)) (cond (Nat.blt i 295) (.classLink RX6 17 RX3 : Cond) (.instantiable RX3 6 : Cond)))) (cond (Nat.blt i 300) (cond (Nat.blt i 298) (cond (Nat.blt i 297) (.fieldLink RX6 20 "ChildCoins" "reader" "LChildCoins$Reader;" : Cond) (.classLink RX6 24 RX0 : Cond)) (cond (Nat.blt i 299) (.instantiable RX0 12 : Cond) (.fieldLink RX6 27 "ChildCoins" "ours" "LChildCoins$Land;" : Cond))) (cond (Nat.blt i 302) (cond (Nat.blt i 301) (.fieldLink RX6 31 "ChildCoins" "draft" "LChildCoins$Land;" : Cond) (.classLink RX6 34 RX1 : Cond)) (cond (Nat.blt i 303) (.fieldLink RX6 37 "ChildCoins" "present" "LChildCoins$Now;" : Cond) (.fieldLink RX6 41 "ChildCoins" "images" "[LChildCoins$Now;" : Cond))))) (cond (Nat.blt i 312) (cond (Nat.blt i 308) (cond (Nat.blt i 306) (cond (Nat.blt i 305) (.fieldLink RX6 45 "ChildCoins" "keptImages" "I" : Cond) (.classLink RX6 48 RX2 : Cond)) (cond (Nat.blt i 307) (.instantiable RX2 4 : Cond) (.fieldLink RX6 51 "ChildCoins" "payment" "LChildCoins$Payment;" : Cond))) (cond (Nat.blt i 310) (cond (Nat.blt i 309) (.classLink RX6 55 RX5 : Cond) (.instantiable RX5 4 : Cond)) (cond (Nat.blt i 311) (.fieldLink RX6 58 "ChildCoins" "world" "LChildCoins$World;" : Cond) (.classLink RX6 62 RX4 : Cond)))) (cond (Nat.blt i 316) (cond (Nat.blt i 314) (cond (Nat.blt i 313) (.instantiable RX4 4 : Cond) (.fieldLink RX6 65 "ChildCoins" "rows" "LChildCoins$Rows;" : Cond)) (cond (Nat.blt i 315) (.fieldLink RX6 69 "ChildCoins" "taken" "[I" : Cond) (.fieldLink RX6 72 "ChildCoins" "takenCount" "I" : Cond))) (cond (Nat.blt i 318) (cond (Nat.blt i 317) (.fieldLink RX6 75 "ChildCoins" "traced" "J" : Cond) (.instanceMethod yX3_init : Cond)) (cond (Nat.blt i 319) (.instanceMethod yX0_init : Cond) (.instanceMethod yX2_init : Cond))))))
noncomputable def wTb_10 (i : Nat) : Cond := (cond (Nat.blt i 336) (cond (Nat.blt i 328) (cond (Nat.blt i 324) (cond (Nat.blt i 322) (cond (Nat.blt i 321) (.instanceMethod yX5_init : Cond) (.instanceMethod yX4_init : Cond)) (cond (Nat.blt i 323) (.code yX6_init cX6_init 1 none : Cond) (.code yX6_type cX6_type 2 (some .int) : Cond))) (cond (Nat.blt i 326) (cond (Nat.blt i 325) (.code yX6_clear cX6_clear 2 (some .int) : Cond) (.instanceMethod yX3_read : Cond)) (cond (Nat.blt i 327) (.selects RX3 yX3_read yX3_read : Cond) (.instanceMethod yX1_begin : Cond)))) (cond (Nat.blt i 332) (cond (Nat.blt i 330) (cond (Nat.blt i 329) (.selects RX1 yX1_begin yX1_begin : Cond) (.code yX6_land cX6_land 3 (some .int) : Cond)) (cond (Nat.blt i 331) (.instanceMethod yX0_hasCoin : Cond) (.selects RX0 yX0_hasCoin yX0_hasCoin : Cond))) (cond (Nat.blt i 334) (cond (Nat.blt i 333) (.instanceMethod yX0_peopleFor : Cond) (.selects RX0 yX0_peopleFor yX0_peopleFor : Cond)) (cond (Nat.blt i 335) (.code yX6_coin cX6_coin 3 (some .int) : Cond) (.code yX6_wealth cX6_wealth 4 (some .int) : Cond))))) (cond (Nat.blt i 344) (cond (Nat.blt i 340) (cond (Nat.blt i 338) (cond (Nat.blt i 337) (.code yX6_ease cX6_ease 4 (some .int) : Cond) (.instanceMethod yX0_hasPerson : Cond)) (cond (Nat.blt i 339) (.selects RX0 yX0_hasPerson yX0_hasPerson : Cond) (.instanceMethod yX0_coinsFor : Cond))) (cond (Nat.blt i 342) (cond (Nat.blt i 341) (.selects RX0 yX0_coinsFor yX0_coinsFor : Cond) (.methodLink RX6 113 yX6_wealth : Cond)) (cond (Nat.blt i 343) (.instanceMethod yX6_wealth : Cond) (.selects RX6 yX6_wealth yX6_wealth : Cond)))) (cond (Nat.blt i 348) (cond (Nat.blt i 346) (cond (Nat.blt i 345) (.initialized RX6 : Cond) (.methodLink RX6 116 yX6_ease : Cond)) (cond (Nat.blt i 347) (.instanceMethod yX6_ease : Cond) (.selects RX6 yX6_ease yX6_ease : Cond))) (cond (Nat.blt i 350) (cond (Nat.blt i 349) (.code yX6_person cX6_person 3 (some .int) : Cond) (.code yX6_holds cX6_holds 3 (some .int) : Cond)) (cond (Nat.blt i 351) (.code yX6_findPayment cX6_findPayment 2 (some .boolean) : Cond) (.instanceMethod yX5_gather : Cond))))))
noncomputable def wTb_11 (i : Nat) : Cond := (cond (Nat.blt i 368) (cond (Nat.blt i 360) (cond (Nat.blt i 356) (cond (Nat.blt i 354) (cond (Nat.blt i 353) (.selects RX5 yX5_gather yX5_gather : Cond) (.code yX6_worldPays cX6_worldPays 2 (some .boolean) : Cond)) (cond (Nat.blt i 355) (.code yX6_heirs cX6_heirs 4 (some .int) : Cond) (.instanceMethod yX0_hasDebt : Cond))) (cond (Nat.blt i 358) (cond (Nat.blt i 357) (.selects RX0 yX0_hasDebt yX0_hasDebt : Cond) (.methodLink RX6 138 yX6_findPayment : Cond)) (cond (Nat.blt i 359) (.instanceMethod yX6_findPayment : Cond) (.selects RX6 yX6_findPayment yX6_findPayment : Cond)))) (cond (Nat.blt i 364) (cond (Nat.blt i 362) (cond (Nat.blt i 361) (.methodLink RX6 144 yX6_worldPays : Cond) (.instanceMethod yX6_worldPays : Cond)) (cond (Nat.blt i 363) (.selects RX6 yX6_worldPays yX6_worldPays : Cond) (.methodLink RX6 147 yX6_heirs : Cond))) (cond (Nat.blt i 366) (cond (Nat.blt i 365) (.instanceMethod yX6_heirs : Cond) (.selects RX6 yX6_heirs yX6_heirs : Cond)) (cond (Nat.blt i 367) (.code yX6_debt cX6_debt 3 (some .int) : Cond) (.code yX6_pays cX6_pays 2 (some .int) : Cond))))) (cond (Nat.blt i 376) (cond (Nat.blt i 372) (cond (Nat.blt i 370) (cond (Nat.blt i 369) (.code yX6_trades cX6_trades 5 (some .int) : Cond) (.code yX6_loses cX6_loses 3 (some .int) : Cond)) (cond (Nat.blt i 371) (.code yX6_finds cX6_finds 3 (some .int) : Cond) (.instanceMethod yX1_setCreditor : Cond))) (cond (Nat.blt i 374) (cond (Nat.blt i 373) (.selects RX1 yX1_setCreditor yX1_setCreditor : Cond) (.code yX6_passes cX6_passes 4 (some .int) : Cond)) (cond (Nat.blt i 375) (.code yX6_undo cX6_undo 1 (some .int) : Cond) (.code yX6_helpless cX6_helpless 3 (some .int) : Cond)))) (cond (Nat.blt i 380) (cond (Nat.blt i 378) (cond (Nat.blt i 377) (.code yX6_allWealth cX6_allWealth 3 (some .int) : Cond) (.code yX6_openSums cX6_openSums 3 (some .int) : Cond)) (cond (Nat.blt i 379) (.methodLink RX6 182 yX6_helpless : Cond) (.instanceMethod yX6_helpless : Cond))) (cond (Nat.blt i 382) (cond (Nat.blt i 381) (.selects RX6 yX6_helpless yX6_helpless : Cond) (.methodLink RX6 185 yX6_allWealth : Cond)) (cond (Nat.blt i 383) (.instanceMethod yX6_allWealth : Cond) (.selects RX6 yX6_allWealth yX6_allWealth : Cond))))))
noncomputable def wTb_12 (i : Nat) : Cond := (cond (Nat.blt i 400) (cond (Nat.blt i 392) (cond (Nat.blt i 388) (cond (Nat.blt i 386) (cond (Nat.blt i 385) (.methodLink RX6 188 yX6_openSums : Cond) (.instanceMethod yX6_openSums : Cond)) (cond (Nat.blt i 387) (.selects RX6 yX6_openSums yX6_openSums : Cond) (.code yX6_now cX6_now 2 (some .int) : Cond))) (cond (Nat.blt i 390) (cond (Nat.blt i 389) (.code yX6_pieces cX6_pieces 3 (some .int) : Cond) (.instanceMethod yX4_search : Cond)) (cond (Nat.blt i 391) (.selects RX4 yX4_search yX4_search : Cond) (.code yX6_order cX6_order 2 (some .int) : Cond)))) (cond (Nat.blt i 396) (cond (Nat.blt i 394) (cond (Nat.blt i 393) (.instanceMethod yX1_holdsAnything : Cond) (.selects RX1 yX1_holdsAnything yX1_holdsAnything : Cond)) (cond (Nat.blt i 395) (.code yX6_lender cX6_lender 6 (some .int) : Cond) (.instanceMethod yX5_fewestKindsToCorner : Cond))) (cond (Nat.blt i 398) (cond (Nat.blt i 397) (.selects RX5 yX5_fewestKindsToCorner yX5_fewestKindsToCorner : Cond) (.code yX6_corner cX6_corner 2 (some .int) : Cond)) (cond (Nat.blt i 399) (.code yX6_commonDivisor cX6_commonDivisor 6 (some .int) : Cond) (.instanceMethod yX5_oddsUpper : Cond))))) (cond (Nat.blt i 408) (cond (Nat.blt i 404) (cond (Nat.blt i 402) (cond (Nat.blt i 401) (.selects RX5 yX5_oddsUpper yX5_oddsUpper : Cond) (.instanceMethod yX5_oddsLower : Cond)) (cond (Nat.blt i 403) (.selects RX5 yX5_oddsLower yX5_oddsLower : Cond) (.methodLink RX6 220 yX6_commonDivisor : Cond))) (cond (Nat.blt i 406) (cond (Nat.blt i 405) (.static yX6_commonDivisor : Cond) (.code yX6_odds cX6_odds 7 (some .int) : Cond)) (cond (Nat.blt i 407) (.code yX6_took cX6_took 2 (some .int) : Cond) (.code yX6_forget cX6_forget 2 (some .int) : Cond)))) (cond (Nat.blt i 412) (cond (Nat.blt i 410) (cond (Nat.blt i 409) (.code yX6_allTakenDoFor cX6_allTakenDoFor 3 (some .boolean) : Cond) (.code yX6_years cX6_years 6 (some .int) : Cond)) (cond (Nat.blt i 411) (.methodLink RX6 223 yX6_allTakenDoFor : Cond) (.instanceMethod yX6_allTakenDoFor : Cond))) (cond (Nat.blt i 414) (cond (Nat.blt i 413) (.selects RX6 yX6_allTakenDoFor yX6_allTakenDoFor : Cond) (.code yX6_asCoin cX6_asCoin 2 (some .int) : Cond)) (cond (Nat.blt i 415) (.code yX6_asGroat cX6_asGroat 2 (some .int) : Cond) (.constantLong RX6 276 (10) : Cond))))))
noncomputable def wTb_13 (i : Nat) : Cond := (cond (Nat.blt i 432) (cond (Nat.blt i 424) (cond (Nat.blt i 420) (cond (Nat.blt i 418) (cond (Nat.blt i 417) (.methodLink RX6 227 yX6_asCoin : Cond) (.instanceMethod yX6_asCoin : Cond)) (cond (Nat.blt i 419) (.selects RX6 yX6_asCoin yX6_asCoin : Cond) (.code yX6_asSixpence cX6_asSixpence 2 (some .int) : Cond))) (cond (Nat.blt i 422) (cond (Nat.blt i 421) (.constantLong RX6 278 (100) : Cond) (.code yX6_asFour cX6_asFour 2 (some .int) : Cond)) (cond (Nat.blt i 423) (.constantLong RX6 280 (1000) : Cond) (.methodLink RX6 230 yX6_asGroat : Cond)))) (cond (Nat.blt i 428) (cond (Nat.blt i 426) (cond (Nat.blt i 425) (.instanceMethod yX6_asGroat : Cond) (.selects RX6 yX6_asGroat yX6_asGroat : Cond)) (cond (Nat.blt i 427) (.constantLong RX6 282 (10000) : Cond) (.methodLink RX6 233 yX6_asSixpence : Cond))) (cond (Nat.blt i 430) (cond (Nat.blt i 429) (.instanceMethod yX6_asSixpence : Cond) (.selects RX6 yX6_asSixpence yX6_asSixpence : Cond)) (cond (Nat.blt i 431) (.methodLink RX6 249 yJ6_bitCount_0f7a4 : Cond) (.code yX6_asWidow cX6_asWidow 2 (some .int) : Cond))))) (cond (Nat.blt i 440) (cond (Nat.blt i 436) (cond (Nat.blt i 434) (cond (Nat.blt i 433) (.code yX6_asFake cX6_asFake 2 (some .int) : Cond) (.constantLong RX6 284 (100000) : Cond)) (cond (Nat.blt i 435) (.constant RX6 226 (-1000000) : Cond) (.methodLink RX6 236 yX6_asFour : Cond))) (cond (Nat.blt i 438) (cond (Nat.blt i 437) (.instanceMethod yX6_asFour : Cond) (.selects RX6 yX6_asFour yX6_asFour : Cond)) (cond (Nat.blt i 439) (.methodLink RX6 239 yX6_asWidow : Cond) (.instanceMethod yX6_asWidow : Cond)))) (cond (Nat.blt i 444) (cond (Nat.blt i 442) (cond (Nat.blt i 441) (.selects RX6 yX6_asWidow yX6_asWidow : Cond) (.methodLink RX6 242 yX6_asFake : Cond)) (cond (Nat.blt i 443) (.instanceMethod yX6_asFake : Cond) (.selects RX6 yX6_asFake yX6_asFake : Cond))) (cond (Nat.blt i 446) (cond (Nat.blt i 445) (.code yX6_mark cX6_mark 3 (some .int) : Cond) (.code yX6_keep cX6_keep 2 (some .int) : Cond)) (cond (Nat.blt i 447) (.instanceMethod yX1_become : Cond) (.selects RX1 yX1_become yX1_become : Cond))))))
noncomputable def wTb_14 (i : Nat) : Cond := (cond (Nat.blt i 464) (cond (Nat.blt i 456) (cond (Nat.blt i 452) (cond (Nat.blt i 450) (cond (Nat.blt i 449) (.code yX6_back cX6_back 2 (some .int) : Cond) (.code yX6_count cX6_count 2 (some .int) : Cond)) (cond (Nat.blt i 451) (.code yX6_trace cX6_trace 1 (some .long) : Cond) (.code yX7_plain cX7_plain 2 none : Cond))) (cond (Nat.blt i 454) (cond (Nat.blt i 453) (.fieldLink RX7 13 "ChildCoinsModel" "coins" "[I" : Cond) (.fieldLink RX7 23 "ChildCoinsModel" "people" "[I" : Cond)) (cond (Nat.blt i 455) (.fieldLink RX7 32 "ChildCoinsModel" "debts" "[I" : Cond) (.fieldLink RX7 44 "ChildCoinsModel" "span" "[I" : Cond)))) (cond (Nat.blt i 460) (cond (Nat.blt i 458) (cond (Nat.blt i 457) (.fieldLink RX7 112 "ChildCoinsModel" "spanTold" "Z" : Cond) (.fieldLink RX7 29 "ChildCoinsModel" "draftHolds" "[I" : Cond)) (cond (Nat.blt i 459) (.code yX7_takeDraft cX7_takeDraft 2 none : Cond) (.fieldLink RX7 17 "ChildCoinsModel" "struck" "[I" : Cond))) (cond (Nat.blt i 462) (cond (Nat.blt i 461) (.fieldLink RX7 20 "ChildCoinsModel" "worth" "[I" : Cond) (.fieldLink RX7 26 "ChildCoinsModel" "born" "[I" : Cond)) (cond (Nat.blt i 463) (.fieldLink RX7 35 "ChildCoinsModel" "debtor" "[I" : Cond) (.fieldLink RX7 41 "ChildCoinsModel" "owed" "[I" : Cond))))) (cond (Nat.blt i 472) (cond (Nat.blt i 468) (cond (Nat.blt i 466) (cond (Nat.blt i 465) (.fieldLink RX7 47 "ChildCoinsModel" "now" "[I" : Cond) (.fieldLink RX7 38 "ChildCoinsModel" "draftCreditor" "[I" : Cond)) (cond (Nat.blt i 467) (.fieldLink RX7 120 "ChildCoinsModel" "told" "I" : Cond) (.fieldLink RX7 50 "ChildCoinsModel" "isKept" "[Z" : Cond))) (cond (Nat.blt i 470) (cond (Nat.blt i 469) (.methodLink RX7 1 objectInit : Cond) (.arrayClass .byte : Cond)) (cond (Nat.blt i 471) (.fieldLink RX7 7 "ChildCoinsModel" "text" "[B" : Cond) (.arrayClass .boolean : Cond)))) (cond (Nat.blt i 476) (cond (Nat.blt i 474) (cond (Nat.blt i 473) (.fieldLink RX7 54 "ChildCoinsModel" "tried" "[I" : Cond) (.fieldLink RX7 57 "ChildCoinsModel" "there" "[I" : Cond)) (cond (Nat.blt i 475) (.fieldLink RX7 60 "ChildCoinsModel" "fewest" "[I" : Cond) (.fieldLink RX7 63 "ChildCoinsModel" "paid" "[I" : Cond))) (cond (Nat.blt i 478) (cond (Nat.blt i 477) (.fieldLink RX7 66 "ChildCoinsModel" "row" "[I" : Cond) (.fieldLink RX7 69 "ChildCoinsModel" "toldCoin" "[I" : Cond)) (cond (Nat.blt i 479) (.methodLink RX7 72 yX7_plain : Cond) (.instanceMethod yX7_plain : Cond))))))
noncomputable def wTb_15 (i : Nat) : Cond := (cond (Nat.blt i 496) (cond (Nat.blt i 488) (cond (Nat.blt i 484) (cond (Nat.blt i 482) (cond (Nat.blt i 481) (.selects RX7 yX7_plain yX7_plain : Cond) (.initialized RX7 : Cond)) (cond (Nat.blt i 483) (.methodLink RX7 75 yX7_takeDraft : Cond) (.instanceMethod yX7_takeDraft : Cond))) (cond (Nat.blt i 486) (cond (Nat.blt i 485) (.selects RX7 yX7_takeDraft yX7_takeDraft : Cond) (.code yX7_init cX7_init 1 none : Cond)) (cond (Nat.blt i 487) (.code yX7_in cX7_in 3 (some .boolean) : Cond) (.code yX7_type cX7_type 2 (some .int) : Cond)))) (cond (Nat.blt i 492) (cond (Nat.blt i 490) (cond (Nat.blt i 489) (.fieldLink RX7 82 "ChildCoinsModel" "typed" "I" : Cond) (.methodLink RX7 78 yX7_in : Cond)) (cond (Nat.blt i 491) (.static yX7_in : Cond) (.code yX7_clear cX7_clear 2 (some .int) : Cond))) (cond (Nat.blt i 494) (cond (Nat.blt i 493) (.code yX7_here cX7_here 1 (some .int) : Cond) (.fieldLink RX7 86 "ChildCoinsModel" "at" "I" : Cond)) (cond (Nat.blt i 495) (.code yX7_step cX7_step 2 none : Cond) (.fieldLink RX7 93 "ChildCoinsModel" "start" "I" : Cond))))) (cond (Nat.blt i 504) (cond (Nat.blt i 500) (cond (Nat.blt i 498) (cond (Nat.blt i 497) (.fieldLink RX7 96 "ChildCoinsModel" "value" "I" : Cond) (.fieldLink RX7 99 "ChildCoinsModel" "sort" "I" : Cond)) (cond (Nat.blt i 499) (.methodLink RX7 89 yX7_here : Cond) (.instanceMethod yX7_here : Cond))) (cond (Nat.blt i 502) (cond (Nat.blt i 501) (.selects RX7 yX7_here yX7_here : Cond) (.code yX7_due cX7_due 3 (some .int) : Cond)) (cond (Nat.blt i 503) (.fieldLink RX7 102 "ChildCoinsModel" "fault" "I" : Cond) (.methodLink RX7 105 yX7_step : Cond)))) (cond (Nat.blt i 508) (cond (Nat.blt i 506) (cond (Nat.blt i 505) (.instanceMethod yX7_step : Cond) (.selects RX7 yX7_step yX7_step : Cond)) (cond (Nat.blt i 507) (.code yX7_number cX7_number 3 (some .int) : Cond) (.methodLink RX7 108 yX7_due : Cond))) (cond (Nat.blt i 510) (cond (Nat.blt i 509) (.instanceMethod yX7_due : Cond) (.selects RX7 yX7_due yX7_due : Cond)) (cond (Nat.blt i 511) (.code yX7_mayBe cX7_mayBe 2 (some .boolean) : Cond) (.methodLink RX7 116 yX7_number : Cond))))))
noncomputable def wTb_16 (i : Nat) : Cond := (cond (Nat.blt i 528) (cond (Nat.blt i 520) (cond (Nat.blt i 516) (cond (Nat.blt i 514) (cond (Nat.blt i 513) (.instanceMethod yX7_number : Cond) (.selects RX7 yX7_number yX7_number : Cond)) (cond (Nat.blt i 515) (.code yX7_readRow cX7_readRow 5 none : Cond) (.methodLink RX7 123 yX7_mayBe : Cond))) (cond (Nat.blt i 518) (cond (Nat.blt i 517) (.instanceMethod yX7_mayBe : Cond) (.selects RX7 yX7_mayBe yX7_mayBe : Cond)) (cond (Nat.blt i 519) (.methodLink RX7 127 yX7_readRow : Cond) (.instanceMethod yX7_readRow : Cond)))) (cond (Nat.blt i 524) (cond (Nat.blt i 522) (cond (Nat.blt i 521) (.selects RX7 yX7_readRow yX7_readRow : Cond) (.code yX7_land cX7_land 3 (some .int) : Cond)) (cond (Nat.blt i 523) (.code yX7_take cX7_take 2 none : Cond) (.code yX7_isCoin cX7_isCoin 2 (some .boolean) : Cond))) (cond (Nat.blt i 526) (cond (Nat.blt i 525) (.code yX7_isPerson cX7_isPerson 2 (some .boolean) : Cond) (.code yX7_isDebt cX7_isDebt 2 (some .boolean) : Cond)) (cond (Nat.blt i 527) (.code yX7_isOpen cX7_isOpen 3 (some .boolean) : Cond) (.code yX7_manyOf cX7_manyOf 3 (some .int) : Cond))))) (cond (Nat.blt i 536) (cond (Nat.blt i 532) (cond (Nat.blt i 530) (cond (Nat.blt i 529) (.code yX7_isGoodIn cX7_isGoodIn 3 (some .boolean) : Cond) (.code yX7_does cX7_does 3 (some .boolean) : Cond)) (cond (Nat.blt i 531) (.methodLink RX7 131 yX7_isGoodIn : Cond) (.instanceMethod yX7_isGoodIn : Cond))) (cond (Nat.blt i 534) (cond (Nat.blt i 533) (.selects RX7 yX7_isGoodIn yX7_isGoodIn : Cond) (.code yX7_allOf cX7_allOf 4 (some .int) : Cond)) (cond (Nat.blt i 535) (.code yX7_ease cX7_ease 4 (some .int) : Cond) (.methodLink RX7 135 yX7_does : Cond)))) (cond (Nat.blt i 540) (cond (Nat.blt i 538) (cond (Nat.blt i 537) (.instanceMethod yX7_does : Cond) (.selects RX7 yX7_does yX7_does : Cond)) (cond (Nat.blt i 539) (.methodLink RX7 138 yX7_allOf : Cond) (.instanceMethod yX7_allOf : Cond))) (cond (Nat.blt i 542) (cond (Nat.blt i 541) (.selects RX7 yX7_allOf yX7_allOf : Cond) (.code yX7_hasOf cX7_hasOf 4 (some .int) : Cond)) (cond (Nat.blt i 543) (.methodLink RX7 142 yX7_isCoin : Cond) (.instanceMethod yX7_isCoin : Cond))))))
noncomputable def wTb_17 (i : Nat) : Cond := (cond (Nat.blt i 560) (cond (Nat.blt i 552) (cond (Nat.blt i 548) (cond (Nat.blt i 546) (cond (Nat.blt i 545) (.selects RX7 yX7_isCoin yX7_isCoin : Cond) (.code yX7_coin cX7_coin 5 (some .int) : Cond)) (cond (Nat.blt i 547) (.methodLink RX7 145 yX7_isPerson : Cond) (.instanceMethod yX7_isPerson : Cond))) (cond (Nat.blt i 550) (cond (Nat.blt i 549) (.selects RX7 yX7_isPerson yX7_isPerson : Cond) (.methodLink RX7 148 yX7_hasOf : Cond)) (cond (Nat.blt i 551) (.instanceMethod yX7_hasOf : Cond) (.selects RX7 yX7_hasOf yX7_hasOf : Cond)))) (cond (Nat.blt i 556) (cond (Nat.blt i 554) (cond (Nat.blt i 553) (.methodLink RX7 151 yX7_ease : Cond) (.instanceMethod yX7_ease : Cond)) (cond (Nat.blt i 555) (.selects RX7 yX7_ease yX7_ease : Cond) (.code yX7_person cX7_person 5 (some .int) : Cond))) (cond (Nat.blt i 558) (cond (Nat.blt i 557) (.code yX7_holds cX7_holds 3 (some .int) : Cond) (.code yX7_takeHolds cX7_takeHolds 5 none : Cond)) (cond (Nat.blt i 559) (.code yX7_takeWorld cX7_takeWorld 5 none : Cond) (.code yX7_payment cX7_payment 7 (some .int) : Cond))))) (cond (Nat.blt i 568) (cond (Nat.blt i 564) (cond (Nat.blt i 562) (cond (Nat.blt i 561) (.methodLink RX7 154 yX7_takeHolds : Cond) (.instanceMethod yX7_takeHolds : Cond)) (cond (Nat.blt i 563) (.selects RX7 yX7_takeHolds yX7_takeHolds : Cond) (.methodLink RX7 158 yX7_payment : Cond))) (cond (Nat.blt i 566) (cond (Nat.blt i 565) (.instanceMethod yX7_payment : Cond) (.selects RX7 yX7_payment yX7_payment : Cond)) (cond (Nat.blt i 567) (.code yX7_paymentOf cX7_paymentOf 3 (some .int) : Cond) (.methodLink RX7 161 yX7_takeWorld : Cond)))) (cond (Nat.blt i 572) (cond (Nat.blt i 570) (cond (Nat.blt i 569) (.instanceMethod yX7_takeWorld : Cond) (.selects RX7 yX7_takeWorld yX7_takeWorld : Cond)) (cond (Nat.blt i 571) (.code yX7_canWorld cX7_canWorld 3 (some .boolean) : Cond) (.code yX7_heirs cX7_heirs 4 (some .int) : Cond))) (cond (Nat.blt i 574) (cond (Nat.blt i 573) (.methodLink RX7 165 yX7_isDebt : Cond) (.instanceMethod yX7_isDebt : Cond)) (cond (Nat.blt i 575) (.selects RX7 yX7_isDebt yX7_isDebt : Cond) (.methodLink RX7 168 yX7_isOpen : Cond))))))
noncomputable def wTb_18 (i : Nat) : Cond := (cond (Nat.blt i 592) (cond (Nat.blt i 584) (cond (Nat.blt i 580) (cond (Nat.blt i 578) (cond (Nat.blt i 577) (.instanceMethod yX7_isOpen : Cond) (.selects RX7 yX7_isOpen yX7_isOpen : Cond)) (cond (Nat.blt i 579) (.methodLink RX7 172 yX7_paymentOf : Cond) (.instanceMethod yX7_paymentOf : Cond))) (cond (Nat.blt i 582) (cond (Nat.blt i 581) (.selects RX7 yX7_paymentOf yX7_paymentOf : Cond) (.methodLink RX7 176 yX7_canWorld : Cond)) (cond (Nat.blt i 583) (.instanceMethod yX7_canWorld : Cond) (.selects RX7 yX7_canWorld yX7_canWorld : Cond)))) (cond (Nat.blt i 588) (cond (Nat.blt i 586) (cond (Nat.blt i 585) (.methodLink RX7 179 yX7_heirs : Cond) (.instanceMethod yX7_heirs : Cond)) (cond (Nat.blt i 587) (.selects RX7 yX7_heirs yX7_heirs : Cond) (.code yX7_debt cX7_debt 3 (some .int) : Cond))) (cond (Nat.blt i 590) (cond (Nat.blt i 589) (.code yX7_know cX7_know 2 none : Cond) (.code yX7_canPay cX7_canPay 5 (some .boolean) : Cond)) (cond (Nat.blt i 591) (.code yX7_pay cX7_pay 4 none : Cond) (.methodLink RX7 182 yX7_canPay : Cond))))) (cond (Nat.blt i 600) (cond (Nat.blt i 596) (cond (Nat.blt i 594) (cond (Nat.blt i 593) (.instanceMethod yX7_canPay : Cond) (.selects RX7 yX7_canPay yX7_canPay : Cond)) (cond (Nat.blt i 595) (.methodLink RX7 185 yX7_know : Cond) (.instanceMethod yX7_know : Cond))) (cond (Nat.blt i 598) (cond (Nat.blt i 597) (.selects RX7 yX7_know yX7_know : Cond) (.methodLink RX7 188 yX7_pay : Cond)) (cond (Nat.blt i 599) (.instanceMethod yX7_pay : Cond) (.selects RX7 yX7_pay yX7_pay : Cond)))) (cond (Nat.blt i 604) (cond (Nat.blt i 602) (cond (Nat.blt i 601) (.code yX7_pays cX7_pays 4 (some .int) : Cond) (.code yX7_trades cX7_trades 6 (some .int) : Cond)) (cond (Nat.blt i 603) (.code yX7_loses cX7_loses 3 (some .int) : Cond) (.code yX7_finds cX7_finds 3 (some .int) : Cond))) (cond (Nat.blt i 606) (cond (Nat.blt i 605) (.code yX7_passes cX7_passes 4 (some .int) : Cond) (.code yX7_undo cX7_undo 2 (some .int) : Cond)) (cond (Nat.blt i 607) (.code yX7_now cX7_now 4 (some .int) : Cond) (.code yX7_pieces cX7_pieces 3 (some .int) : Cond))))))
noncomputable def wTb_19 (i : Nat) : Cond := (cond (Nat.blt i 624) (cond (Nat.blt i 616) (cond (Nat.blt i 612) (cond (Nat.blt i 610) (cond (Nat.blt i 609) (.code yX7_isRow cX7_isRow 7 (some .boolean) : Cond) (.methodLink RX7 192 yX7_take : Cond)) (cond (Nat.blt i 611) (.instanceMethod yX7_take : Cond) (.selects RX7 yX7_take yX7_take : Cond))) (cond (Nat.blt i 614) (cond (Nat.blt i 613) (.code yX7_doesGo cX7_doesGo 3 (some .boolean) : Cond) (.methodLink RX7 195 yX7_manyOf : Cond)) (cond (Nat.blt i 615) (.static yX7_manyOf : Cond) (.methodLink RX7 198 yX7_isRow : Cond)))) (cond (Nat.blt i 620) (cond (Nat.blt i 618) (cond (Nat.blt i 617) (.instanceMethod yX7_isRow : Cond) (.selects RX7 yX7_isRow yX7_isRow : Cond)) (cond (Nat.blt i 619) (.methodLink RX7 201 yX7_doesGo : Cond) (.instanceMethod yX7_doesGo : Cond))) (cond (Nat.blt i 622) (cond (Nat.blt i 621) (.selects RX7 yX7_doesGo yX7_doesGo : Cond) (.code yX7_findRow cX7_findRow 4 (some .int) : Cond)) (cond (Nat.blt i 623) (.methodLink RX7 204 yX7_findRow : Cond) (.instanceMethod yX7_findRow : Cond))))) (cond (Nat.blt i 632) (cond (Nat.blt i 628) (cond (Nat.blt i 626) (cond (Nat.blt i 625) (.selects RX7 yX7_findRow yX7_findRow : Cond) (.code yX7_order cX7_order 3 (some .int) : Cond)) (cond (Nat.blt i 627) (.code yX7_lender cX7_lender 5 (some .int) : Cond) (.code yX7_corner cX7_corner 5 (some .int) : Cond))) (cond (Nat.blt i 630) (cond (Nat.blt i 629) (.code yX7_odds cX7_odds 9 (some .int) : Cond) (.code yX7_took cX7_took 2 (some .int) : Cond)) (cond (Nat.blt i 631) (.code yX7_forget cX7_forget 2 (some .int) : Cond) (.code yX7_years cX7_years 8 (some .int) : Cond)))) (cond (Nat.blt i 636) (cond (Nat.blt i 634) (cond (Nat.blt i 633) (.constant RX7 207 (-1000000) : Cond) (.fieldLink RX7 208 "ChildCoinsModel" "trace" "J" : Cond)) (cond (Nat.blt i 635) (.constantLong RX7 212 (11) : Cond) (.constantLong RX7 214 (101) : Cond))) (cond (Nat.blt i 638) (cond (Nat.blt i 637) (.constantLong RX7 216 (1011) : Cond) (.constantLong RX7 218 (10101) : Cond)) (cond (Nat.blt i 639) (.constantLong RX7 223 (100001) : Cond) (.methodLink RX7 220 yX7_coin : Cond))))))
noncomputable def wTb_20 (i : Nat) : Cond := (cond (Nat.blt i 656) (cond (Nat.blt i 648) (cond (Nat.blt i 644) (cond (Nat.blt i 642) (cond (Nat.blt i 641) (.instanceMethod yX7_coin : Cond) (.selects RX7 yX7_coin yX7_coin : Cond)) (cond (Nat.blt i 643) (.code yX7_mark cX7_mark 5 (some .int) : Cond) (.code yX7_keep cX7_keep 3 (some .int) : Cond))) (cond (Nat.blt i 646) (cond (Nat.blt i 645) (.code yX7_back cX7_back 3 (some .int) : Cond) (.code yX7_count cX7_count 2 (some .int) : Cond)) (cond (Nat.blt i 647) (.code yX7_trace cX7_trace 1 (some .long) : Cond) (.classLink RL 7 RX6 : Cond)))) (cond (Nat.blt i 652) (cond (Nat.blt i 650) (cond (Nat.blt i 649) (.instantiable RX6 14 : Cond) (.classLink RL 10 RX7 : Cond)) (cond (Nat.blt i 651) (.instantiable RX7 29 : Cond) (.methodLink RL 9 yX6_init : Cond))) (cond (Nat.blt i 654) (cond (Nat.blt i 653) (.instanceMethod yX6_init : Cond) (.methodLink RL 12 yX7_init : Cond)) (cond (Nat.blt i 655) (.instanceMethod yX7_init : Cond) (.methodLink RL 13 yX6_type : Cond))))) (cond (Nat.blt i 664) (cond (Nat.blt i 660) (cond (Nat.blt i 658) (cond (Nat.blt i 657) (.instanceMethod yX6_type : Cond) (.selects RX6 yX6_type yX6_type : Cond)) (cond (Nat.blt i 659) (.methodLink RL 17 yX7_type : Cond) (.instanceMethod yX7_type : Cond))) (cond (Nat.blt i 662) (cond (Nat.blt i 661) (.selects RX7 yX7_type yX7_type : Cond) (.methodLink RL 18 yX6_clear : Cond)) (cond (Nat.blt i 663) (.instanceMethod yX6_clear : Cond) (.selects RX6 yX6_clear yX6_clear : Cond)))) (cond (Nat.blt i 668) (cond (Nat.blt i 666) (cond (Nat.blt i 665) (.methodLink RL 22 yX7_clear : Cond) (.instanceMethod yX7_clear : Cond)) (cond (Nat.blt i 667) (.selects RX7 yX7_clear yX7_clear : Cond) (.methodLink RL 23 yX6_land : Cond))) (cond (Nat.blt i 670) (cond (Nat.blt i 669) (.instanceMethod yX6_land : Cond) (.selects RX6 yX6_land yX6_land : Cond)) (cond (Nat.blt i 671) (.methodLink RL 26 yX7_land : Cond) (.instanceMethod yX7_land : Cond))))))
noncomputable def wTb_21 (i : Nat) : Cond := (cond (Nat.blt i 688) (cond (Nat.blt i 680) (cond (Nat.blt i 676) (cond (Nat.blt i 674) (cond (Nat.blt i 673) (.selects RX7 yX7_land yX7_land : Cond) (.methodLink RL 27 yX6_coin : Cond)) (cond (Nat.blt i 675) (.instanceMethod yX6_coin : Cond) (.selects RX6 yX6_coin yX6_coin : Cond))) (cond (Nat.blt i 678) (cond (Nat.blt i 677) (.methodLink RL 31 yX7_coin : Cond) (.methodLink RL 32 yX6_person : Cond)) (cond (Nat.blt i 679) (.instanceMethod yX6_person : Cond) (.selects RX6 yX6_person yX6_person : Cond)))) (cond (Nat.blt i 684) (cond (Nat.blt i 682) (cond (Nat.blt i 681) (.methodLink RL 35 yX7_person : Cond) (.instanceMethod yX7_person : Cond)) (cond (Nat.blt i 683) (.selects RX7 yX7_person yX7_person : Cond) (.methodLink RL 36 yX6_holds : Cond))) (cond (Nat.blt i 686) (cond (Nat.blt i 685) (.instanceMethod yX6_holds : Cond) (.selects RX6 yX6_holds yX6_holds : Cond)) (cond (Nat.blt i 687) (.methodLink RL 39 yX7_holds : Cond) (.instanceMethod yX7_holds : Cond))))) (cond (Nat.blt i 696) (cond (Nat.blt i 692) (cond (Nat.blt i 690) (cond (Nat.blt i 689) (.selects RX7 yX7_holds yX7_holds : Cond) (.methodLink RL 40 yX6_debt : Cond)) (cond (Nat.blt i 691) (.instanceMethod yX6_debt : Cond) (.selects RX6 yX6_debt yX6_debt : Cond))) (cond (Nat.blt i 694) (cond (Nat.blt i 693) (.methodLink RL 43 yX7_debt : Cond) (.instanceMethod yX7_debt : Cond)) (cond (Nat.blt i 695) (.selects RX7 yX7_debt yX7_debt : Cond) (.methodLink RL 44 yX6_pays : Cond)))) (cond (Nat.blt i 700) (cond (Nat.blt i 698) (cond (Nat.blt i 697) (.instanceMethod yX6_pays : Cond) (.selects RX6 yX6_pays yX6_pays : Cond)) (cond (Nat.blt i 699) (.methodLink RL 47 yX7_pays : Cond) (.instanceMethod yX7_pays : Cond))) (cond (Nat.blt i 702) (cond (Nat.blt i 701) (.selects RX7 yX7_pays yX7_pays : Cond) (.methodLink RL 48 yX6_trades : Cond)) (cond (Nat.blt i 703) (.instanceMethod yX6_trades : Cond) (.selects RX6 yX6_trades yX6_trades : Cond))))))
noncomputable def wTb_22 (i : Nat) : Cond := (cond (Nat.blt i 720) (cond (Nat.blt i 712) (cond (Nat.blt i 708) (cond (Nat.blt i 706) (cond (Nat.blt i 705) (.methodLink RL 52 yX7_trades : Cond) (.instanceMethod yX7_trades : Cond)) (cond (Nat.blt i 707) (.selects RX7 yX7_trades yX7_trades : Cond) (.methodLink RL 53 yX6_loses : Cond))) (cond (Nat.blt i 710) (cond (Nat.blt i 709) (.instanceMethod yX6_loses : Cond) (.selects RX6 yX6_loses yX6_loses : Cond)) (cond (Nat.blt i 711) (.methodLink RL 56 yX7_loses : Cond) (.instanceMethod yX7_loses : Cond)))) (cond (Nat.blt i 716) (cond (Nat.blt i 714) (cond (Nat.blt i 713) (.selects RX7 yX7_loses yX7_loses : Cond) (.methodLink RL 57 yX6_finds : Cond)) (cond (Nat.blt i 715) (.instanceMethod yX6_finds : Cond) (.selects RX6 yX6_finds yX6_finds : Cond))) (cond (Nat.blt i 718) (cond (Nat.blt i 717) (.methodLink RL 60 yX7_finds : Cond) (.instanceMethod yX7_finds : Cond)) (cond (Nat.blt i 719) (.selects RX7 yX7_finds yX7_finds : Cond) (.methodLink RL 61 yX6_passes : Cond))))) (cond (Nat.blt i 728) (cond (Nat.blt i 724) (cond (Nat.blt i 722) (cond (Nat.blt i 721) (.instanceMethod yX6_passes : Cond) (.selects RX6 yX6_passes yX6_passes : Cond)) (cond (Nat.blt i 723) (.methodLink RL 64 yX7_passes : Cond) (.instanceMethod yX7_passes : Cond))) (cond (Nat.blt i 726) (cond (Nat.blt i 725) (.selects RX7 yX7_passes yX7_passes : Cond) (.methodLink RL 65 yX6_undo : Cond)) (cond (Nat.blt i 727) (.instanceMethod yX6_undo : Cond) (.selects RX6 yX6_undo yX6_undo : Cond)))) (cond (Nat.blt i 732) (cond (Nat.blt i 730) (cond (Nat.blt i 729) (.methodLink RL 68 yX7_undo : Cond) (.instanceMethod yX7_undo : Cond)) (cond (Nat.blt i 731) (.selects RX7 yX7_undo yX7_undo : Cond) (.methodLink RL 69 yX6_now : Cond))) (cond (Nat.blt i 734) (cond (Nat.blt i 733) (.instanceMethod yX6_now : Cond) (.selects RX6 yX6_now yX6_now : Cond)) (cond (Nat.blt i 735) (.methodLink RL 72 yX7_now : Cond) (.instanceMethod yX7_now : Cond))))))
noncomputable def wTb_23 (i : Nat) : Cond := (cond (Nat.blt i 752) (cond (Nat.blt i 744) (cond (Nat.blt i 740) (cond (Nat.blt i 738) (cond (Nat.blt i 737) (.selects RX7 yX7_now yX7_now : Cond) (.methodLink RL 73 yX6_pieces : Cond)) (cond (Nat.blt i 739) (.instanceMethod yX6_pieces : Cond) (.selects RX6 yX6_pieces yX6_pieces : Cond))) (cond (Nat.blt i 742) (cond (Nat.blt i 741) (.methodLink RL 76 yX7_pieces : Cond) (.instanceMethod yX7_pieces : Cond)) (cond (Nat.blt i 743) (.selects RX7 yX7_pieces yX7_pieces : Cond) (.methodLink RL 77 yX6_order : Cond)))) (cond (Nat.blt i 748) (cond (Nat.blt i 746) (cond (Nat.blt i 745) (.instanceMethod yX6_order : Cond) (.selects RX6 yX6_order yX6_order : Cond)) (cond (Nat.blt i 747) (.methodLink RL 80 yX7_order : Cond) (.instanceMethod yX7_order : Cond))) (cond (Nat.blt i 750) (cond (Nat.blt i 749) (.selects RX7 yX7_order yX7_order : Cond) (.methodLink RL 81 yX6_lender : Cond)) (cond (Nat.blt i 751) (.instanceMethod yX6_lender : Cond) (.selects RX6 yX6_lender yX6_lender : Cond))))) (cond (Nat.blt i 760) (cond (Nat.blt i 756) (cond (Nat.blt i 754) (cond (Nat.blt i 753) (.methodLink RL 84 yX7_lender : Cond) (.instanceMethod yX7_lender : Cond)) (cond (Nat.blt i 755) (.selects RX7 yX7_lender yX7_lender : Cond) (.methodLink RL 85 yX6_corner : Cond))) (cond (Nat.blt i 758) (cond (Nat.blt i 757) (.instanceMethod yX6_corner : Cond) (.selects RX6 yX6_corner yX6_corner : Cond)) (cond (Nat.blt i 759) (.methodLink RL 88 yX7_corner : Cond) (.instanceMethod yX7_corner : Cond)))) (cond (Nat.blt i 764) (cond (Nat.blt i 762) (cond (Nat.blt i 761) (.selects RX7 yX7_corner yX7_corner : Cond) (.methodLink RL 89 yX6_odds : Cond)) (cond (Nat.blt i 763) (.instanceMethod yX6_odds : Cond) (.selects RX6 yX6_odds yX6_odds : Cond))) (cond (Nat.blt i 766) (cond (Nat.blt i 765) (.methodLink RL 93 yX7_odds : Cond) (.instanceMethod yX7_odds : Cond)) (cond (Nat.blt i 767) (.selects RX7 yX7_odds yX7_odds : Cond) (.methodLink RL 94 yX6_took : Cond))))))
noncomputable def wTb_24 (i : Nat) : Cond := (cond (Nat.blt i 784) (cond (Nat.blt i 776) (cond (Nat.blt i 772) (cond (Nat.blt i 770) (cond (Nat.blt i 769) (.instanceMethod yX6_took : Cond) (.selects RX6 yX6_took yX6_took : Cond)) (cond (Nat.blt i 771) (.methodLink RL 97 yX7_took : Cond) (.instanceMethod yX7_took : Cond))) (cond (Nat.blt i 774) (cond (Nat.blt i 773) (.selects RX7 yX7_took yX7_took : Cond) (.methodLink RL 98 yX6_forget : Cond)) (cond (Nat.blt i 775) (.instanceMethod yX6_forget : Cond) (.selects RX6 yX6_forget yX6_forget : Cond)))) (cond (Nat.blt i 780) (cond (Nat.blt i 778) (cond (Nat.blt i 777) (.methodLink RL 101 yX7_forget : Cond) (.instanceMethod yX7_forget : Cond)) (cond (Nat.blt i 779) (.selects RX7 yX7_forget yX7_forget : Cond) (.methodLink RL 102 yX6_years : Cond))) (cond (Nat.blt i 782) (cond (Nat.blt i 781) (.instanceMethod yX6_years : Cond) (.selects RX6 yX6_years yX6_years : Cond)) (cond (Nat.blt i 783) (.methodLink RL 105 yX7_years : Cond) (.instanceMethod yX7_years : Cond))))) (cond (Nat.blt i 792) (cond (Nat.blt i 788) (cond (Nat.blt i 786) (cond (Nat.blt i 785) (.selects RX7 yX7_years yX7_years : Cond) (.methodLink RL 106 yX6_mark : Cond)) (cond (Nat.blt i 787) (.instanceMethod yX6_mark : Cond) (.selects RX6 yX6_mark yX6_mark : Cond))) (cond (Nat.blt i 790) (cond (Nat.blt i 789) (.methodLink RL 109 yX7_mark : Cond) (.instanceMethod yX7_mark : Cond)) (cond (Nat.blt i 791) (.selects RX7 yX7_mark yX7_mark : Cond) (.methodLink RL 110 yX6_keep : Cond)))) (cond (Nat.blt i 796) (cond (Nat.blt i 794) (cond (Nat.blt i 793) (.instanceMethod yX6_keep : Cond) (.selects RX6 yX6_keep yX6_keep : Cond)) (cond (Nat.blt i 795) (.methodLink RL 113 yX7_keep : Cond) (.instanceMethod yX7_keep : Cond))) (cond (Nat.blt i 798) (cond (Nat.blt i 797) (.selects RX7 yX7_keep yX7_keep : Cond) (.methodLink RL 114 yX6_back : Cond)) (cond (Nat.blt i 799) (.instanceMethod yX6_back : Cond) (.selects RX6 yX6_back yX6_back : Cond))))))
noncomputable def wTb_25 (i : Nat) : Cond := (cond (Nat.blt i 807) (cond (Nat.blt i 803) (cond (Nat.blt i 801) (.methodLink RL 117 yX7_back : Cond) (cond (Nat.blt i 802) (.instanceMethod yX7_back : Cond) (.selects RX7 yX7_back yX7_back : Cond))) (cond (Nat.blt i 805) (cond (Nat.blt i 804) (.methodLink RL 118 yX6_count : Cond) (.instanceMethod yX6_count : Cond)) (cond (Nat.blt i 806) (.selects RX6 yX6_count yX6_count : Cond) (.methodLink RL 121 yX7_count : Cond)))) (cond (Nat.blt i 811) (cond (Nat.blt i 809) (cond (Nat.blt i 808) (.instanceMethod yX7_count : Cond) (.selects RX7 yX7_count yX7_count : Cond)) (cond (Nat.blt i 810) (.methodLink RL 122 yX6_trace : Cond) (.instanceMethod yX6_trace : Cond))) (cond (Nat.blt i 813) (cond (Nat.blt i 812) (.selects RX6 yX6_trace yX6_trace : Cond) (.methodLink RL 126 yX7_trace : Cond)) (cond (Nat.blt i 814) (.instanceMethod yX7_trace : Cond) (.selects RX7 yX7_trace yX7_trace : Cond)))))
noncomputable def wTb (i : Nat) : Cond := (cond (Nat.blt i 416) (cond (Nat.blt i 192) (cond (Nat.blt i 96) (cond (Nat.blt i 32) (wTb_0 i) (cond (Nat.blt i 64) (wTb_1 i) (wTb_2 i))) (cond (Nat.blt i 128) (wTb_3 i) (cond (Nat.blt i 160) (wTb_4 i) (wTb_5 i)))) (cond (Nat.blt i 288) (cond (Nat.blt i 224) (wTb_6 i) (cond (Nat.blt i 256) (wTb_7 i) (wTb_8 i))) (cond (Nat.blt i 352) (cond (Nat.blt i 320) (wTb_9 i) (wTb_10 i)) (cond (Nat.blt i 384) (wTb_11 i) (wTb_12 i))))) (cond (Nat.blt i 608) (cond (Nat.blt i 512) (cond (Nat.blt i 448) (wTb_13 i) (cond (Nat.blt i 480) (wTb_14 i) (wTb_15 i))) (cond (Nat.blt i 544) (wTb_16 i) (cond (Nat.blt i 576) (wTb_17 i) (wTb_18 i)))) (cond (Nat.blt i 704) (cond (Nat.blt i 640) (wTb_19 i) (cond (Nat.blt i 672) (wTb_20 i) (wTb_21 i))) (cond (Nat.blt i 768) (cond (Nat.blt i 736) (wTb_22 i) (wTb_23 i)) (cond (Nat.blt i 800) (wTb_24 i) (wTb_25 i))))))
set_option maxRecDepth 100000 in
theorem wTb_all : ((List.range 815).all fun i => goodWord (wTb i)) = true := by decide +kernel
theorem wTb_good (i : Nat) (h : i < 815) : goodWord (wTb i) = true := List.all_eq_true.mp wTb_all i (List.mem_range.mpr h)
theorem Ids.app {a b : List Cond} {x y : List Nat} (h1 : a = x.map wTb) (h2 : b = y.map wTb) : a ++ b = (x ++ y).map wTb := by rw [h1, h2, List.map_append]
theorem Ids.cons {w : Cond} {a : List Cond} {k : Nat} {x : List Nat} (h1 : w = wTb k) (h2 : a = x.map wTb) : w :: a = (k :: x).map wTb := by rw [h1, h2]; rfl
def mkm : List Nat → Nat
  | [] => 0
  | k :: x => 2 ^ k ||| mkm x
theorem mkm_mem {i : Nat} : ∀ {a : List Nat}, Nat.testBit (mkm a) i = true → i ∈ a
  | [], h => by rw [show mkm [] = 0 from rfl, Nat.zero_testBit] at h; exact absurd h (by decide)
  | k :: x, h => by
    rw [show mkm (k :: x) = 2 ^ k ||| mkm x from rfl, Nat.testBit_or, Bool.or_eq_true] at h
    rcases h with h | h
    · rw [Nat.testBit_two_pow] at h
      rw [of_decide_eq_true h]; exact List.mem_cons_self
    · exact List.mem_cons_of_mem _ (mkm_mem h)
def okm (m : Nat) (b : List Nat) : Bool := b.all fun i => Nat.blt i 815 && Nat.testBit m i
theorem gd_ids {A B : List Cond} {a b : List Nat} {m : Nat} (hA : A = a.map wTb) (hm : mkm a = m) (hB : B = b.map wTb) (h : okm m b = true) : GoodIn A B := by
  intro w hw
  rw [hB] at hw
  obtain ⟨i, hi, e⟩ := List.mem_map.mp hw
  have h1 := List.all_eq_true.mp h i hi
  rw [Bool.and_eq_true] at h1
  subst e
  exact ⟨by rw [hA]; exact List.mem_map.mpr ⟨i, mkm_mem (by rw [hm]; exact h1.2), rfl⟩, good_of_word (wTb_good i (Nat.le_of_ble_eq_true h1.1))⟩
set_option maxRecDepth 20000 in
noncomputable def wn_X00 : List Nat := [0, 1, 2, 3, 4, 5, 6, 7, 8, 9, 10, 11]
set_option maxRecDepth 20000 in
theorem wi_X00 : wsX00 = wn_X00.map wTb := rfl
set_option maxRecDepth 20000 in
noncomputable def wn_X10 : List Nat := [12, 13, 14]
set_option maxRecDepth 20000 in
theorem wi_X10 : wsX10 = wn_X10.map wTb := rfl
set_option maxRecDepth 20000 in
noncomputable def wn_X20 : List Nat := [15, 16, 17, 18]
set_option maxRecDepth 20000 in
theorem wi_X20 : wsX20 = wn_X20.map wTb := rfl
set_option maxRecDepth 20000 in
noncomputable def wn_X30 : List Nat := [19, 20, 21, 22, 23, 24]
set_option maxRecDepth 20000 in
theorem wi_X30 : wsX30 = wn_X30.map wTb := rfl
set_option maxRecDepth 20000 in
noncomputable def wn_X40 : List Nat := [25, 26, 27, 28]
set_option maxRecDepth 20000 in
theorem wi_X40 : wsX40 = wn_X40.map wTb := rfl
set_option maxRecDepth 20000 in
noncomputable def wn_X50 : List Nat := [29, 30, 31, 32]
set_option maxRecDepth 20000 in
theorem wi_X50 : wsX50 = wn_X50.map wTb := rfl
set_option maxRecDepth 20000 in
noncomputable def wn_X60 : List Nat := [33, 34, 35, 36, 37, 38, 39, 40, 41, 42, 43, 44, 45, 46]
set_option maxRecDepth 20000 in
theorem wi_X60 : wsX60 = wn_X60.map wTb := rfl
set_option maxRecDepth 20000 in
noncomputable def wn_X70 : List Nat := [47, 48, 49, 50, 51, 52, 53, 54, 55, 56, 57, 58, 59, 60, 61, 62, 63, 64, 65, 66, 67, 68, 69, 70, 71, 72, 73, 74, 75]
set_option maxRecDepth 20000 in
theorem wi_X70 : wsX70 = wn_X70.map wTb := rfl
set_option maxRecDepth 20000 in
noncomputable def wn_X0_init : List Nat := [76, 77, 78, 79, 80, 81, 82, 83, 84, 85, 86, 87, 88, 89, 90, 91, 92, 0, 1, 2, 3, 4, 5, 6, 7, 8, 9, 10, 11]
noncomputable def wsX0_init : List Cond := wn_X0_init.map wTb
theorem wi_X0_init : wsX0_init = wn_X0_init.map wTb := rfl
set_option maxRecDepth 20000 in
theorem wm_X0_init : mkm wn_X0_init = 9903444756419316284869578751 := by decide +kernel
set_option maxRecDepth 20000 in
noncomputable def wn_X0_empty : List Nat := [93, 80, 84, 87, 91, 92, 86, 0, 1, 2, 3, 4, 5, 6, 7, 8, 9, 10, 11]
noncomputable def wsX0_empty : List Cond := wn_X0_empty.map wTb
theorem wi_X0_empty : wsX0_empty = wn_X0_empty.map wTb := rfl
set_option maxRecDepth 20000 in
theorem wm_X0_empty : mkm wn_X0_empty = 17583826046294781346101334015 := by decide +kernel
set_option maxRecDepth 20000 in
noncomputable def wn_X0_hasCoin : List Nat := [94, 80, 0, 1, 2, 3, 4, 5, 6, 7, 8, 9, 10, 11]
noncomputable def wsX0_hasCoin : List Cond := wn_X0_hasCoin.map wTb
theorem wi_X0_hasCoin : wsX0_hasCoin = wn_X0_hasCoin.map wTb := rfl
set_option maxRecDepth 20000 in
theorem wm_X0_hasCoin : mkm wn_X0_hasCoin = 19808249554385699027560697855 := by decide +kernel
set_option maxRecDepth 20000 in
noncomputable def wn_X0_hasPerson : List Nat := [95, 84, 0, 1, 2, 3, 4, 5, 6, 7, 8, 9, 10, 11]
noncomputable def wsX0_hasPerson : List Cond := wn_X0_hasPerson.map wTb
theorem wi_X0_hasPerson : wsX0_hasPerson = wn_X0_hasPerson.map wTb := rfl
set_option maxRecDepth 20000 in
theorem wm_X0_hasPerson : mkm wn_X0_hasPerson = 39633424070246002863567278079 := by decide +kernel
set_option maxRecDepth 20000 in
noncomputable def wn_X0_hasDebt : List Nat := [96, 87, 0, 1, 2, 3, 4, 5, 6, 7, 8, 9, 10, 11]
noncomputable def wsX0_hasDebt : List Cond := wn_X0_hasDebt.map wTb
theorem wi_X0_hasDebt : wsX0_hasDebt = wn_X0_hasDebt.map wTb := rfl
set_option maxRecDepth 20000 in
theorem wm_X0_hasDebt : mkm wn_X0_hasDebt = 79382905019175010127906344959 := by decide +kernel
set_option maxRecDepth 20000 in
noncomputable def wn_X0_isAbout : List Nat := [97, 82, 91, 0, 1, 2, 3, 4, 5, 6, 7, 8, 9, 10, 11]
noncomputable def wsX0_isAbout : List Cond := wn_X0_isAbout.map wTb
theorem wi_X0_isAbout : wsX0_isAbout = wn_X0_isAbout.map wTb := rfl
set_option maxRecDepth 20000 in
theorem wm_X0_isAbout : mkm wn_X0_isAbout = 160937040810377894253584977919 := by decide +kernel
set_option maxRecDepth 20000 in
noncomputable def wn_X0_does : List Nat := [98, 85, 99, 100, 101, 102, 97, 82, 91, 0, 1, 2, 3, 4, 5, 6, 7, 8, 9, 10, 11]
noncomputable def wsX0_does : List Cond := wn_X0_does.map wTb
theorem wi_X0_does : wsX0_does = wn_X0_does.map wTb := rfl
set_option maxRecDepth 20000 in
theorem wm_X0_does : mkm wn_X0_does = 9985267878205383423986625417215 := by decide +kernel
set_option maxRecDepth 20000 in
noncomputable def wn_X0_peopleFor : List Nat := [103, 84, 104, 105, 106, 102, 98, 85, 99, 100, 101, 97, 82, 91, 0, 1, 2, 3, 4, 5, 6, 7, 8, 9, 10, 11]
noncomputable def wsX0_peopleFor : List Cond := wn_X0_peopleFor.map wTb
theorem wi_X0_peopleFor : wsX0_peopleFor = wn_X0_peopleFor.map wTb := rfl
set_option maxRecDepth 20000 in
theorem wm_X0_peopleFor : mkm wn_X0_peopleFor = 162103359248406025437657805361151 := by decide +kernel
set_option maxRecDepth 20000 in
noncomputable def wn_X0_coinsFor : List Nat := [107, 80, 104, 105, 106, 102, 98, 85, 99, 100, 101, 97, 82, 91, 0, 1, 2, 3, 4, 5, 6, 7, 8, 9, 10, 11]
noncomputable def wsX0_coinsFor : List Cond := wn_X0_coinsFor.map wTb
theorem wi_X0_coinsFor : wsX0_coinsFor = wn_X0_coinsFor.map wTb := rfl
set_option maxRecDepth 20000 in
theorem wm_X0_coinsFor : mkm wn_X0_coinsFor = 314221413141906259397824569413631 := by decide +kernel
set_option maxRecDepth 20000 in
noncomputable def wn_X1_init : List Nat := [108, 109, 78, 79, 81, 110, 111, 112, 12, 13, 14]
noncomputable def wsX1_init : List Cond := wn_X1_init.map wTb
theorem wi_X1_init : wsX1_init = wn_X1_init.map wTb := rfl
set_option maxRecDepth 20000 in
theorem wm_X1_init : mkm wn_X1_init = 10060075166735774534218066868334592 := by decide +kernel
set_option maxRecDepth 20000 in
noncomputable def wn_X1_begin : List Nat := [113, 110, 114, 115, 116, 117, 112, 0, 1, 2, 3, 4, 5, 6, 7, 8, 9, 10, 11, 12, 13, 14]
noncomputable def wsX1_begin : List Cond := wn_X1_begin.map wTb
theorem wi_X1_begin : wsX1_begin = wn_X1_begin.map wTb := rfl
set_option maxRecDepth 20000 in
theorem wm_X1_begin : mkm wn_X1_begin = 328412776302327847504553892823203839 := by decide +kernel
set_option maxRecDepth 20000 in
noncomputable def wn_X1_become : List Nat := [118, 110, 114, 115, 116, 117, 111, 112, 12, 13, 14]
noncomputable def wsX1_become : List Cond := wn_X1_become.map wTb
theorem wi_X1_become : wsX1_become = wn_X1_become.map wTb := rfl
set_option maxRecDepth 20000 in
theorem wm_X1_become : mkm wn_X1_become = 652931329960754574287709913399455744 := by decide +kernel
set_option maxRecDepth 20000 in
noncomputable def wn_X1_becomeAnew : List Nat := [119, 110, 114, 115, 116, 117, 112, 12, 13, 14]
noncomputable def wsX1_becomeAnew : List Cond := wn_X1_becomeAnew.map wTb
theorem wi_X1_becomeAnew : wsX1_becomeAnew = wn_X1_becomeAnew.map wTb := rfl
set_option maxRecDepth 20000 in
theorem wm_X1_becomeAnew : mkm wn_X1_becomeAnew = 982642180477716128699396430304931840 := by decide +kernel
set_option maxRecDepth 20000 in
noncomputable def wn_X1_remember : List Nat := [120, 112, 111, 114, 115, 116, 117, 110, 12, 13, 14]
noncomputable def wsX1_remember : List Cond := wn_X1_remember.map wTb
theorem wi_X1_remember : wsX1_remember = wn_X1_remember.map wTb := rfl
set_option maxRecDepth 20000 in
theorem wm_X1_remember : mkm wn_X1_remember = 1649852326799441478965565208609714176 := by decide +kernel
set_option maxRecDepth 20000 in
noncomputable def wn_X1_stepBack : List Nat := [121, 112, 111, 110, 114, 115, 116, 117, 12, 13, 14]
noncomputable def wsX1_stepBack : List Cond := wn_X1_stepBack.map wTb
theorem wi_X1_stepBack : wsX1_stepBack = wn_X1_stepBack.map wTb := rfl
set_option maxRecDepth 20000 in
theorem wm_X1_stepBack : mkm wn_X1_stepBack = 2979080322584357351869372268890058752 := by decide +kernel
set_option maxRecDepth 20000 in
noncomputable def wn_X1_held : List Nat := [122, 110, 12, 13, 14]
noncomputable def wsX1_held : List Cond := wn_X1_held.map wTb
theorem wi_X1_held : wsX1_held = wn_X1_held.map wTb := rfl
set_option maxRecDepth 20000 in
theorem wm_X1_held : mkm wn_X1_held = 5318210057354297198522360865203712000 := by decide +kernel
set_option maxRecDepth 20000 in
noncomputable def wn_X1_add : List Nat := [123, 110, 12, 13, 14]
noncomputable def wsX1_add : List Cond := wn_X1_add.map wTb
theorem wi_X1_add : wsX1_add = wn_X1_add.map wTb := rfl
set_option maxRecDepth 20000 in
theorem wm_X1_add : mkm wn_X1_add = 10635122040493960690137589106325090304 := by decide +kernel
set_option maxRecDepth 20000 in
noncomputable def wn_X1_inAll : List Nat := [124, 125, 126, 127, 128, 122, 110, 12, 13, 14]
noncomputable def wsX1_inAll : List Cond := wn_X1_inAll.map wTb
theorem wi_X1_inAll : wsX1_inAll = wn_X1_inAll.map wTb := rfl
set_option maxRecDepth 20000 in
theorem wm_X1_inAll : mkm wn_X1_inAll = 664615295966672570158810662764254621696 := by decide +kernel
set_option maxRecDepth 20000 in
noncomputable def wn_X1_holdsAnything : List Nat := [129, 125, 126, 127, 128, 122, 110, 12, 13, 14]
noncomputable def wsX1_holdsAnything : List Cond := wn_X1_holdsAnything.map wTb
theorem wi_X1_holdsAnything : wsX1_holdsAnything = wn_X1_holdsAnything.map wTb := rfl
set_option maxRecDepth 20000 in
theorem wm_X1_holdsAnything : mkm wn_X1_holdsAnything = 1323912381875990843119098964663305531392 := by decide +kernel
set_option maxRecDepth 20000 in
noncomputable def wn_X1_creditor : List Nat := [130, 110, 12, 13, 14]
noncomputable def wsX1_creditor : List Cond := wn_X1_creditor.map wTb
theorem wi_X1_creditor : wsX1_creditor = wn_X1_creditor.map wTb := rfl
set_option maxRecDepth 20000 in
theorem wm_X1_creditor : mkm wn_X1_creditor = 1361130765757968487560405562351155179520 := by decide +kernel
set_option maxRecDepth 20000 in
noncomputable def wn_X1_setCreditor : List Nat := [131, 110, 12, 13, 14]
noncomputable def wsX1_setCreditor : List Cond := wn_X1_setCreditor.map wTb
theorem wi_X1_setCreditor : wsX1_setCreditor = wn_X1_setCreditor.map wTb := rfl
set_option maxRecDepth 20000 in
theorem wm_X1_setCreditor : mkm wn_X1_setCreditor = 2722260233441722341413903992078228025344 := by decide +kernel
set_option maxRecDepth 20000 in
noncomputable def wn_X1_openBits : List Nat := [132, 110, 12, 13, 14]
noncomputable def wsX1_openBits : List Cond := wn_X1_openBits.map wTb
theorem wi_X1_openBits : wsX1_openBits = wn_X1_openBits.map wTb := rfl
set_option maxRecDepth 20000 in
theorem wm_X1_openBits : mkm wn_X1_openBits = 5444519168809230049120900851532373716992 := by decide +kernel
set_option maxRecDepth 20000 in
noncomputable def wn_X1_isOpen : List Nat := [133, 110, 12, 13, 14]
noncomputable def wsX1_isOpen : List Cond := wn_X1_isOpen.map wTb
theorem wi_X1_isOpen : wsX1_isOpen = wn_X1_isOpen.map wTb := rfl
set_option maxRecDepth 20000 in
theorem wm_X1_isOpen : mkm wn_X1_isOpen = 10889037039544245464534894570440665100288 := by decide +kernel
set_option maxRecDepth 20000 in
noncomputable def wn_X1_settle : List Nat := [134, 110, 135, 136, 137, 128, 130, 138, 139, 140, 123, 12, 13, 14]
noncomputable def wsX1_settle : List Cond := wn_X1_settle.map wTb
theorem wi_X1_settle : wsX1_settle = wn_X1_settle.map wTb := rfl
set_option maxRecDepth 20000 in
theorem wm_X1_settle : mkm wn_X1_settle = 2767527125290033017308315819831677188861952 := by decide +kernel
set_option maxRecDepth 20000 in
noncomputable def wn_X2_init : List Nat := [141, 142, 78, 79, 81, 143, 144, 145, 146, 15, 16, 17, 18]
noncomputable def wsX2_init : List Cond := wn_X2_init.map wTb
theorem wi_X2_init : wsX2_init = wn_X2_init.map wTb := rfl
set_option maxRecDepth 20000 in
theorem wm_X2_init : mkm wn_X2_init = 175618368438428657242918327401046077090529280 := by decide +kernel
set_option maxRecDepth 20000 in
noncomputable def wn_X2_fewestFrom : List Nat := [147, 148, 143, 145, 15, 16, 17, 18]
noncomputable def wsX2_fewestFrom : List Cond := wn_X2_fewestFrom.map wTb
theorem wi_X2_fewestFrom : wsX2_fewestFrom = wn_X2_fewestFrom.map wTb := rfl
set_option maxRecDepth 20000 in
theorem wm_X2_fewestFrom : mkm wn_X2_fewestFrom = 590969747761061513250696534225181579908972544 := by decide +kernel
set_option maxRecDepth 20000 in
noncomputable def wn_X2_fillFewest : List Nat := [149, 145, 148, 150, 151, 152, 153, 147, 143, 0, 1, 2, 3, 4, 5, 6, 7, 8, 9, 10, 11, 15, 16, 17, 18]
noncomputable def wsX2_fillFewest : List Cond := wn_X2_fillFewest.map wTb
theorem wi_X2_fillFewest : wsX2_fillFewest = wn_X2_fillFewest.map wTb := rfl
set_option maxRecDepth 20000 in
theorem wm_X2_fillFewest : mkm wn_X2_fillFewest = 22713308984703439669654129060692356193841549311 := by decide +kernel
set_option maxRecDepth 20000 in
noncomputable def wn_X2_choose : List Nat := [154, 145, 143, 144, 0, 1, 2, 3, 4, 5, 6, 7, 8, 9, 10, 11, 15, 16, 17, 18]
noncomputable def wsX2_choose : List Cond := wn_X2_choose.map wTb
theorem wi_X2_choose : wsX2_choose = wn_X2_choose.map wTb := rfl
set_option maxRecDepth 20000 in
theorem wm_X2_choose : mkm wn_X2_choose = 22914015691490215277927950525146191447395373055 := by decide +kernel
set_option maxRecDepth 20000 in
noncomputable def wn_X2_find : List Nat := [161, 143, 144, 145, 146, 148, 105, 102, 106, 98, 85, 99, 100, 101, 97, 82, 91, 126, 128, 127, 122, 110, 155, 156, 157, 153, 149, 150, 151, 152, 147, 158, 159, 160, 154, 0, 1, 2, 3, 4, 5, 6, 7, 8, 9, 10, 11, 15, 16, 17, 18, 12, 13, 14]
noncomputable def wsX2_find : List Cond := wn_X2_find.map wTb
theorem wi_X2_find : wsX2_find = wn_X2_find.map wTb := rfl
set_option maxRecDepth 20000 in
theorem wm_X2_find : mkm wn_X2_find = 5845995399551824891351890671380829645983908888575 := by decide +kernel
set_option maxRecDepth 20000 in
noncomputable def wn_X2_settles : List Nat := [165, 144, 162, 163, 164, 153, 161, 143, 145, 146, 148, 105, 102, 106, 98, 85, 99, 100, 101, 97, 82, 91, 126, 128, 127, 122, 110, 155, 156, 157, 149, 150, 151, 152, 147, 158, 159, 160, 154, 0, 1, 2, 3, 4, 5, 6, 7, 8, 9, 10, 11, 15, 16, 17, 18, 12, 13, 14]
noncomputable def wsX2_settles : List Cond := wn_X2_settles.map wTb
theorem wi_X2_settles : wsX2_settles = wn_X2_settles.map wTb := rfl
set_option maxRecDepth 20000 in
theorem wm_X2_settles : mkm wn_X2_settles = 93536093639405999983572980634357810825339861467135 := by decide +kernel
set_option maxRecDepth 20000 in
noncomputable def wn_X3_init : List Nat := [166, 167, 78, 79, 81, 168, 169, 170, 171, 172, 173, 19, 20, 21, 22, 23, 24]
noncomputable def wsX3_init : List Cond := wn_X3_init.map wTb
theorem wi_X3_init : wsX3_init = wn_X3_init.map wTb := rfl
set_option maxRecDepth 20000 in
theorem wm_X3_init : mkm wn_X3_init = 23851706721240335625084136473254284884725049364840448 := by decide +kernel
set_option maxRecDepth 20000 in
noncomputable def wn_X3_sortOf : List Nat := [174]
noncomputable def wsX3_sortOf : List Cond := wn_X3_sortOf.map wTb
theorem wi_X3_sortOf : wsX3_sortOf = wn_X3_sortOf.map wTb := rfl
set_option maxRecDepth 20000 in
noncomputable def wn_X3_weighLetters : List Nat := [175, 170, 171, 168, 173, 19, 20, 21, 22, 23, 24]
noncomputable def wsX3_weighLetters : List Cond := wn_X3_weighLetters.map wTb
theorem wi_X3_weighLetters : wsX3_weighLetters = wn_X3_weighLetters.map wTb := rfl
set_option maxRecDepth 20000 in
theorem wm_X3_weighLetters : mkm wn_X3_weighLetters = 64726984514111028441404793871338742374521940496351232 := by decide +kernel
set_option maxRecDepth 20000 in
noncomputable def wn_X3_weighNumber : List Nat := [176, 170, 171, 168, 172, 173, 19, 20, 21, 22, 23, 24]
noncomputable def wsX3_weighNumber : List Cond := wn_X3_weighNumber.map wTb
theorem wi_X3_weighNumber : wsX3_weighNumber = wn_X3_weighNumber.map wTb := rfl
set_option maxRecDepth 20000 in
theorem wm_X3_weighNumber : mkm wn_X3_weighNumber = 118603780872677433618065431544591799611118237760618496 := by decide +kernel
set_option maxRecDepth 20000 in
noncomputable def wn_X3_step : List Nat := [177, 170, 169, 168, 171, 173, 172, 178, 179, 180, 174, 181, 182, 183, 175, 184, 185, 186, 176, 19, 20, 21, 22, 23, 24]
noncomputable def wsX3_step : List Cond := wn_X3_step.map wTb
theorem wi_X3_step : wsX3_step = wn_X3_step.map wTb := rfl
set_option maxRecDepth 20000 in
theorem wm_X3_step : mkm wn_X3_step = 196159055086414617158721359331922400134745575720803106816 := by decide +kernel
set_option maxRecDepth 20000 in
noncomputable def wn_X3_readNumber : List Nat := [187, 172, 173, 188, 189, 190, 180, 177, 170, 169, 168, 171, 178, 179, 174, 181, 182, 183, 175, 184, 185, 186, 176, 19, 20, 21, 22, 23, 24]
noncomputable def wsX3_readNumber : List Cond := wn_X3_readNumber.map wTb
theorem wi_X3_readNumber : wsX3_readNumber = wn_X3_readNumber.map wTb := rfl
set_option maxRecDepth 20000 in
theorem wm_X3_readNumber : mkm wn_X3_readNumber = 3138550493548921225206747651460516032682724690313319284736 := by decide +kernel
set_option maxRecDepth 20000 in
noncomputable def wn_X3_readEnding : List Nat := [191, 172, 188, 189, 190, 180, 177, 170, 169, 168, 171, 173, 178, 179, 174, 181, 182, 183, 175, 184, 185, 186, 176, 19, 20, 21, 22, 23, 24]
noncomputable def wsX3_readEnding : List Cond := wn_X3_readEnding.map wTb
theorem wi_X3_readEnding : wsX3_readEnding = wn_X3_readEnding.map wTb := rfl
set_option maxRecDepth 20000 in
theorem wm_X3_readEnding : mkm wn_X3_readEnding = 6080941932011427833254773943589109665230703804905835462656 := by decide +kernel
set_option maxRecDepth 20000 in
noncomputable def wn_X3_readCoin : List Nat := [198, 173, 192, 193, 194, 180, 187, 172, 188, 189, 190, 177, 170, 169, 168, 171, 178, 179, 174, 181, 182, 183, 175, 184, 185, 186, 176, 195, 196, 197, 191, 0, 1, 2, 3, 4, 5, 6, 7, 8, 9, 10, 11, 19, 20, 21, 22, 23, 24]
noncomputable def wsX3_readCoin : List Cond := wn_X3_readCoin.map wTb
theorem wi_X3_readCoin : wsX3_readCoin = wn_X3_readCoin.map wTb := rfl
set_option maxRecDepth 20000 in
theorem wm_X3_readCoin : mkm wn_X3_readCoin = 803469021755350718614269899110437984085733043859477719683071 := by decide +kernel
set_option maxRecDepth 20000 in
noncomputable def wn_X3_readPerson : List Nat := [199, 173, 192, 193, 194, 180, 187, 172, 188, 189, 190, 177, 170, 169, 168, 171, 178, 179, 174, 181, 182, 183, 175, 184, 185, 186, 176, 195, 196, 197, 191, 0, 1, 2, 3, 4, 5, 6, 7, 8, 9, 10, 11, 19, 20, 21, 22, 23, 24]
noncomputable def wsX3_readPerson : List Cond := wn_X3_readPerson.map wTb
theorem wi_X3_readPerson : wsX3_readPerson = wn_X3_readPerson.map wTb := rfl
set_option maxRecDepth 20000 in
theorem wm_X3_readPerson : mkm wn_X3_readPerson = 1205203532820098287499760422195728634716283792305175928508415 := by decide +kernel
set_option maxRecDepth 20000 in
noncomputable def wn_X3_readHolds : List Nat := [200, 173, 192, 193, 194, 180, 187, 172, 188, 189, 190, 177, 170, 169, 168, 171, 178, 179, 174, 181, 182, 183, 175, 184, 185, 186, 176, 195, 196, 197, 191, 0, 1, 2, 3, 4, 5, 6, 7, 8, 9, 10, 11, 19, 20, 21, 22, 23, 24]
noncomputable def wsX3_readHolds : List Cond := wn_X3_readHolds.map wTb
theorem wi_X3_readHolds : wsX3_readHolds = wn_X3_readHolds.map wTb := rfl
set_option maxRecDepth 20000 in
theorem wm_X3_readHolds : mkm wn_X3_readHolds = 2008672554949593425270741468366309935977385289196572346159103 := by decide +kernel
set_option maxRecDepth 20000 in
noncomputable def wn_X3_readDebt : List Nat := [201, 173, 192, 193, 194, 180, 187, 172, 188, 189, 190, 177, 170, 169, 168, 171, 178, 179, 174, 181, 182, 183, 175, 184, 185, 186, 176, 195, 196, 197, 191, 0, 1, 2, 3, 4, 5, 6, 7, 8, 9, 10, 11, 19, 20, 21, 22, 23, 24]
noncomputable def wsX3_readDebt : List Cond := wn_X3_readDebt.map wTb
theorem wi_X3_readDebt : wsX3_readDebt = wn_X3_readDebt.map wTb := rfl
set_option maxRecDepth 20000 in
theorem wm_X3_readDebt : mkm wn_X3_readDebt = 3615610599208583700812703560707472538499588282979365181460479 := by decide +kernel
set_option maxRecDepth 20000 in
noncomputable def wn_X3_readSpan : List Nat := [202, 173, 192, 193, 194, 180, 187, 172, 188, 189, 190, 177, 170, 169, 168, 171, 178, 179, 174, 181, 182, 183, 175, 184, 185, 186, 176, 195, 196, 197, 191, 0, 1, 2, 3, 4, 5, 6, 7, 8, 9, 10, 11, 19, 20, 21, 22, 23, 24]
noncomputable def wsX3_readSpan : List Cond := wn_X3_readSpan.map wTb
theorem wi_X3_readSpan : wsX3_readSpan = wn_X3_readSpan.map wTb := rfl
set_option maxRecDepth 20000 in
theorem wm_X3_readSpan : mkm wn_X3_readSpan = 6829486687726564251896627745389797743543994270544950852063231 := by decide +kernel
set_option maxRecDepth 20000 in
noncomputable def wn_X3_readItem : List Nat := [218, 172, 173, 203, 204, 205, 180, 198, 192, 193, 194, 187, 188, 189, 190, 177, 170, 169, 168, 171, 178, 179, 174, 181, 182, 183, 175, 184, 185, 186, 176, 195, 196, 197, 191, 206, 207, 208, 199, 209, 210, 211, 200, 212, 213, 214, 201, 215, 216, 217, 202, 19, 20, 21, 22, 23, 24, 0, 1, 2, 3, 4, 5, 6, 7, 8, 9, 10, 11]
noncomputable def wsX3_readItem : List Cond := wn_X3_readItem.map wTb
theorem wi_X3_readItem : wsX3_readItem = wn_X3_readItem.map wTb := rfl
set_option maxRecDepth 20000 in
theorem wm_X3_readItem : mkm wn_X3_readItem = 842498333348457119438925064758216398407843587835939858115789852671 := by decide +kernel
set_option maxRecDepth 20000 in
noncomputable def wn_X3_read : List Nat := [228, 168, 219, 220, 221, 222, 169, 170, 172, 171, 223, 102, 224, 93, 80, 84, 87, 91, 92, 86, 188, 189, 190, 180, 177, 173, 178, 179, 174, 181, 182, 183, 175, 184, 185, 186, 176, 225, 226, 227, 218, 203, 204, 205, 198, 192, 193, 194, 187, 195, 196, 197, 191, 206, 207, 208, 199, 209, 210, 211, 200, 212, 213, 214, 201, 215, 216, 217, 202, 19, 20, 21, 22, 23, 24, 0, 1, 2, 3, 4, 5, 6, 7, 8, 9, 10, 11]
noncomputable def wsX3_read : List Cond := wn_X3_read.map wTb
theorem wi_X3_read : wsX3_read = wn_X3_read.map wTb := rfl
set_option maxRecDepth 20000 in
theorem wm_X3_read : mkm wn_X3_read = 862718293348820473055200063627917034501333490572889078750729744158719 := by decide +kernel
set_option maxRecDepth 20000 in
noncomputable def wn_X4_init : List Nat := [229, 230, 78, 79, 231, 232, 128, 233, 81, 234, 235, 236, 237, 108, 109, 110, 111, 112, 12, 13, 14, 25, 26, 27, 28]
noncomputable def wsX4_init : List Cond := wn_X4_init.map wTb
theorem wi_X4_init : wsX4_init = wn_X4_init.map wTb := rfl
set_option maxRecDepth 20000 in
theorem wm_X4_init : mkm wn_X4_init = 440849047901247261922395030702945341067741581702582679119831733935042560 := by decide +kernel
set_option maxRecDepth 20000 in
noncomputable def wn_X4_noteRow : List Nat := [238, 236, 234, 235, 239, 115, 116, 117, 25, 26, 27, 28]
noncomputable def wsX4_noteRow : List Cond := wn_X4_noteRow.map wTb
theorem wi_X4_noteRow : wsX4_noteRow = wn_X4_noteRow.map wTb := rfl
set_option maxRecDepth 20000 in
theorem wm_X4_noteRow : mkm wn_X4_noteRow = 1518384196293924033235646289700945599830012597955435389333463124175486976 := by decide +kernel
set_option maxRecDepth 20000 in
noncomputable def wn_J6_bitCount_0f7a4 : List Nat := [240, 241, 242, 243]
noncomputable def wsJ6_bitCount_0f7a4 : List Cond := wn_J6_bitCount_0f7a4.map wTb
theorem wi_J6_bitCount_0f7a4 : wsJ6_bitCount_0f7a4 = wn_J6_bitCount_0f7a4.map wTb := rfl
set_option maxRecDepth 20000 in
noncomputable def wn_X4_extend : List Nat := [265, 233, 236, 234, 244, 245, 246, 247, 238, 235, 239, 115, 116, 117, 248, 128, 249, 132, 110, 250, 251, 252, 240, 241, 242, 243, 253, 254, 133, 136, 137, 130, 255, 153, 256, 165, 144, 162, 163, 164, 161, 143, 145, 146, 148, 105, 102, 106, 98, 85, 99, 100, 101, 97, 82, 91, 126, 127, 122, 155, 156, 157, 149, 150, 151, 152, 147, 158, 159, 160, 154, 257, 258, 120, 112, 111, 114, 259, 260, 134, 135, 138, 139, 140, 123, 261, 262, 263, 264, 121, 25, 26, 27, 28, 0, 1, 2, 3, 4, 5, 6, 7, 8, 9, 10, 11, 15, 16, 17, 18, 12, 13, 14]
noncomputable def wsX4_extend : List Cond := wn_X4_extend.map wTb
theorem wi_X4_extend : wsX4_extend = wn_X4_extend.map wTb := rfl
set_option maxRecDepth 20000 in
theorem wm_X4_extend : mkm wn_X4_extend = 118571099144352408322857519876208254420752529616509292568342686344697612807438335 := by decide +kernel
set_option maxRecDepth 20000 in
noncomputable def wn_X4_search : List Nat := [268, 233, 236, 266, 128, 267, 119, 110, 114, 115, 116, 117, 112, 261, 262, 247, 265, 234, 244, 245, 246, 238, 235, 239, 248, 249, 132, 250, 251, 252, 240, 241, 242, 243, 253, 254, 133, 136, 137, 130, 255, 153, 256, 165, 144, 162, 163, 164, 161, 143, 145, 146, 148, 105, 102, 106, 98, 85, 99, 100, 101, 97, 82, 91, 126, 127, 122, 155, 156, 157, 149, 150, 151, 152, 147, 158, 159, 160, 154, 257, 258, 120, 111, 259, 260, 134, 135, 138, 139, 140, 123, 263, 264, 121, 25, 26, 27, 28, 12, 13, 14, 0, 1, 2, 3, 4, 5, 6, 7, 8, 9, 10, 11, 15, 16, 17, 18]
noncomputable def wsX4_search : List Cond := wn_X4_search.map wTb
theorem wi_X4_search : wsX4_search = wn_X4_search.map wTb := rfl
set_option maxRecDepth 20000 in
theorem wm_X4_search : mkm wn_X4_search = 948568794797434897119014340418483177912991780364434853495632584965322456206671871 := by decide +kernel
set_option maxRecDepth 20000 in
noncomputable def wn_X5_init : List Nat := [269, 270, 78, 79, 81, 271, 272, 273, 274, 29, 30, 31, 32]
noncomputable def wsX5_init : List Cond := wn_X5_init.map wTb
theorem wi_X5_init : wsX5_init = wn_X5_init.map wTb := rfl
set_option maxRecDepth 20000 in
theorem wm_X5_init : mkm wn_X5_init = 59759834087021939193323291079043794491441226005998432538511225822151874792935915520 := by decide +kernel
set_option maxRecDepth 20000 in
noncomputable def wn_X5_gather : List Nat := [277, 273, 274, 272, 271, 136, 128, 137, 130, 110, 105, 102, 106, 98, 85, 99, 100, 101, 97, 82, 91, 275, 276, 124, 125, 126, 127, 122, 0, 1, 2, 3, 4, 5, 6, 7, 8, 9, 10, 11, 29, 30, 31, 32, 12, 13, 14]
noncomputable def wsX5_gather : List Cond := wn_X5_gather.map wTb
theorem wi_X5_gather : wsX5_gather = wn_X5_gather.map wTb := rfl
set_option maxRecDepth 20000 in
theorem wm_X5_gather : mkm wn_X5_gather = 481872947876303890638225902669115041296066022268113860921400020321368341636760764415 := by decide +kernel
set_option maxRecDepth 20000 in
noncomputable def wn_X5_paysWithout : List Nat := [278, 273, 271, 274, 272, 29, 30, 31, 32]
noncomputable def wsX5_paysWithout : List Cond := wn_X5_paysWithout.map wTb
theorem wi_X5_paysWithout : wsX5_paysWithout = wn_X5_paysWithout.map wTb := rfl
set_option maxRecDepth 20000 in
theorem wm_X5_paysWithout : mkm wn_X5_paysWithout = 542581350758357924104459087257350007128640972625890530349627294126295532789976530944 := by decide +kernel
set_option maxRecDepth 20000 in
noncomputable def wn_X5_fewestKindsToCorner : List Nat := [279, 273, 280, 281, 282, 283, 278, 271, 274, 272, 284, 251, 252, 240, 241, 242, 243, 29, 30, 31, 32]
noncomputable def wsX5_fewestKindsToCorner : List Cond := wn_X5_fewestKindsToCorner.map wTb
theorem wi_X5_fewestKindsToCorner : wsX5_fewestKindsToCorner = wn_X5_fewestKindsToCorner.map wTb := rfl
set_option maxRecDepth 20000 in
theorem wm_X5_fewestKindsToCorner : mkm wn_X5_fewestKindsToCorner = 61736651466750834730037578238101724873440091541749758770638655363972753110515289423872 := by decide +kernel
set_option maxRecDepth 20000 in
noncomputable def wn_X5_chance : List Nat := [285, 273, 29, 30, 31, 32]
noncomputable def wsX5_chance : List Cond := wn_X5_chance.map wTb
theorem wi_X5_chance : wsX5_chance = wn_X5_chance.map wTb := rfl
set_option maxRecDepth 20000 in
theorem wm_X5_chance : mkm wn_X5_chance = 62180581651943843777789339314499663754015162653098559520067776896096022316302890696704 := by decide +kernel
set_option maxRecDepth 20000 in
noncomputable def wn_X5_oddsUpper : List Nat := [286, 273, 280, 281, 282, 283, 278, 271, 274, 272, 287, 288, 289, 285, 29, 30, 31, 32]
noncomputable def wsX5_oddsUpper : List Cond := wn_X5_oddsUpper.map wTb
theorem wi_X5_oddsUpper : wsX5_oddsUpper = wn_X5_oddsUpper.map wTb := rfl
set_option maxRecDepth 20000 in
theorem wm_X5_oddsUpper : mkm wn_X5_oddsUpper = 1956810155822067532340002599258540888996032327898130388430924723901202910734434934194176 := by decide +kernel
set_option maxRecDepth 20000 in
noncomputable def wn_X5_oddsLower : List Nat := [290, 273, 29, 30, 31, 32]
noncomputable def wsX5_oddsLower : List Cond := wn_X5_oddsLower.map wTb
theorem wi_X5_oddsLower : wsX5_oddsLower = wn_X5_oddsLower.map wTb := rfl
set_option maxRecDepth 20000 in
theorem wm_X5_oddsLower : mkm wn_X5_oddsLower = 1989308122739867082129895550883430419143282746992820964601865687357089073239869720887296 := by decide +kernel
set_option maxRecDepth 20000 in
noncomputable def wn_X6_init : List Nat := [322, 291, 78, 79, 81, 292, 293, 294, 295, 180, 296, 297, 298, 102, 299, 300, 301, 232, 128, 302, 303, 304, 305, 306, 153, 307, 308, 309, 283, 310, 311, 312, 247, 313, 314, 315, 316, 317, 166, 167, 168, 169, 170, 171, 172, 173, 318, 76, 77, 80, 82, 83, 84, 85, 86, 87, 88, 89, 90, 91, 92, 237, 108, 109, 110, 111, 112, 319, 141, 142, 143, 144, 145, 146, 320, 269, 270, 271, 272, 273, 274, 321, 229, 230, 231, 233, 234, 235, 236, 33, 34, 35, 36, 37, 38, 39, 40, 41, 42, 43, 44, 45, 46, 19, 20, 21, 22, 23, 24, 0, 1, 2, 3, 4, 5, 6, 7, 8, 9, 10, 11, 12, 13, 14, 15, 16, 17, 18, 29, 30, 31, 32, 25, 26, 27, 28]
noncomputable def wsX6_init : List Cond := wn_X6_init.map wTb
theorem wi_X6_init : wsX6_init = wn_X6_init.map wTb := rfl
set_option maxRecDepth 20000 in
theorem wm_X6_init : mkm wn_X6_init = 17087896283404295878853999963893247484634186793919588626380445292880930608729937317438783045500927 := by decide +kernel
set_option maxRecDepth 20000 in
noncomputable def wn_X6_type : List Nat := [323, 293, 292, 33, 34, 35, 36, 37, 38, 39, 40, 41, 42, 43, 44, 45, 46]
noncomputable def wsX6_type : List Cond := wn_X6_type.map wTb
theorem wi_X6_type : wsX6_type = wn_X6_type.map wTb := rfl
set_option maxRecDepth 20000 in
theorem wm_X6_type : mkm wn_X6_type = 17087896311238796006829932472814764827869036503675117397849023299720028697116780256926027619500032 := by decide +kernel
set_option maxRecDepth 20000 in
noncomputable def wn_X6_clear : List Nat := [324, 293, 33, 34, 35, 36, 37, 38, 39, 40, 41, 42, 43, 44, 45, 46]
noncomputable def wsX6_clear : List Cond := wn_X6_clear.map wTb
theorem wi_X6_clear : wsX6_clear = wn_X6_clear.map wTb := rfl
set_option maxRecDepth 20000 in
theorem wm_X6_clear : mkm wn_X6_clear = 34175792590648904883433519847685065774341539240921041144667792683250362873071352704909190306463744 := by decide +kernel
set_option maxRecDepth 20000 in
noncomputable def wn_X6_land : List Nat := [329, 296, 292, 293, 300, 299, 302, 304, 315, 325, 180, 326, 228, 168, 219, 220, 221, 222, 169, 170, 172, 171, 223, 102, 224, 93, 80, 84, 87, 91, 92, 86, 188, 189, 190, 177, 173, 178, 179, 174, 181, 182, 183, 175, 184, 185, 186, 176, 225, 226, 227, 218, 203, 204, 205, 198, 192, 193, 194, 187, 195, 196, 197, 191, 206, 207, 208, 199, 209, 210, 211, 200, 212, 213, 214, 201, 215, 216, 217, 202, 327, 128, 328, 113, 110, 114, 115, 116, 117, 112, 33, 34, 35, 36, 37, 38, 39, 40, 41, 42, 43, 44, 45, 46, 19, 20, 21, 22, 23, 24, 0, 1, 2, 3, 4, 5, 6, 7, 8, 9, 10, 11, 12, 13, 14]
noncomputable def wsX6_land : List Cond := wn_X6_land.map wTb
theorem wi_X6_land : wsX6_land = wn_X6_land.map wTb := rfl
set_option maxRecDepth 20000 in
theorem wm_X6_land : mkm wn_X6_land = 2118965933175875085235962370936194718721077039164287526910177472434088153166908702601568720145383423 := by decide +kernel
set_option maxRecDepth 20000 in
noncomputable def wn_X6_coin : List Nat := [334, 299, 302, 330, 102, 331, 94, 80, 332, 333, 103, 84, 104, 105, 106, 98, 85, 99, 100, 101, 97, 82, 91, 275, 128, 276, 124, 125, 126, 127, 122, 110, 33, 34, 35, 36, 37, 38, 39, 40, 41, 42, 43, 44, 45, 46, 0, 1, 2, 3, 4, 5, 6, 7, 8, 9, 10, 11, 12, 13, 14]
noncomputable def wsX6_coin : List Cond := wn_X6_coin.map wTb
theorem wi_X6_coin : wsX6_coin = wn_X6_coin.map wTb := rfl
set_option maxRecDepth 20000 in
theorem wm_X6_coin : mkm wn_X6_coin = 67804772477440031731177965075016368322490007847126090798421243752324713204472851001108140582047350783 := by decide +kernel
set_option maxRecDepth 20000 in
noncomputable def wn_X6_wealth : List Nat := [335, 299, 302, 126, 128, 127, 122, 110, 33, 34, 35, 36, 37, 38, 39, 40, 41, 42, 43, 44, 45, 46, 0, 1, 2, 3, 4, 5, 6, 7, 8, 9, 10, 11, 12, 13, 14]
noncomputable def wsX6_wealth : List Cond := wn_X6_wealth.map wTb
theorem wi_X6_wealth : wsX6_wealth = wn_X6_wealth.map wTb := rfl
set_option maxRecDepth 20000 in
theorem wm_X6_wealth : mkm wn_X6_wealth = 69992023202223043473425258655971889289143623513314405737121373133793480165471353651515501442259517439 := by decide +kernel
set_option maxRecDepth 20000 in
noncomputable def wn_X6_ease : List Nat := [336, 299, 302, 105, 102, 106, 98, 85, 99, 100, 101, 97, 82, 91, 275, 128, 276, 124, 125, 126, 127, 122, 110, 33, 34, 35, 36, 37, 38, 39, 40, 41, 42, 43, 44, 45, 46, 0, 1, 2, 3, 4, 5, 6, 7, 8, 9, 10, 11, 12, 13, 14]
noncomputable def wsX6_ease : List Cond := wn_X6_ease.map wTb
theorem wi_X6_ease : wsX6_ease = wn_X6_ease.map wTb := rfl
set_option maxRecDepth 20000 in
theorem wm_X6_ease : mkm wn_X6_ease = 139984046395279425235470538569897873379144599066602101200471673763853131734610258622478906408575205375 := by decide +kernel
set_option maxRecDepth 20000 in
noncomputable def wn_X6_person : List Nat := [348, 299, 337, 102, 338, 95, 84, 339, 340, 107, 80, 104, 105, 106, 98, 85, 99, 100, 101, 97, 82, 91, 341, 342, 343, 344, 335, 302, 126, 128, 127, 122, 110, 345, 346, 347, 336, 275, 276, 124, 125, 33, 34, 35, 36, 37, 38, 39, 40, 41, 42, 43, 44, 45, 46, 0, 1, 2, 3, 4, 5, 6, 7, 8, 9, 10, 11, 12, 13, 14]
noncomputable def wsX6_person : List Cond := wn_X6_person.map wTb
theorem wi_X6_person : wsX6_person = wn_X6_person.map wTb := rfl
set_option maxRecDepth 20000 in
theorem wm_X6_person : mkm wn_X6_person = 1146679315971851866085906157975810076620587734917841415576098017389009935870635195270863397629495208869887 := by decide +kernel
set_option maxRecDepth 20000 in
noncomputable def wn_X6_holds : List Nat := [349, 299, 302, 337, 102, 338, 95, 84, 330, 331, 94, 80, 126, 128, 127, 122, 110, 33, 34, 35, 36, 37, 38, 39, 40, 41, 42, 43, 44, 45, 46, 0, 1, 2, 3, 4, 5, 6, 7, 8, 9, 10, 11, 12, 13, 14]
noncomputable def wsX6_holds : List Cond := wn_X6_holds.map wTb
theorem wi_X6_holds : wsX6_holds = wn_X6_holds.map wTb := rfl
set_option maxRecDepth 20000 in
theorem wm_X6_holds : mkm wn_X6_holds = 1147595774025535948082036111200326197872272013355620966689462689631870764844253697915942688542226227691519 := by decide +kernel
set_option maxRecDepth 20000 in
noncomputable def wn_X6_findPayment : List Nat := [350, 307, 299, 302, 136, 128, 137, 130, 110, 163, 153, 164, 161, 143, 144, 145, 146, 148, 105, 102, 106, 98, 85, 99, 100, 101, 97, 82, 91, 126, 127, 122, 155, 156, 157, 149, 150, 151, 152, 147, 158, 159, 160, 154, 33, 34, 35, 36, 37, 38, 39, 40, 41, 42, 43, 44, 45, 46, 12, 13, 14, 0, 1, 2, 3, 4, 5, 6, 7, 8, 9, 10, 11, 15, 16, 17, 18]
noncomputable def wsX6_findPayment : List Cond := wn_X6_findPayment.map wTb
theorem wi_X6_findPayment : wsX6_findPayment = wn_X6_findPayment.map wTb := rfl
set_option maxRecDepth 20000 in
theorem wm_X6_findPayment : mkm wn_X6_findPayment = 2293498615990341418877685214708517509850279231774620443340671610898323646889229084042534014419475234291711 := by decide +kernel
set_option maxRecDepth 20000 in
noncomputable def wn_X6_worldPays : List Nat := [353, 310, 299, 302, 351, 283, 352, 277, 273, 274, 272, 271, 136, 128, 137, 130, 110, 105, 102, 106, 98, 85, 99, 100, 101, 97, 82, 91, 275, 276, 124, 125, 126, 127, 122, 281, 282, 278, 33, 34, 35, 36, 37, 38, 39, 40, 41, 42, 43, 44, 45, 46, 0, 1, 2, 3, 4, 5, 6, 7, 8, 9, 10, 11, 29, 30, 31, 32, 12, 13, 14]
noncomputable def wsX6_worldPays : List Cond := wn_X6_worldPays.map wTb
theorem wi_X6_worldPays : wsX6_worldPays = wn_X6_worldPays.map wTb := rfl
set_option maxRecDepth 20000 in
theorem wm_X6_worldPays : mkm wn_X6_worldPays = 32108980623863096254081317457831037210693679451869481427030079530329460637729708021006167089890609116250111 := by decide +kernel
set_option maxRecDepth 20000 in
noncomputable def wn_X6_heirs : List Nat := [354, 302, 299, 307, 253, 128, 254, 133, 110, 255, 153, 256, 165, 144, 162, 163, 164, 161, 143, 145, 146, 148, 105, 102, 106, 98, 85, 99, 100, 101, 97, 82, 91, 126, 127, 122, 155, 156, 157, 149, 150, 151, 152, 147, 158, 159, 160, 154, 33, 34, 35, 36, 37, 38, 39, 40, 41, 42, 43, 44, 45, 46, 0, 1, 2, 3, 4, 5, 6, 7, 8, 9, 10, 11, 12, 13, 14, 15, 16, 17, 18]
noncomputable def wsX6_heirs : List Cond := wn_X6_heirs.map wTb
theorem wi_X6_heirs : wsX6_heirs = wn_X6_heirs.map wTb := rfl
set_option maxRecDepth 20000 in
theorem wm_X6_heirs : mkm wn_X6_heirs = 36695977855841414093039998644456931789118721935718032896348408087619151562998415453681684260294302745755647 := by decide +kernel
set_option maxRecDepth 20000 in
noncomputable def wn_X6_debt : List Nat := [366, 299, 302, 307, 355, 102, 356, 96, 87, 136, 128, 137, 130, 110, 253, 254, 133, 357, 358, 359, 344, 350, 163, 153, 164, 161, 143, 144, 145, 146, 148, 105, 106, 98, 85, 99, 100, 101, 97, 82, 91, 126, 127, 122, 155, 156, 157, 149, 150, 151, 152, 147, 158, 159, 160, 154, 360, 361, 362, 353, 310, 351, 283, 352, 277, 273, 274, 272, 271, 275, 276, 124, 125, 281, 282, 278, 363, 364, 365, 354, 255, 256, 165, 162, 33, 34, 35, 36, 37, 38, 39, 40, 41, 42, 43, 44, 45, 46, 0, 1, 2, 3, 4, 5, 6, 7, 8, 9, 10, 11, 15, 16, 17, 18, 12, 13, 14, 29, 30, 31, 32]
noncomputable def wsX6_debt : List Cond := wn_X6_debt.map wTb
theorem wi_X6_debt : wsX6_debt = wn_X6_debt.map wTb := rfl
set_option maxRecDepth 20000 in
theorem wm_X6_debt : mkm wn_X6_debt = 300611192932350540299041409282954364484822929495474068279681708218048610909706688948919195958900020029631758335 := by decide +kernel
set_option maxRecDepth 20000 in
noncomputable def wn_X6_pays : List Nat := [367, 299, 302, 307, 355, 102, 356, 96, 87, 253, 128, 254, 133, 110, 136, 137, 130, 255, 153, 256, 165, 144, 162, 163, 164, 161, 143, 145, 146, 148, 105, 106, 98, 85, 99, 100, 101, 97, 82, 91, 126, 127, 122, 155, 156, 157, 149, 150, 151, 152, 147, 158, 159, 160, 154, 257, 258, 120, 112, 111, 114, 115, 116, 117, 259, 260, 134, 135, 138, 139, 140, 123, 33, 34, 35, 36, 37, 38, 39, 40, 41, 42, 43, 44, 45, 46, 0, 1, 2, 3, 4, 5, 6, 7, 8, 9, 10, 11, 15, 16, 17, 18, 12, 13, 14]
noncomputable def wsX6_pays : List Cond := wn_X6_pays.map wTb
theorem wi_X6_pays : wsX6_pays = wn_X6_pays.map wTb := rfl
set_option maxRecDepth 20000 in
theorem wm_X6_pays : mkm wn_X6_pays = 300833626462185700304875422059307237153817329667196831102878860508599693484350106550205862626051270073419038719 := by decide +kernel
set_option maxRecDepth 20000 in
noncomputable def wn_X6_trades : List Nat := [368, 299, 302, 337, 102, 338, 95, 84, 330, 331, 94, 80, 126, 128, 127, 122, 110, 257, 258, 120, 112, 111, 114, 115, 116, 117, 139, 140, 123, 33, 34, 35, 36, 37, 38, 39, 40, 41, 42, 43, 44, 45, 46, 0, 1, 2, 3, 4, 5, 6, 7, 8, 9, 10, 11, 12, 13, 14]
noncomputable def wsX6_trades : List Cond := wn_X6_trades.map wTb
theorem wi_X6_trades : wsX6_trades = wn_X6_trades.map wTb := rfl
set_option maxRecDepth 20000 in
theorem wm_X6_trades : mkm wn_X6_trades = 601226902036567336839899309403734523043437630407221199807381361507964659165719295846168714994293772468998930431 := by decide +kernel
set_option maxRecDepth 20000 in
noncomputable def wn_X6_loses : List Nat := [369, 299, 302, 337, 102, 338, 95, 84, 330, 331, 94, 80, 126, 128, 127, 122, 110, 257, 258, 120, 112, 111, 114, 115, 116, 117, 139, 140, 123, 33, 34, 35, 36, 37, 38, 39, 40, 41, 42, 43, 44, 45, 46, 0, 1, 2, 3, 4, 5, 6, 7, 8, 9, 10, 11, 12, 13, 14]
noncomputable def wsX6_loses : List Cond := wn_X6_loses.map wTb
theorem wi_X6_loses : wsX6_loses = wn_X6_loses.map wTb := rfl
set_option maxRecDepth 20000 in
theorem wm_X6_loses : mkm wn_X6_loses = 1202453803226668643179606342181804802051612362927751086708447850220210169595059057372875658580794560445174284287 := by decide +kernel
set_option maxRecDepth 20000 in
noncomputable def wn_X6_finds : List Nat := [370, 299, 302, 337, 102, 338, 95, 84, 330, 331, 94, 80, 126, 128, 127, 122, 110, 257, 258, 120, 112, 111, 114, 115, 116, 117, 139, 140, 123, 33, 34, 35, 36, 37, 38, 39, 40, 41, 42, 43, 44, 45, 46, 0, 1, 2, 3, 4, 5, 6, 7, 8, 9, 10, 11, 12, 13, 14]
noncomputable def wsX6_finds : List Cond := wn_X6_finds.map wTb
theorem wi_X6_finds : wsX6_finds = wn_X6_finds.map wTb := rfl
set_option maxRecDepth 20000 in
theorem wm_X6_finds : mkm wn_X6_finds = 2404907605606871255859020407737945360067961827968810860510580827644701190453738580426289545753796136397524991999 := by decide +kernel
set_option maxRecDepth 20000 in
noncomputable def wn_X6_passes : List Nat := [373, 299, 302, 355, 102, 356, 96, 87, 337, 338, 95, 84, 136, 128, 137, 130, 110, 253, 254, 133, 257, 258, 120, 112, 111, 114, 115, 116, 117, 371, 372, 131, 33, 34, 35, 36, 37, 38, 39, 40, 41, 42, 43, 44, 45, 46, 0, 1, 2, 3, 4, 5, 6, 7, 8, 9, 10, 11, 12, 13, 14]
noncomputable def wsX6_passes : List Cond := wn_X6_passes.map wTb
theorem wi_X6_passes : wsX6_passes = wn_X6_passes.map wTb := rfl
set_option maxRecDepth 20000 in
theorem wm_X6_passes : mkm wn_X6_passes = 33668926643352712480214551715230431405580044989172838909900356790158735195875782131449803351738864991275958960127 := by decide +kernel
set_option maxRecDepth 20000 in
noncomputable def wn_X6_undo : List Nat := [374, 302, 263, 128, 264, 121, 112, 111, 110, 114, 115, 116, 117, 33, 34, 35, 36, 37, 38, 39, 40, 41, 42, 43, 44, 45, 46, 12, 13, 14]
noncomputable def wsX6_undo : List Cond := wn_X6_undo.map wTb
theorem wi_X6_undo : wsX6_undo = wn_X6_undo.map wTb := rfl
set_option maxRecDepth 20000 in
theorem wm_X6_undo : mkm wn_X6_undo = 38478521676166483605749398241701880265030523793486592925570704487314992068497662352726775887262606936371294662656 := by decide +kernel
set_option maxRecDepth 20000 in
noncomputable def wn_X6_helpless : List Nat := [375, 299, 302, 253, 128, 254, 133, 110, 360, 361, 362, 344, 353, 310, 351, 283, 352, 277, 273, 274, 272, 271, 136, 137, 130, 105, 102, 106, 98, 85, 99, 100, 101, 97, 82, 91, 275, 276, 124, 125, 126, 127, 122, 281, 282, 278, 33, 34, 35, 36, 37, 38, 39, 40, 41, 42, 43, 44, 45, 46, 0, 1, 2, 3, 4, 5, 6, 7, 8, 9, 10, 11, 12, 13, 14, 29, 30, 31, 32]
noncomputable def wsX6_helpless : List Cond := wn_X6_helpless.map wTb
theorem wi_X6_helpless : wsX6_helpless = wn_X6_helpless.map wTb := rfl
set_option maxRecDepth 20000 in
theorem wm_X6_helpless : mkm wn_X6_helpless = 76973515295228923782018848010007055435792348148089536871506400558705472198877879394198573149946505465610505322495 := by decide +kernel
set_option maxRecDepth 20000 in
noncomputable def wn_X6_allWealth : List Nat := [376, 299, 341, 342, 343, 344, 335, 302, 126, 128, 127, 122, 110, 33, 34, 35, 36, 37, 38, 39, 40, 41, 42, 43, 44, 45, 46, 0, 1, 2, 3, 4, 5, 6, 7, 8, 9, 10, 11, 12, 13, 14]
noncomputable def wsX6_allWealth : List Cond := wn_X6_allWealth.map wTb
theorem wi_X6_allWealth : wsX6_allWealth = wn_X6_allWealth.map wTb := rfl
set_option maxRecDepth 20000 in
theorem wm_X6_allWealth : mkm wn_X6_allWealth = 153914086771928268711501349751382685101802031758194159587225821563071645071958528566407277273222042021491363577855 := by decide +kernel
set_option maxRecDepth 20000 in
noncomputable def wn_X6_openSums : List Nat := [377, 299, 302, 253, 128, 254, 133, 110, 33, 34, 35, 36, 37, 38, 39, 40, 41, 42, 43, 44, 45, 46, 0, 1, 2, 3, 4, 5, 6, 7, 8, 9, 10, 11, 12, 13, 14]
noncomputable def wsX6_openSums : List Cond := wn_X6_openSums.map wTb
theorem wi_X6_openSums : wsX6_openSums = wn_X6_openSums.map wTb := rfl
set_option maxRecDepth 20000 in
theorem wm_X6_openSums : mkm wn_X6_openSums = 307828173409331868845939167444265488082995704520102717578909893206699163509155384189776445274932201780548361814015 := by decide +kernel
set_option maxRecDepth 20000 in
noncomputable def wn_X6_now : List Nat := [387, 302, 248, 128, 249, 132, 110, 378, 379, 380, 344, 375, 299, 253, 254, 133, 360, 361, 362, 353, 310, 351, 283, 352, 277, 273, 274, 272, 271, 136, 137, 130, 105, 102, 106, 98, 85, 99, 100, 101, 97, 82, 91, 275, 276, 124, 125, 126, 127, 122, 281, 282, 278, 381, 382, 383, 376, 341, 342, 343, 335, 384, 385, 386, 377, 33, 34, 35, 36, 37, 38, 39, 40, 41, 42, 43, 44, 45, 46, 12, 13, 14, 0, 1, 2, 3, 4, 5, 6, 7, 8, 9, 10, 11, 29, 30, 31, 32]
noncomputable def wsX6_now : List Cond := wn_X6_now.map wTb
theorem wi_X6_now : wsX6_now = wn_X6_now.map wTb := rfl
set_option maxRecDepth 20000 in
theorem wm_X6_now : mkm wn_X6_now = 630355158570933656804237377765246026057286110866393124710545721496147054998982834913267653797790579381258725720358911 := by decide +kernel
set_option maxRecDepth 20000 in
noncomputable def wn_X6_pieces : List Nat := [388, 299, 307, 355, 102, 356, 96, 87, 330, 331, 94, 80, 357, 358, 359, 344, 350, 302, 136, 128, 137, 130, 110, 163, 153, 164, 161, 143, 144, 145, 146, 148, 105, 106, 98, 85, 99, 100, 101, 97, 82, 91, 126, 127, 122, 155, 156, 157, 149, 150, 151, 152, 147, 158, 159, 160, 154, 33, 34, 35, 36, 37, 38, 39, 40, 41, 42, 43, 44, 45, 46, 15, 16, 17, 18, 0, 1, 2, 3, 4, 5, 6, 7, 8, 9, 10, 11, 12, 13, 14]
noncomputable def wsX6_pieces : List Cond := wn_X6_pieces.map wTb
theorem wi_X6_pieces : wsX6_pieces = wn_X6_pieces.map wTb := rfl
set_option maxRecDepth 20000 in
theorem wm_X6_pieces : mkm wn_X6_pieces = 630432101419791635552232941755514526429650367568803937561346236731156057729608426409092398132068026223711236391436287 := by decide +kernel
set_option maxRecDepth 20000 in
noncomputable def wn_X6_order : List Nat := [391, 313, 299, 302, 307, 389, 247, 390, 268, 233, 236, 266, 128, 267, 119, 110, 114, 115, 116, 117, 112, 261, 262, 265, 234, 244, 245, 246, 238, 235, 239, 248, 249, 132, 250, 251, 252, 240, 241, 242, 243, 253, 254, 133, 136, 137, 130, 255, 153, 256, 165, 144, 162, 163, 164, 161, 143, 145, 146, 148, 105, 102, 106, 98, 85, 99, 100, 101, 97, 82, 91, 126, 127, 122, 155, 156, 157, 149, 150, 151, 152, 147, 158, 159, 160, 154, 257, 258, 120, 111, 259, 260, 134, 135, 138, 139, 140, 123, 263, 264, 121, 33, 34, 35, 36, 37, 38, 39, 40, 41, 42, 43, 44, 45, 46, 25, 26, 27, 28, 12, 13, 14, 0, 1, 2, 3, 4, 5, 6, 7, 8, 9, 10, 11, 15, 16, 17, 18]
noncomputable def wsX6_order : List Cond := wn_X6_order.map wTb
theorem wi_X6_order : wsX6_order = wn_X6_order.map wTb := rfl
set_option maxRecDepth 20000 in
theorem wm_X6_order : mkm wn_X6_order = 8826049387992363343550521939738154489715855533057828114607933735918167926814685377872401145136983568402558478625275903 := by decide +kernel
set_option maxRecDepth 20000 in
noncomputable def wn_X6_lender : List Nat := [394, 299, 302, 337, 102, 338, 95, 84, 392, 128, 393, 129, 125, 126, 127, 122, 110, 345, 346, 347, 344, 336, 105, 106, 98, 85, 99, 100, 101, 97, 82, 91, 275, 276, 124, 33, 34, 35, 36, 37, 38, 39, 40, 41, 42, 43, 44, 45, 46, 0, 1, 2, 3, 4, 5, 6, 7, 8, 9, 10, 11, 12, 13, 14]
noncomputable def wsX6_lender : List Cond := wn_X6_lender.map wTb
theorem wi_X6_lender : wsX6_lender = wn_X6_lender.map wTb := rfl
set_option maxRecDepth 20000 in
theorem wm_X6_lender : mkm wn_X6_lender = 70608395103939445267030487244423893919361622982365307298644338625892386199874820031543265676061624376227046656869171199 := by decide +kernel
set_option maxRecDepth 20000 in
noncomputable def wn_X6_corner : List Nat := [397, 299, 310, 302, 355, 102, 356, 96, 87, 351, 283, 352, 277, 273, 274, 272, 271, 136, 128, 137, 130, 110, 105, 106, 98, 85, 99, 100, 101, 97, 82, 91, 275, 276, 124, 125, 126, 127, 122, 395, 396, 279, 280, 281, 282, 278, 284, 251, 252, 240, 241, 242, 243, 33, 34, 35, 36, 37, 38, 39, 40, 41, 42, 43, 44, 45, 46, 0, 1, 2, 3, 4, 5, 6, 7, 8, 9, 10, 11, 29, 30, 31, 32, 12, 13, 14]
noncomputable def wsX6_corner : List Cond := wn_X6_corner.map wTb
theorem wi_X6_corner : wsX6_corner = wn_X6_corner.map wTb := rfl
set_option maxRecDepth 20000 in
theorem wm_X6_corner : mkm wn_X6_corner = 564867160831745190846063308264934715062573181701663247890857867778692778531335212392883380244198556947339995518871830527 := by decide +kernel
set_option maxRecDepth 20000 in
noncomputable def wn_X6_commonDivisor : List Nat := [398]
noncomputable def wsX6_commonDivisor : List Cond := wn_X6_commonDivisor.map wTb
theorem wi_X6_commonDivisor : wsX6_commonDivisor = wn_X6_commonDivisor.map wTb := rfl
set_option maxRecDepth 20000 in
noncomputable def wn_X6_odds : List Nat := [405, 299, 310, 302, 355, 102, 356, 96, 87, 351, 283, 352, 277, 273, 274, 272, 271, 136, 128, 137, 130, 110, 105, 106, 98, 85, 99, 100, 101, 97, 82, 91, 275, 276, 124, 125, 126, 127, 122, 399, 400, 286, 280, 281, 282, 278, 287, 288, 289, 285, 401, 402, 290, 403, 404, 344, 398, 33, 34, 35, 36, 37, 38, 39, 40, 41, 42, 43, 44, 45, 46, 0, 1, 2, 3, 4, 5, 6, 7, 8, 9, 10, 11, 29, 30, 31, 32, 12, 13, 14]
noncomputable def wsX6_odds : List Cond := wn_X6_odds.map wTb
theorem wi_X6_odds : wsX6_odds = wn_X6_odds.map wTb := rfl
set_option maxRecDepth 20000 in
theorem wm_X6_odds : mkm wn_X6_odds = 164618429728040656563259594079426154109357220815941644228854026676478629097605442519899709091847506396321748956311346774015 := by decide +kernel
set_option maxRecDepth 20000 in
noncomputable def wn_X6_took : List Nat := [406, 299, 315, 314, 330, 102, 331, 94, 80, 33, 34, 35, 36, 37, 38, 39, 40, 41, 42, 43, 44, 45, 46, 0, 1, 2, 3, 4, 5, 6, 7, 8, 9, 10, 11]
noncomputable def wsX6_took : List Cond := wn_X6_took.map wTb
theorem wi_X6_took : wsX6_took = wn_X6_took.map wTb := rfl
set_option maxRecDepth 20000 in
theorem wm_X6_took : mkm wn_X6_took = 165263992197562149737985388860492519819655115603061434384800218387976427666052045327509425910908056826752184442209620201471 := by decide +kernel
set_option maxRecDepth 20000 in
noncomputable def wn_X6_forget : List Nat := [407, 315, 33, 34, 35, 36, 37, 38, 39, 40, 41, 42, 43, 44, 45, 46]
noncomputable def wsX6_forget : List Cond := wn_X6_forget.map wTb
theorem wi_X6_forget : wsX6_forget = wn_X6_forget.map wTb := rfl
set_option maxRecDepth 20000 in
theorem wm_X6_forget : mkm wn_X6_forget = 330527984395124299475957654083135114786730781556985037960122901218537411941801071973439655464302008854440623341458142789632 := by decide +kernel
set_option maxRecDepth 20000 in
noncomputable def wn_X6_allTakenDoFor : List Nat := [408, 315, 299, 314, 100, 102, 101, 97, 82, 91, 33, 34, 35, 36, 37, 38, 39, 40, 41, 42, 43, 44, 45, 46, 0, 1, 2, 3, 4, 5, 6, 7, 8, 9, 10, 11]
noncomputable def wsX6_allTakenDoFor : List Cond := wn_X6_allTakenDoFor.map wTb
theorem wi_X6_allTakenDoFor : wsX6_allTakenDoFor = wn_X6_allTakenDoFor.map wTb := rfl
set_option maxRecDepth 20000 in
theorem wm_X6_allTakenDoFor : mkm wn_X6_allTakenDoFor = 661055968790248598951915308132896450655185510319590995984190755335488091455976277384582103885641002926616603321162203664383 := by decide +kernel
set_option maxRecDepth 20000 in
noncomputable def wn_X6_years : List Nat := [409, 410, 411, 412, 344, 408, 315, 299, 314, 100, 102, 101, 97, 82, 91, 33, 34, 35, 36, 37, 38, 39, 40, 41, 42, 43, 44, 45, 46, 0, 1, 2, 3, 4, 5, 6, 7, 8, 9, 10, 11]
noncomputable def wsX6_years : List Cond := wn_X6_years.map wTb
theorem wi_X6_years : wsX6_years = wn_X6_years.map wTb := rfl
set_option maxRecDepth 20000 in
theorem wm_X6_years : mkm wn_X6_years = 20492735032497706567545210464990872512876245075737122682973600941523416221103716477755679087015982123480447003964208666644479 := by decide +kernel
set_option maxRecDepth 20000 in
noncomputable def wn_X6_asCoin : List Nat := [413, 316, 299, 33, 34, 35, 36, 37, 38, 39, 40, 41, 42, 43, 44, 45, 46, 0, 1, 2, 3, 4, 5, 6, 7, 8, 9, 10, 11]
noncomputable def wsX6_asCoin : List Cond := wn_X6_asCoin.map wTb
theorem wi_X6_asCoin : wsX6_asCoin = wn_X6_asCoin.map wTb := rfl
set_option maxRecDepth 20000 in
theorem wm_X6_asCoin : mkm wn_X6_asCoin = 21153791001287955166461289857182173482771994902249731007967202660632734877943450697495870152630002525174858700986264586293247 := by decide +kernel
set_option maxRecDepth 20000 in
noncomputable def wn_X6_asGroat : List Nat := [414, 316, 415, 302, 416, 417, 418, 344, 413, 299, 275, 128, 276, 124, 125, 126, 127, 122, 110, 33, 34, 35, 36, 37, 38, 39, 40, 41, 42, 43, 44, 45, 46, 0, 1, 2, 3, 4, 5, 6, 7, 8, 9, 10, 11, 12, 13, 14]
noncomputable def wsX6_asGroat : List Cond := wn_X6_asGroat.map wTb
theorem wi_X6_asGroat : wsX6_asGroat = wn_X6_asGroat.map wTb := rfl
set_option maxRecDepth 20000 in
theorem wm_X6_asGroat : mkm wn_X6_asGroat = 1332688833081141175487097096910074769517839892443025756413043511150075987994114633029673512632901891685430688284811280152297471 := by decide +kernel
set_option maxRecDepth 20000 in
noncomputable def wn_X6_asSixpence : List Nat := [419, 316, 420, 299, 416, 417, 418, 344, 413, 33, 34, 35, 36, 37, 38, 39, 40, 41, 42, 43, 44, 45, 46, 0, 1, 2, 3, 4, 5, 6, 7, 8, 9, 10, 11]
noncomputable def wsX6_asSixpence : List Cond := wn_X6_asSixpence.map wTb
theorem wi_X6_asSixpence : wsX6_asSixpence = wn_X6_asSixpence.map wTb := rfl
set_option maxRecDepth 20000 in
theorem wm_X6_asSixpence : mkm wn_X6_asSixpence = 5267293959320700836448897010321127990428360477983274582359389988286272848521868690991812864872149385650784811371463981802721279 := by decide +kernel
set_option maxRecDepth 20000 in
noncomputable def wn_X6_asFour : List Nat := [421, 316, 422, 423, 424, 425, 344, 414, 415, 302, 416, 417, 418, 413, 299, 275, 128, 276, 124, 125, 126, 127, 122, 110, 33, 34, 35, 36, 37, 38, 39, 40, 41, 42, 43, 44, 45, 46, 0, 1, 2, 3, 4, 5, 6, 7, 8, 9, 10, 11, 12, 13, 14]
noncomputable def wsX6_asFour : List Cond := wn_X6_asFour.map wTb
theorem wi_X6_asFour : wsX6_asFour = wn_X6_asFour.map wTb := rfl
set_option maxRecDepth 20000 in
theorem wm_X6_asFour : mkm wn_X6_asFour = 169209174219302353376523893402448345876020865940588169956188174368675975484037853528028123882219477909300914164463543168234717183 := by decide +kernel
set_option maxRecDepth 20000 in
noncomputable def wn_X6_asWidow : List Nat := [431, 316, 426, 299, 427, 428, 429, 344, 419, 420, 416, 417, 418, 413, 332, 102, 333, 103, 84, 104, 105, 106, 98, 85, 99, 100, 101, 97, 82, 91, 430, 251, 252, 240, 241, 242, 243, 33, 34, 35, 36, 37, 38, 39, 40, 41, 42, 43, 44, 45, 46, 0, 1, 2, 3, 4, 5, 6, 7, 8, 9, 10, 11]
noncomputable def wsX6_asWidow : List Cond := wn_X6_asWidow.map wTb
theorem wi_X6_asWidow : wsX6_asWidow = wn_X6_asWidow.map wTb := rfl
set_option maxRecDepth 20000 in
theorem wm_X6_asWidow : mkm wn_X6_asWidow = 10922654214560029210426454747099960218968795487862731076923545267012664791407420615723635423158314657094817600527578217601715671039 := by decide +kernel
set_option maxRecDepth 20000 in
noncomputable def wn_X6_asFake : List Nat := [432, 316, 433, 302, 416, 417, 418, 344, 413, 299, 248, 128, 249, 132, 110, 430, 251, 252, 240, 241, 242, 243, 33, 34, 35, 36, 37, 38, 39, 40, 41, 42, 43, 44, 45, 46, 0, 1, 2, 3, 4, 5, 6, 7, 8, 9, 10, 11, 12, 13, 14]
noncomputable def wsX6_asFake : List Cond := wn_X6_asFake.map wTb
theorem wi_X6_asFake : wsX6_asFake = wn_X6_asFake.map wTb := rfl
set_option maxRecDepth 20000 in
theorem wm_X6_asFake : mkm wn_X6_asFake = 36045911789657666587963872723217855927403552765896804164571332456253703088808006732522769439634072105126631487594631116387898130431 := by decide +kernel
set_option maxRecDepth 20000 in
noncomputable def wn_X6_mark : List Nat := [444, 299, 434, 330, 102, 331, 94, 80, 416, 417, 418, 344, 413, 316, 423, 424, 425, 414, 415, 302, 275, 128, 276, 124, 125, 126, 127, 122, 110, 427, 428, 429, 419, 420, 435, 436, 437, 421, 422, 438, 439, 440, 431, 426, 332, 333, 103, 84, 104, 105, 106, 98, 85, 99, 100, 101, 97, 82, 91, 430, 251, 252, 240, 241, 242, 243, 441, 442, 443, 432, 433, 248, 249, 132, 33, 34, 35, 36, 37, 38, 39, 40, 41, 42, 43, 44, 45, 46, 0, 1, 2, 3, 4, 5, 6, 7, 8, 9, 10, 11, 12, 13, 14]
noncomputable def wsX6_mark : List Cond := wn_X6_mark.map wTb
theorem wi_X6_mark : wsX6_mark = wn_X6_mark.map wTb := rfl
set_option maxRecDepth 20000 in
theorem wm_X6_mark : mkm wn_X6_mark = 90854840515797070317377520819575145661925721780360724854909739929600889608060154857897070702030132995741807104422289422964870529187839 := by decide +kernel
set_option maxRecDepth 20000 in
noncomputable def wn_X6_keep : List Nat := [445, 303, 302, 304, 446, 128, 447, 118, 110, 114, 115, 116, 117, 111, 112, 248, 249, 132, 430, 251, 252, 240, 241, 242, 243, 33, 34, 35, 36, 37, 38, 39, 40, 41, 42, 43, 44, 45, 46, 12, 13, 14]
noncomputable def wsX6_keep : List Cond := wn_X6_keep.map wTb
theorem wi_X6_keep : wsX6_keep = wn_X6_keep.map wTb := rfl
set_option maxRecDepth 20000 in
theorem wm_X6_keep : mkm wn_X6_keep = 635986656428350150045517910316188110643139684075486015928501749228736987051370521478942878191729164251300529046526620491175714868981760 := by decide +kernel
set_option maxRecDepth 20000 in
noncomputable def wn_X6_back : List Nat := [448, 304, 302, 303, 446, 128, 447, 118, 110, 114, 115, 116, 117, 111, 112, 248, 249, 132, 430, 251, 252, 240, 241, 242, 243, 33, 34, 35, 36, 37, 38, 39, 40, 41, 42, 43, 44, 45, 46, 12, 13, 14]
noncomputable def wsX6_back : List Cond := wn_X6_back.map wTb
theorem wi_X6_back : wsX6_back = wn_X6_back.map wTb := rfl
set_option maxRecDepth 20000 in
theorem wm_X6_back : mkm wn_X6_back = 1271970540187006179276176242218192078202575874676889318674805673511796364150593704389360047566272284116967735452009526183018491294019584 := by decide +kernel
set_option maxRecDepth 20000 in
noncomputable def wn_X6_count : List Nat := [449, 299, 315, 302, 293, 33, 34, 35, 36, 37, 38, 39, 40, 41, 42, 43, 44, 45, 46, 0, 1, 2, 3, 4, 5, 6, 7, 8, 9, 10, 11, 12, 13, 14]
noncomputable def wsX6_count : List Cond := wn_X6_count.map wTb
theorem wi_X6_count : wsX6_count = wn_X6_count.map wTb := rfl
set_option maxRecDepth 20000 in
theorem wm_X6_count : mkm wn_X6_count = 1453677448591213781098647615776009068707349480152084886073355803546574204513277172783528115148816230992496356934259953723814395563245567 := by decide +kernel
set_option maxRecDepth 20000 in
noncomputable def wn_X6_trace : List Nat := [450, 316, 33, 34, 35, 36, 37, 38, 39, 40, 41, 42, 43, 44, 45, 46]
noncomputable def wsX6_trace : List Cond := wn_X6_trace.map wTb
theorem wi_X6_trace : wsX6_trace = wn_X6_trace.map wTb := rfl
set_option maxRecDepth 20000 in
theorem wm_X6_trace : mkm wn_X6_trace = 2907354897182427562197295231552018137414698941939017298006110485579192749460754362337411493653175952343538975157926001768655570543312896 := by decide +kernel
set_option maxRecDepth 20000 in
noncomputable def wn_X7_plain : List Nat := [451, 452, 453, 454, 455, 456, 457, 47, 48, 49, 50, 51, 52, 53, 54, 55, 56, 57, 58, 59, 60, 61, 62, 63, 64, 65, 66, 67, 68, 69, 70, 71, 72, 73, 74, 75]
noncomputable def wsX7_plain : List Cond := wn_X7_plain.map wTb
theorem wi_X7_plain : wsX7_plain = wn_X7_plain.map wTb := rfl
set_option maxRecDepth 20000 in
theorem wm_X7_plain : mkm wn_X7_plain = 738468143884336600798112988814212606903299622458315149245994042367529516723212290099410107525183782609734721951966512338334740431507554304 := by decide +kernel
set_option maxRecDepth 20000 in
noncomputable def wn_X7_takeDraft : List Nat := [458, 452, 453, 454, 455, 459, 460, 461, 462, 463, 464, 465, 457, 466, 467, 47, 48, 49, 50, 51, 52, 53, 54, 55, 56, 57, 58, 59, 60, 61, 62, 63, 64, 65, 66, 67, 68, 69, 70, 71, 72, 73, 74, 75]
noncomputable def wsX7_takeDraft : List Cond := wn_X7_takeDraft.map wTb
theorem wi_X7_takeDraft : wsX7_takeDraft = wn_X7_takeDraft.map wTb := rfl
set_option maxRecDepth 20000 in
theorem wm_X7_takeDraft : mkm wn_X7_takeDraft = 761947942033981885790418345104226705381059652973958271865327301761860888286427496614539383227441200831609594449935259467993920610860093407232 := by decide +kernel
set_option maxRecDepth 20000 in
noncomputable def wn_X7_init : List Nat := [485, 468, 78, 79, 469, 470, 81, 452, 459, 460, 453, 461, 457, 454, 462, 465, 463, 455, 464, 471, 467, 472, 473, 474, 475, 476, 477, 478, 479, 480, 481, 451, 456, 482, 483, 484, 458, 466, 47, 48, 49, 50, 51, 52, 53, 54, 55, 56, 57, 58, 59, 60, 61, 62, 63, 64, 65, 66, 67, 68, 69, 70, 71, 72, 73, 74, 75]
noncomputable def wsX7_init : List Cond := wn_X7_init.map wTb
theorem wi_X7_init : wsX7_init = wn_X7_init.map wTb := rfl
set_option maxRecDepth 20000 in
theorem wm_X7_init : mkm wn_X7_init = 199791907214408793014057367582368053104806244855729022769487500933771869691019885382792407209453957748518815067283923692461941123873698853639159808 := by decide +kernel
set_option maxRecDepth 20000 in
noncomputable def wn_X7_in : List Nat := [486]
noncomputable def wsX7_in : List Cond := wn_X7_in.map wTb
theorem wi_X7_in : wsX7_in = wn_X7_in.map wTb := rfl
set_option maxRecDepth 20000 in
noncomputable def wn_X7_type : List Nat := [487, 488, 470, 489, 490, 481, 486, 47, 48, 49, 50, 51, 52, 53, 54, 55, 56, 57, 58, 59, 60, 61, 62, 63, 64, 65, 66, 67, 68, 69, 70, 71, 72, 73, 74, 75]
noncomputable def wsX7_type : List Cond := wn_X7_type.map wTb
theorem wi_X7_type : wsX7_type = wn_X7_type.map wTb := rfl
set_option maxRecDepth 20000 in
theorem wm_X7_type : mkm wn_X7_type = 6199795669510129239485015556960273003105686368948006401867175232711456657448143212736291319420523827664794370975600976319014926592843869100093472768 := by decide +kernel
set_option maxRecDepth 20000 in
noncomputable def wn_X7_clear : List Nat := [491, 488, 47, 48, 49, 50, 51, 52, 53, 54, 55, 56, 57, 58, 59, 60, 61, 62, 63, 64, 65, 66, 67, 68, 69, 70, 71, 72, 73, 74, 75]
noncomputable def wsX7_clear : List Cond := wn_X7_clear.map wTb
theorem wi_X7_clear : wsX7_clear = wn_X7_clear.map wTb := rfl
set_option maxRecDepth 20000 in
theorem wm_X7_clear : mkm wn_X7_clear = 7192508659928046101103200017443455168444770120700093531579497634976856486240739988757185261458285501552241249303720859151112211522943794522527629312 := by decide +kernel
set_option maxRecDepth 20000 in
noncomputable def wn_X7_here : List Nat := [492, 493, 488, 470, 47, 48, 49, 50, 51, 52, 53, 54, 55, 56, 57, 58, 59, 60, 61, 62, 63, 64, 65, 66, 67, 68, 69, 70, 71, 72, 73, 74, 75]
noncomputable def wsX7_here : List Cond := wn_X7_here.map wTb
theorem wi_X7_here : wsX7_here = wn_X7_here.map wTb := rfl
set_option maxRecDepth 20000 in
theorem wm_X7_here : mkm wn_X7_here = 39159216863746375218411919109116522859199385559204771812638154412436131475907228629966483155564872059170247109755412100849154653814769585363905150976 := by decide +kernel
set_option maxRecDepth 20000 in
noncomputable def wn_X7_step : List Nat := [494, 493, 495, 496, 497, 498, 499, 500, 481, 492, 488, 470, 489, 490, 486, 47, 48, 49, 50, 51, 52, 53, 54, 55, 56, 57, 58, 59, 60, 61, 62, 63, 64, 65, 66, 67, 68, 69, 70, 71, 72, 73, 74, 75]
noncomputable def wsX7_step : List Cond := wn_X7_step.map wTb
theorem wi_X7_step : wsX7_step = wn_X7_step.map wTb := rfl
set_option maxRecDepth 20000 in
theorem wm_X7_step : mkm wn_X7_step = 6539794745585259118080508542513512242960907699900460747227220832427521479242022562999888302991888648043259053669038921419643155769094316258623378948096 := by decide +kernel
set_option maxRecDepth 20000 in
noncomputable def wn_X7_due : List Nat := [501, 496, 502, 495, 503, 504, 505, 481, 494, 493, 497, 498, 499, 500, 492, 488, 470, 489, 490, 486, 47, 48, 49, 50, 51, 52, 53, 54, 55, 56, 57, 58, 59, 60, 61, 62, 63, 64, 65, 66, 67, 68, 69, 70, 71, 72, 73, 74, 75]
noncomputable def wsX7_due : List Cond := wn_X7_due.map wTb
theorem wi_X7_due : wsX7_due = wn_X7_due.map wTb := rfl
set_option maxRecDepth 20000 in
theorem wm_X7_due : mkm wn_X7_due = 209490012435146055058898269745824659680392714554570477695191285654387816856331844965762634027197946391398233469577763323991113061613988685564992089489408 := by decide +kernel
set_option maxRecDepth 20000 in
noncomputable def wn_X7_number : List Nat := [506, 497, 496, 489, 490, 481, 486, 507, 508, 509, 501, 502, 495, 503, 504, 505, 494, 493, 498, 499, 500, 492, 488, 470, 47, 48, 49, 50, 51, 52, 53, 54, 55, 56, 57, 58, 59, 60, 61, 62, 63, 64, 65, 66, 67, 68, 69, 70, 71, 72, 73, 74, 75]
noncomputable def wsX7_number : List Cond := wn_X7_number.map wTb
theorem wi_X7_number : wsX7_number = wn_X7_number.map wTb := rfl
set_option maxRecDepth 20000 in
theorem wm_X7_number : mkm wn_X7_number = 3351944996015442250271560378700319845808369078755912675599150999026676261404819417653701922660065937256249450232035431492839679345663966016760378575290368 := by decide +kernel
set_option maxRecDepth 20000 in
noncomputable def wn_X7_mayBe : List Nat := [510, 452, 453, 454, 456, 47, 48, 49, 50, 51, 52, 53, 54, 55, 56, 57, 58, 59, 60, 61, 62, 63, 64, 65, 66, 67, 68, 69, 70, 71, 72, 73, 74, 75]
noncomputable def wsX7_mayBe : List Cond := wn_X7_mayBe.map wTb
theorem wi_X7_mayBe : wsX7_mayBe = wn_X7_mayBe.map wTb := rfl
set_option maxRecDepth 20000 in
theorem wm_X7_mayBe : mkm wn_X7_mayBe = 3351951982485649542370156790334797254021002757933766986570911093863487191106780042675726600272161640960814627211613639074046421809015679890926988416778240 := by decide +kernel
set_option maxRecDepth 20000 in
noncomputable def wn_X7_readRow : List Nat := [514, 459, 452, 460, 461, 453, 502, 457, 497, 496, 462, 454, 465, 463, 455, 456, 511, 512, 513, 481, 506, 489, 490, 486, 507, 508, 509, 501, 495, 503, 504, 505, 494, 493, 498, 499, 500, 492, 488, 470, 47, 48, 49, 50, 51, 52, 53, 54, 55, 56, 57, 58, 59, 60, 61, 62, 63, 64, 65, 66, 67, 68, 69, 70, 71, 72, 73, 74, 75]
noncomputable def wsX7_readRow : List Cond := wn_X7_readRow.map wTb
theorem wi_X7_readRow : wsX7_readRow = wn_X7_readRow.map wTb := rfl
set_option maxRecDepth 20000 in
theorem wm_X7_readRow : mkm wn_X7_readRow = 103910504470585062643472380908492536752062073774469637481459488724358319617431695102932056919916910701462894375943670400100819294699149346109984051031965696 := by decide +kernel
set_option maxRecDepth 20000 in
noncomputable def wn_X7_land : List Nat := [521, 493, 502, 497, 488, 478, 479, 480, 481, 451, 452, 453, 454, 455, 456, 457, 503, 504, 505, 494, 495, 496, 498, 499, 500, 492, 470, 489, 490, 486, 515, 516, 517, 510, 507, 508, 509, 501, 518, 519, 520, 514, 459, 460, 461, 462, 465, 463, 511, 512, 513, 506, 482, 483, 484, 458, 464, 466, 467, 47, 48, 49, 50, 51, 52, 53, 54, 55, 56, 57, 58, 59, 60, 61, 62, 63, 64, 65, 66, 67, 68, 69, 70, 71, 72, 73, 74, 75]
noncomputable def wsX7_land : List Cond := wn_X7_land.map wTb
theorem wi_X7_land : wsX7_land = wn_X7_land.map wTb := rfl
set_option maxRecDepth 20000 in
theorem wm_X7_land : mkm wn_X7_land = 13729595313367622004450907878371463819962522415015378005993392363926966354839668520593037600359040222898562915240286394111520979878529205635647195549628628992 := by decide +kernel
set_option maxRecDepth 20000 in
noncomputable def wn_X7_take : List Nat := [522, 472, 464, 47, 48, 49, 50, 51, 52, 53, 54, 55, 56, 57, 58, 59, 60, 61, 62, 63, 64, 65, 66, 67, 68, 69, 70, 71, 72, 73, 74, 75]
noncomputable def wsX7_take : List Cond := wn_X7_take.map wTb
theorem wi_X7_take : wsX7_take = wn_X7_take.map wTb := rfl
set_option maxRecDepth 20000 in
theorem wm_X7_take : mkm wn_X7_take = 13729595320261231671928178905444333447943534553590757812650661917418720808984927334355850431832009008005564414125683091738326284982314285578790291311819751424 := by decide +kernel
set_option maxRecDepth 20000 in
noncomputable def wn_X7_isCoin : List Nat := [523, 452, 489, 490, 481, 486, 47, 48, 49, 50, 51, 52, 53, 54, 55, 56, 57, 58, 59, 60, 61, 62, 63, 64, 65, 66, 67, 68, 69, 70, 71, 72, 73, 74, 75]
noncomputable def wsX7_isCoin : List Cond := wn_X7_isCoin.map wTb
theorem wi_X7_isCoin : wsX7_isCoin = wn_X7_isCoin.map wTb := rfl
set_option maxRecDepth 20000 in
theorem wm_X7_isCoin : mkm wn_X7_isCoin = 27459190645523480037545452170587621341455182803308683934676795882189539271874973577266393314688362963790118440175386392853953562223074566693316085028029988864 := by decide +kernel
set_option maxRecDepth 20000 in
noncomputable def wn_X7_isPerson : List Nat := [524, 453, 489, 490, 481, 486, 47, 48, 49, 50, 51, 52, 53, 54, 55, 56, 57, 58, 59, 60, 61, 62, 63, 64, 65, 66, 67, 68, 69, 70, 71, 72, 73, 74, 75]
noncomputable def wsX7_isPerson : List Cond := wn_X7_isPerson.map wTb
theorem wi_X7_isPerson : wsX7_isPerson = wn_X7_isPerson.map wTb := rfl
set_option maxRecDepth 20000 in
theorem wm_X7_isPerson : mkm wn_X7_isPerson = 54918381286045918897484684786501923920781713184808113644804307980702709094430101628943522105943995550472522742552730042051413714567641400790548751818548051968 := by decide +kernel
set_option maxRecDepth 20000 in
noncomputable def wn_X7_isDebt : List Nat := [525, 454, 489, 490, 481, 486, 47, 48, 49, 50, 51, 52, 53, 54, 55, 56, 57, 58, 59, 60, 61, 62, 63, 64, 65, 66, 67, 68, 69, 70, 71, 72, 73, 74, 75]
noncomputable def wsX7_isDebt : List Cond := wn_X7_isDebt.map wTb
theorem wi_X7_isDebt : wsX7_isDebt = wn_X7_isDebt.map wTb := rfl
set_option maxRecDepth 20000 in
theorem wm_X7_isDebt : mkm wn_X7_isDebt = 109836762567090796617363150018330529079434773947806973065059332177729048739540357732297779688455260723837331347307417340446334019256775068985014085399584178176 := by decide +kernel
set_option maxRecDepth 20000 in
noncomputable def wn_X7_isOpen : List Nat := [526]
noncomputable def wsX7_isOpen : List Cond := wn_X7_isOpen.map wTb
theorem wi_X7_isOpen : wsX7_isOpen = wn_X7_isOpen.map wTb := rfl
set_option maxRecDepth 20000 in
noncomputable def wn_X7_manyOf : List Nat := [527]
noncomputable def wsX7_manyOf : List Cond := wn_X7_manyOf.map wTb
theorem wi_X7_manyOf : wsX7_manyOf = wn_X7_manyOf.map wTb := rfl
set_option maxRecDepth 20000 in
noncomputable def wn_X7_isGoodIn : List Nat := [528, 459, 455, 489, 490, 481, 486, 47, 48, 49, 50, 51, 52, 53, 54, 55, 56, 57, 58, 59, 60, 61, 62, 63, 64, 65, 66, 67, 68, 69, 70, 71, 72, 73, 74, 75]
noncomputable def wsX7_isGoodIn : List Cond := wn_X7_isGoodIn.map wTb
theorem wi_X7_isGoodIn : wsX7_isGoodIn = wn_X7_isGoodIn.map wTb := rfl
set_option maxRecDepth 20000 in
theorem wm_X7_isGoodIn : mkm wn_X7_isGoodIn = 878694100501719084696871122901158891166451699446116644493794130160281501023392342870693969619033667295359433722260742091068327120857473343788930332644104732672 := by decide +kernel
set_option maxRecDepth 20000 in
noncomputable def wn_X7_does : List Nat := [529, 461, 530, 531, 532, 481, 528, 459, 455, 489, 490, 486, 47, 48, 49, 50, 51, 52, 53, 54, 55, 56, 57, 58, 59, 60, 61, 62, 63, 64, 65, 66, 67, 68, 69, 70, 71, 72, 73, 74, 75]
noncomputable def wsX7_does : List Cond := wn_X7_does.map wTb
theorem wi_X7_does : wsX7_does = wn_X7_does.map wTb := rfl
set_option maxRecDepth 20000 in
theorem wm_X7_does : mkm wn_X7_does = 27239517115403260390233324454203138457128463312630627949713958843459517834820217550733010786807244114196065426552994388082690527616767918113704714427067535458304 := by decide +kernel
set_option maxRecDepth 20000 in
noncomputable def wn_X7_allOf : List Nat := [533, 453, 464, 47, 48, 49, 50, 51, 52, 53, 54, 55, 56, 57, 58, 59, 60, 61, 62, 63, 64, 65, 66, 67, 68, 69, 70, 71, 72, 73, 74, 75]
noncomputable def wsX7_allOf : List Cond := wn_X7_allOf.map wTb
theorem wi_X7_allOf : wsX7_allOf = wn_X7_allOf.map wTb := rfl
set_option maxRecDepth 20000 in
theorem wm_X7_allOf : mkm wn_X7_allOf = 28118211215894977392613523034512000970535145052822579638188221885561530949773335938873880444992337132223657386272705643986739739863519033886607080225169114923008 := by decide +kernel
set_option maxRecDepth 20000 in
noncomputable def wn_X7_ease : List Nat := [534, 452, 460, 535, 536, 537, 481, 529, 461, 530, 531, 532, 528, 459, 455, 489, 490, 486, 538, 539, 540, 533, 453, 464, 47, 48, 49, 50, 51, 52, 53, 54, 55, 56, 57, 58, 59, 60, 61, 62, 63, 64, 65, 66, 67, 68, 69, 70, 71, 72, 73, 74, 75]
noncomputable def wsX7_ease : List Cond := wn_X7_ease.map wTb
theorem wi_X7_ease : wsX7_ease = wn_X7_ease.map wTb := rfl
set_option maxRecDepth 20000 in
theorem wm_X7_ease : mkm wn_X7_ease = 7197383377168622495494579717201045643918841722489243898109996914423588354352444425108783011210479039264179885741140656035944138486066332674749434474972404298809344 := by decide +kernel
set_option maxRecDepth 20000 in
noncomputable def wn_X7_hasOf : List Nat := [541, 452, 464, 460, 47, 48, 49, 50, 51, 52, 53, 54, 55, 56, 57, 58, 59, 60, 61, 62, 63, 64, 65, 66, 67, 68, 69, 70, 71, 72, 73, 74, 75]
noncomputable def wsX7_hasOf : List Cond := wn_X7_hasOf.map wTb
theorem wi_X7_hasOf : wsX7_hasOf = wn_X7_hasOf.map wTb := rfl
set_option maxRecDepth 20000 in
theorem wm_X7_hasOf : mkm wn_X7_hasOf = 7198262071269114212496912235161040714620228368587638396701017578592429279402643077739857630931363893378437279567933544401947401676895712729249896970903668756840448 := by decide +kernel
set_option maxRecDepth 20000 in
noncomputable def wn_X7_coin : List Nat := [545, 453, 459, 460, 542, 543, 544, 481, 523, 452, 489, 490, 486, 535, 536, 537, 529, 461, 530, 531, 532, 528, 455, 538, 539, 540, 533, 464, 47, 48, 49, 50, 51, 52, 53, 54, 55, 56, 57, 58, 59, 60, 61, 62, 63, 64, 65, 66, 67, 68, 69, 70, 71, 72, 73, 74, 75]
noncomputable def wsX7_coin : List Cond := wn_X7_coin.map wTb
theorem wi_X7_coin : wsX7_coin = wn_X7_coin.map wTb := rfl
set_option maxRecDepth 20000 in
theorem wm_X7_coin : mkm wn_X7_coin = 223089036552000899438054156282385296422001301264743668902254142532987980998998202192667956425859504192564229493952470176684332954312051037867620807012852619257315328 := by decide +kernel
set_option maxRecDepth 20000 in
noncomputable def wn_X7_person : List Nat := [555, 452, 461, 546, 547, 548, 481, 524, 453, 489, 490, 486, 535, 536, 537, 529, 530, 531, 532, 528, 459, 455, 549, 550, 551, 541, 464, 460, 552, 553, 554, 534, 538, 539, 540, 533, 47, 48, 49, 50, 51, 52, 53, 54, 55, 56, 57, 58, 59, 60, 61, 62, 63, 64, 65, 66, 67, 68, 69, 70, 71, 72, 73, 74, 75]
noncomputable def wsX7_person : List Cond := wn_X7_person.map wTb
theorem wi_X7_person : wsX7_person = wn_X7_person.map wTb := rfl
set_option maxRecDepth 20000 in
theorem wm_X7_person : mkm wn_X7_person = 235656702865432541878050130901357988420402703878837723353555649561020094267346695368621453105564607589158037981959429301625433217809408992600922718296639789334091792384 := by decide +kernel
set_option maxRecDepth 20000 in
noncomputable def wn_X7_holds : List Nat := [556, 464, 546, 547, 548, 481, 524, 453, 489, 490, 486, 542, 543, 544, 523, 452, 47, 48, 49, 50, 51, 52, 53, 54, 55, 56, 57, 58, 59, 60, 61, 62, 63, 64, 65, 66, 67, 68, 69, 70, 71, 72, 73, 74, 75]
noncomputable def wsX7_holds : List Cond := wn_X7_holds.map wTb
theorem wi_X7_holds : wsX7_holds = wn_X7_holds.map wTb := rfl
set_option maxRecDepth 20000 in
theorem wm_X7_holds : mkm wn_X7_holds = 237585838006685955624239772180551647612018276617825625267453470005734158193448961151993382390995061892743737762452168807605861970923238251757132555235322028066078720000 := by decide +kernel
set_option maxRecDepth 20000 in
noncomputable def wn_X7_takeHolds : List Nat := [557, 473, 452, 535, 536, 537, 481, 529, 461, 530, 531, 532, 528, 459, 455, 489, 490, 486, 47, 48, 49, 50, 51, 52, 53, 54, 55, 56, 57, 58, 59, 60, 61, 62, 63, 64, 65, 66, 67, 68, 69, 70, 71, 72, 73, 74, 75]
noncomputable def wsX7_takeHolds : List Cond := wn_X7_takeHolds.map wTb
theorem wi_X7_takeHolds : wsX7_takeHolds = wn_X7_takeHolds.map wTb := rfl
set_option maxRecDepth 20000 in
theorem wm_X7_takeHolds : mkm wn_X7_takeHolds = 471746117652123829492821729089769089377856949256491215953102501610359718661971172017488948128741800688856383867734917271964802626074557993675484601158204631993171312640 := by decide +kernel
set_option maxRecDepth 20000 in
noncomputable def wn_X7_takeWorld : List Nat := [558, 452, 473, 535, 536, 537, 481, 529, 461, 530, 531, 532, 528, 459, 455, 489, 490, 486, 538, 539, 540, 533, 453, 464, 47, 48, 49, 50, 51, 52, 53, 54, 55, 56, 57, 58, 59, 60, 61, 62, 63, 64, 65, 66, 67, 68, 69, 70, 71, 72, 73, 74, 75]
noncomputable def wsX7_takeWorld : List Cond := wn_X7_takeWorld.map wTb
theorem wi_X7_takeWorld : wsX7_takeWorld = wn_X7_takeWorld.map wTb := rfl
set_option maxRecDepth 20000 in
theorem wm_X7_takeWorld : mkm wn_X7_takeWorld = 943497747352340074892929379080736495629075489919656945005994268387086281095133668384609174306790137071077072859512671086394942183127374628284262305557761488671022776320 := by decide +kernel
set_option maxRecDepth 20000 in
noncomputable def wn_X7_payment : List Nat := [559, 474, 473, 460, 475, 47, 48, 49, 50, 51, 52, 53, 54, 55, 56, 57, 58, 59, 60, 61, 62, 63, 64, 65, 66, 67, 68, 69, 70, 71, 72, 73, 74, 75]
noncomputable def wsX7_payment : List Cond := wn_X7_payment.map wTb
theorem wi_X7_payment : wsX7_payment = wn_X7_payment.map wTb := rfl
set_option maxRecDepth 20000 in
theorem wm_X7_payment : mkm wn_X7_payment = 1886981212410770676120777461217735422279000569713008748818994762321985523200059493428122575957190249000779015738566012278326040682534575306704673060901139296350441046016 := by decide +kernel
set_option maxRecDepth 20000 in
noncomputable def wn_X7_paymentOf : List Nat := [566, 462, 463, 560, 561, 562, 481, 557, 473, 452, 535, 536, 537, 529, 461, 530, 531, 532, 528, 459, 455, 489, 490, 486, 563, 564, 565, 559, 474, 460, 475, 47, 48, 49, 50, 51, 52, 53, 54, 55, 56, 57, 58, 59, 60, 61, 62, 63, 64, 65, 66, 67, 68, 69, 70, 71, 72, 73, 74, 75]
noncomputable def wsX7_paymentOf : List Cond := wn_X7_paymentOf.map wTb
theorem wi_X7_paymentOf : wsX7_paymentOf = wn_X7_paymentOf.map wTb := rfl
set_option maxRecDepth 20000 in
theorem wm_X7_paymentOf : mkm wn_X7_paymentOf = 481651955282398646240291030951464718685738740874072986374596496830338241056255350821595497680845505600216049856050746744162306973397352497711684261325555660631449922437120 := by decide +kernel
set_option maxRecDepth 20000 in
noncomputable def wn_X7_canWorld : List Nat := [570, 464, 463, 567, 568, 569, 481, 558, 452, 473, 535, 536, 537, 529, 461, 530, 531, 532, 528, 459, 455, 489, 490, 486, 538, 539, 540, 533, 453, 563, 564, 565, 559, 474, 460, 475, 47, 48, 49, 50, 51, 52, 53, 54, 55, 56, 57, 58, 59, 60, 61, 62, 63, 64, 65, 66, 67, 68, 69, 70, 71, 72, 73, 74, 75]
noncomputable def wsX7_canWorld : List Cond := wn_X7_canWorld.map wTb
theorem wi_X7_canWorld : wsX7_canWorld = wn_X7_canWorld.map wTb := rfl
set_option maxRecDepth 20000 in
theorem wm_X7_canWorld : mkm wn_X7_canWorld = 7460180230407128822780325558848752956871718436741439744049986400684983193821718239806111280825091239526676846065349097403477653791427199358798387904869747171282776510955520 := by decide +kernel
set_option maxRecDepth 20000 in
noncomputable def wn_X7_heirs : List Nat := [571, 453, 464, 462, 463, 560, 561, 562, 481, 557, 473, 452, 535, 536, 537, 529, 461, 530, 531, 532, 528, 459, 455, 489, 490, 486, 563, 564, 565, 559, 474, 460, 475, 47, 48, 49, 50, 51, 52, 53, 54, 55, 56, 57, 58, 59, 60, 61, 62, 63, 64, 65, 66, 67, 68, 69, 70, 71, 72, 73, 74, 75]
noncomputable def wsX7_heirs : List Cond := wn_X7_heirs.map wTb
theorem wi_X7_heirs : wsX7_heirs = wn_X7_heirs.map wTb := rfl
set_option maxRecDepth 20000 in
theorem wm_X7_heirs : mkm wn_X7_heirs = 7969193406128336689087535319632237855626385056532890334336425397198965078799016219431047457182700376559332325192122866720120346928634829157730249476922770607991435256922112 := by decide +kernel
set_option maxRecDepth 20000 in
noncomputable def wn_X7_debt : List Nat := [587, 462, 464, 463, 572, 573, 574, 481, 525, 454, 489, 490, 486, 575, 576, 577, 526, 578, 579, 580, 566, 560, 561, 562, 557, 473, 452, 535, 536, 537, 529, 461, 530, 531, 532, 528, 459, 455, 563, 564, 565, 559, 474, 460, 475, 581, 582, 583, 570, 567, 568, 569, 558, 538, 539, 540, 533, 453, 584, 585, 586, 571, 47, 48, 49, 50, 51, 52, 53, 54, 55, 56, 57, 58, 59, 60, 61, 62, 63, 64, 65, 66, 67, 68, 69, 70, 71, 72, 73, 74, 75]
noncomputable def wsX7_debt : List Cond := wn_X7_debt.map wTb
theorem wi_X7_debt : wsX7_debt = wn_X7_debt.map wTb := rfl
set_option maxRecDepth 20000 in
theorem wm_X7_debt : mkm wn_X7_debt = 1013065323962098009885590681585090714283877427941483843541762653929098479183265259810084897354959943082461523060153270823584121773130818412777269734166188482176931817660172206080 := by decide +kernel
set_option maxRecDepth 20000 in
noncomputable def wn_X7_know : List Nat := [588, 464, 47, 48, 49, 50, 51, 52, 53, 54, 55, 56, 57, 58, 59, 60, 61, 62, 63, 64, 65, 66, 67, 68, 69, 70, 71, 72, 73, 74, 75]
noncomputable def wsX7_know : List Cond := wn_X7_know.map wTb
theorem wi_X7_know : wsX7_know = wn_X7_know.map wTb := rfl
set_option maxRecDepth 20000 in
theorem wm_X7_know : mkm wn_X7_know = 1013065324433836171511818326096474890431532108554000589467042762830255299199754768143620055145459253970894438546761753037088447880097661988617201667285614728396408576230796820480 := by decide +kernel
set_option maxRecDepth 20000 in
noncomputable def wn_X7_canPay : List Nat := [589, 475, 575, 576, 577, 481, 526, 578, 579, 580, 566, 462, 463, 560, 561, 562, 557, 473, 452, 535, 536, 537, 529, 461, 530, 531, 532, 528, 459, 455, 489, 490, 486, 563, 564, 565, 559, 474, 460, 47, 48, 49, 50, 51, 52, 53, 54, 55, 56, 57, 58, 59, 60, 61, 62, 63, 64, 65, 66, 67, 68, 69, 70, 71, 72, 73, 74, 75]
noncomputable def wsX7_canPay : List Cond := wn_X7_canPay.map wTb
theorem wi_X7_canPay : wsX7_canPay = wn_X7_canPay.map wTb := rfl
set_option maxRecDepth 20000 in
theorem wm_X7_canPay : mkm wn_X7_canPay = 2033922038166030418464862247020279129598042160643161022558905845981022934102428696624385127591354854985383959689060123667176176486455929429708517134155612393920245327530431610880 := by decide +kernel
set_option maxRecDepth 20000 in
noncomputable def wn_X7_pay : List Nat := [590, 462, 475, 47, 48, 49, 50, 51, 52, 53, 54, 55, 56, 57, 58, 59, 60, 61, 62, 63, 64, 65, 66, 67, 68, 69, 70, 71, 72, 73, 74, 75]
noncomputable def wsX7_pay : List Cond := wn_X7_pay.map wTb
theorem wi_X7_pay : wsX7_pay = wn_X7_pay.map wTb := rfl
set_option maxRecDepth 20000 in
theorem wm_X7_pay : mkm wn_X7_pay = 4052261297735344686047273304385899659102142746707871239121682663330912257079960130052313398435712972825810680857973967271274799631100212826847406903143448280715819830903260053504 := by decide +kernel
set_option maxRecDepth 20000 in
noncomputable def wn_X7_pays : List Nat := [600, 464, 475, 572, 573, 574, 481, 525, 454, 489, 490, 486, 591, 592, 593, 589, 575, 576, 577, 526, 578, 579, 580, 566, 462, 463, 560, 561, 562, 557, 473, 452, 535, 536, 537, 529, 461, 530, 531, 532, 528, 459, 455, 563, 564, 565, 559, 474, 460, 594, 595, 596, 588, 597, 598, 599, 590, 47, 48, 49, 50, 51, 52, 53, 54, 55, 56, 57, 58, 59, 60, 61, 62, 63, 64, 65, 66, 67, 68, 69, 70, 71, 72, 73, 74, 75]
noncomputable def wsX7_pays : List Cond := wn_X7_pays.map wTb
theorem wi_X7_pays : wsX7_pays = wn_X7_pays.map wTb := rfl
set_option maxRecDepth 20000 in
theorem wm_X7_pays : mkm wn_X7_pays = 8298025972033901083412088622883468192334471844030825595808685867403203911284349552308549578854672681442281374836339823226966324593899734279168411312235000307920626605949344041402368 := by decide +kernel
set_option maxRecDepth 20000 in
noncomputable def wn_X7_trades : List Nat := [601, 464, 460, 546, 547, 548, 481, 524, 453, 489, 490, 486, 542, 543, 544, 523, 452, 594, 595, 596, 588, 47, 48, 49, 50, 51, 52, 53, 54, 55, 56, 57, 58, 59, 60, 61, 62, 63, 64, 65, 66, 67, 68, 69, 70, 71, 72, 73, 74, 75]
noncomputable def wsX7_trades : List Cond := wn_X7_trades.map wTb
theorem wi_X7_trades : wsX7_trades = wn_X7_trades.map wTb := rfl
set_option maxRecDepth 20000 in
theorem wm_X7_trades : mkm wn_X7_trades = 8753897468432780071220077495420748670418134431115653325130793170222788330950952571002868987264215441034868044420319078730565728497922327769025993494261160815989803324142389020327936 := by decide +kernel
set_option maxRecDepth 20000 in
noncomputable def wn_X7_loses : List Nat := [602, 464, 546, 547, 548, 481, 524, 453, 489, 490, 486, 542, 543, 544, 523, 452, 594, 595, 596, 588, 47, 48, 49, 50, 51, 52, 53, 54, 55, 56, 57, 58, 59, 60, 61, 62, 63, 64, 65, 66, 67, 68, 69, 70, 71, 72, 73, 74, 75]
noncomputable def wsX7_loses : List Cond := wn_X7_loses.map wTb
theorem wi_X7_loses : wsX7_loses = wn_X7_loses.map wTb := rfl
set_option maxRecDepth 20000 in
theorem wm_X7_loses : mkm wn_X7_loses = 17052928606194765988244893222803070972443023918469112410316284139573776844510196151287269709903648116627407973744396544617462086570202154809235206279200588923847351173217137262067712 := by decide +kernel
set_option maxRecDepth 20000 in
noncomputable def wn_X7_finds : List Nat := [603, 464, 546, 547, 548, 481, 524, 453, 489, 490, 486, 542, 543, 544, 523, 452, 594, 595, 596, 588, 47, 48, 49, 50, 51, 52, 53, 54, 55, 56, 57, 58, 59, 60, 61, 62, 63, 64, 65, 66, 67, 68, 69, 70, 71, 72, 73, 74, 75]
noncomputable def wsX7_finds : List Cond := wn_X7_finds.map wTb
theorem wi_X7_finds : wsX7_finds = wn_X7_finds.map wTb := rfl
set_option maxRecDepth 20000 in
theorem wm_X7_finds : mkm wn_X7_finds = 33650990881718737822294524677567715576492808847438860010298913458336388090161828736886097905692063293780199520189599701347042690871849256040782705615656443672092078386823175356809216 := by decide +kernel
set_option maxRecDepth 20000 in
noncomputable def wn_X7_passes : List Nat := [604, 464, 462, 572, 573, 574, 481, 525, 454, 489, 490, 486, 546, 547, 548, 524, 453, 575, 576, 577, 526, 594, 595, 596, 588, 47, 48, 49, 50, 51, 52, 53, 54, 55, 56, 57, 58, 59, 60, 61, 62, 63, 64, 65, 66, 67, 68, 69, 70, 71, 72, 73, 74, 75]
noncomputable def wsX7_passes : List Cond := wn_X7_passes.map wTb
theorem wi_X7_passes : wsX7_passes = wn_X7_passes.map wTb := rfl
set_option maxRecDepth 20000 in
theorem wm_X7_passes : mkm wn_X7_passes = 66847116406630137189967523503655128071324598043591125864318561669163978886919514793974862451258830573897007219782653437941619246989321784047508361709935847546658698532113516985319424 := by decide +kernel
set_option maxRecDepth 20000 in
noncomputable def wn_X7_undo : List Nat := [605, 464, 47, 48, 49, 50, 51, 52, 53, 54, 55, 56, 57, 58, 59, 60, 61, 62, 63, 64, 65, 66, 67, 68, 69, 70, 71, 72, 73, 74, 75]
noncomputable def wsX7_undo : List Cond := wn_X7_undo.map wTb
theorem wi_X7_undo : wsX7_undo = wn_X7_undo.map wTb := rfl
set_option maxRecDepth 20000 in
theorem wm_X7_undo : mkm wn_X7_undo = 132784498204191774672397051638117156832398327065860616236754213590585963713478224085030839570383720024964025873938011053482947939669876387061412584824262826246270427696085814483091456 := by decide +kernel
set_option maxRecDepth 20000 in
noncomputable def wn_X7_now : List Nat := [606, 464, 454, 453, 463, 575, 576, 577, 481, 526, 581, 582, 583, 570, 567, 568, 569, 558, 452, 473, 535, 536, 537, 529, 461, 530, 531, 532, 528, 459, 455, 489, 490, 486, 538, 539, 540, 533, 563, 564, 565, 559, 474, 460, 475, 549, 550, 551, 541, 47, 48, 49, 50, 51, 52, 53, 54, 55, 56, 57, 58, 59, 60, 61, 62, 63, 64, 65, 66, 67, 68, 69, 70, 71, 72, 73, 74, 75]
noncomputable def wsX7_now : List Cond := wn_X7_now.map wTb
theorem wi_X7_now : wsX7_now = wn_X7_now.map wTb := rfl
set_option maxRecDepth 20000 in
theorem wm_X7_now : mkm wn_X7_now = 265569052683510077612966844322385078379764795129657606247045975895221792795282793829706143071136622502335452080431683369906673260468312280810286500153306671118746824598121937379524608 := by decide +kernel
set_option maxRecDepth 20000 in
noncomputable def wn_X7_pieces : List Nat := [607, 464, 475, 572, 573, 574, 481, 525, 454, 489, 490, 486, 542, 543, 544, 523, 452, 578, 579, 580, 566, 462, 463, 560, 561, 562, 557, 473, 535, 536, 537, 529, 461, 530, 531, 532, 528, 459, 455, 563, 564, 565, 559, 474, 460, 47, 48, 49, 50, 51, 52, 53, 54, 55, 56, 57, 58, 59, 60, 61, 62, 63, 64, 65, 66, 67, 68, 69, 70, 71, 72, 73, 74, 75]
noncomputable def wsX7_pieces : List Cond := wn_X7_pieces.map wTb
theorem wi_X7_pieces : wsX7_pieces = wn_X7_pieces.map wTb := rfl
set_option maxRecDepth 20000 in
theorem wm_X7_pieces : mkm wn_X7_pieces = 531137999850707042637056598837970161443911958960567691064387489617257046900109986261866336877893287059693886953387766910689690689451335412748081552820642500343183220526342081710391296 := by decide +kernel
set_option maxRecDepth 20000 in
noncomputable def wn_X7_isRow : List Nat := [608, 476, 464, 575, 576, 577, 481, 526, 47, 48, 49, 50, 51, 52, 53, 54, 55, 56, 57, 58, 59, 60, 61, 62, 63, 64, 65, 66, 67, 68, 69, 70, 71, 72, 73, 74, 75]
noncomputable def wsX7_isRow : List Cond := wn_X7_isRow.map wTb
theorem wi_X7_isRow : wsX7_isRow = wn_X7_isRow.map wTb := rfl
set_option maxRecDepth 20000 in
theorem wm_X7_isRow : mkm wn_X7_isRow = 1062275986499190602535042501990221202413900934016978508271830392048890899886489521043503950566671253614092007071685505579439840079342308394006302015893719385659064691573585054435115008 := by decide +kernel
set_option maxRecDepth 20000 in
noncomputable def wn_X7_doesGo : List Nat := [612, 472, 476, 609, 610, 611, 481, 522, 464, 591, 592, 593, 589, 475, 575, 576, 577, 526, 578, 579, 580, 566, 462, 463, 560, 561, 562, 557, 473, 452, 535, 536, 537, 529, 461, 530, 531, 532, 528, 459, 455, 489, 490, 486, 563, 564, 565, 559, 474, 460, 597, 598, 599, 590, 47, 48, 49, 50, 51, 52, 53, 54, 55, 56, 57, 58, 59, 60, 61, 62, 63, 64, 65, 66, 67, 68, 69, 70, 71, 72, 73, 74, 75]
noncomputable def wsX7_doesGo : List Cond := wn_X7_doesGo.map wTb
theorem wi_X7_doesGo : wsX7_doesGo = wn_X7_doesGo.map wTb := rfl
set_option maxRecDepth 20000 in
theorem wm_X7_doesGo : mkm wn_X7_doesGo = 31871973212970300986414699937720255534816702367210216936195739129000600910790964242712800759041087764693857491322790963081123589321006619724952971995656675727978571409133881910284517376 := by decide +kernel
set_option maxRecDepth 20000 in
noncomputable def wn_X7_findRow : List Nat := [621, 464, 613, 614, 481, 527, 615, 616, 617, 608, 476, 575, 576, 577, 526, 618, 619, 620, 612, 472, 609, 610, 611, 522, 591, 592, 593, 589, 475, 578, 579, 580, 566, 462, 463, 560, 561, 562, 557, 473, 452, 535, 536, 537, 529, 461, 530, 531, 532, 528, 459, 455, 489, 490, 486, 563, 564, 565, 559, 474, 460, 597, 598, 599, 590, 47, 48, 49, 50, 51, 52, 53, 54, 55, 56, 57, 58, 59, 60, 61, 62, 63, 64, 65, 66, 67, 68, 69, 70, 71, 72, 73, 74, 75]
noncomputable def wsX7_findRow : List Cond := wn_X7_findRow.map wTb
theorem wi_X7_findRow : wsX7_findRow = wn_X7_findRow.map wTb := rfl
set_option maxRecDepth 20000 in
theorem wm_X7_findRow : mkm wn_X7_findRow = 17403271166278155030728086583882106231224848232506357948238424889016643288928995961471007261233504868588838255004344670173339438925137413520907488311911469840384789319356242314193348329472 := by decide +kernel
set_option maxRecDepth 20000 in
noncomputable def wn_X7_order : List Nat := [625, 476, 489, 490, 481, 486, 622, 623, 624, 621, 464, 613, 614, 527, 615, 616, 617, 608, 575, 576, 577, 526, 618, 619, 620, 612, 472, 609, 610, 611, 522, 591, 592, 593, 589, 475, 578, 579, 580, 566, 462, 463, 560, 561, 562, 557, 473, 452, 535, 536, 537, 529, 461, 530, 531, 532, 528, 459, 455, 563, 564, 565, 559, 474, 460, 597, 598, 599, 590, 47, 48, 49, 50, 51, 52, 53, 54, 55, 56, 57, 58, 59, 60, 61, 62, 63, 64, 65, 66, 67, 68, 69, 70, 71, 72, 73, 74, 75]
noncomputable def wsX7_order : List Cond := wn_X7_order.map wTb
theorem wi_X7_order : wsX7_order = wn_X7_order.map wTb := rfl
set_option maxRecDepth 20000 in
theorem wm_X7_order : mkm wn_X7_order = 278468217395575519378634481868551485936266457457697088839229207697279001031735090312624160374639003360561321484084224849236490114968196075835474748275264485067816735560368717332668357804032 := by decide +kernel
set_option maxRecDepth 20000 in
noncomputable def wn_X7_lender : List Nat := [626, 453, 546, 547, 548, 481, 524, 489, 490, 486, 549, 550, 551, 541, 452, 464, 460, 552, 553, 554, 534, 535, 536, 537, 529, 461, 530, 531, 532, 528, 459, 455, 538, 539, 540, 533, 47, 48, 49, 50, 51, 52, 53, 54, 55, 56, 57, 58, 59, 60, 61, 62, 63, 64, 65, 66, 67, 68, 69, 70, 71, 72, 73, 74, 75]
noncomputable def wsX7_lender : List Cond := wn_X7_lender.map wTb
theorem wi_X7_lender : wsX7_lender = wn_X7_lender.map wTb := rfl
set_option maxRecDepth 20000 in
theorem wm_X7_lender : mkm wn_X7_lender = 278469275977917188637884542014070431059998218057115587535969417244554005552293299843908374326825123768511578770628968295437514539041510632284046013075700808798760787221686008057676724961280 := by decide +kernel
set_option maxRecDepth 20000 in
noncomputable def wn_X7_corner : List Nat := [627, 452, 572, 573, 574, 481, 525, 454, 489, 490, 486, 581, 582, 583, 570, 464, 463, 567, 568, 569, 558, 473, 535, 536, 537, 529, 461, 530, 531, 532, 528, 459, 455, 538, 539, 540, 533, 453, 563, 564, 565, 559, 474, 460, 475, 613, 614, 527, 47, 48, 49, 50, 51, 52, 53, 54, 55, 56, 57, 58, 59, 60, 61, 62, 63, 64, 65, 66, 67, 68, 69, 70, 71, 72, 73, 74, 75]
noncomputable def wsX7_corner : List Cond := wn_X7_corner.map wTb
theorem wi_X7_corner : wsX7_corner = wn_X7_corner.map wTb := rfl
set_option maxRecDepth 20000 in
theorem wm_X7_corner : mkm wn_X7_corner = 557040530450510714235642894516160627974900069584508881275521836282143847226019704484050775953138192608791858367175415063087879503278704122667148611504128381703361752809508798730461515874304 := by decide +kernel
set_option maxRecDepth 20000 in
noncomputable def wn_X7_odds : List Nat := [628, 452, 572, 573, 574, 481, 525, 454, 489, 490, 486, 581, 582, 583, 570, 464, 463, 567, 568, 569, 558, 473, 535, 536, 537, 529, 461, 530, 531, 532, 528, 459, 455, 538, 539, 540, 533, 453, 563, 564, 565, 559, 474, 460, 475, 47, 48, 49, 50, 51, 52, 53, 54, 55, 56, 57, 58, 59, 60, 61, 62, 63, 64, 65, 66, 67, 68, 69, 70, 71, 72, 73, 74, 75]
noncomputable def wsX7_odds : List Cond := wn_X7_odds.map wTb
theorem wi_X7_odds : wsX7_odds = wn_X7_odds.map wTb := rfl
set_option maxRecDepth 20000 in
theorem wm_X7_odds : mkm wn_X7_odds = 1113877103911724272228228136854024550318959861697886675395906670499330489067970250589703671066580457271747279183948622966558654644085852985219204030008982488851661490648996945461189413961728 := by decide +kernel
set_option maxRecDepth 20000 in
noncomputable def wn_X7_took : List Nat := [629, 466, 477, 542, 543, 544, 481, 523, 452, 489, 490, 486, 47, 48, 49, 50, 51, 52, 53, 54, 55, 56, 57, 58, 59, 60, 61, 62, 63, 64, 65, 66, 67, 68, 69, 70, 71, 72, 73, 74, 75]
noncomputable def wsX7_took : List Cond := wn_X7_took.map wTb
theorem wi_X7_took : wsX7_took = wn_X7_took.map wTb := rfl
set_option maxRecDepth 20000 in
theorem wm_X7_took : mkm wn_X7_took = 2227754207823337509102134673871541830441266230881470126421326349428478173548788676549928111996081660541754411261515756173156008723676972804127338662387352913881736285826611942142719022858240 := by decide +kernel
set_option maxRecDepth 20000 in
noncomputable def wn_X7_forget : List Nat := [630, 466, 47, 48, 49, 50, 51, 52, 53, 54, 55, 56, 57, 58, 59, 60, 61, 62, 63, 64, 65, 66, 67, 68, 69, 70, 71, 72, 73, 74, 75]
noncomputable def wsX7_forget : List Cond := wn_X7_forget.map wTb
theorem wi_X7_forget : wsX7_forget = wn_X7_forget.map wTb := rfl
set_option maxRecDepth 20000 in
theorem wm_X7_forget : mkm wn_X7_forget = 4455508415646675018204269146191690746966043464110112343616784440833727067417519003320334080762976523901924811409737297894887636789680622196966923406171585323678791590203712598509815223812096 := by decide +kernel
set_option maxRecDepth 20000 in
noncomputable def wn_X7_years : List Nat := [631, 466, 477, 489, 490, 481, 486, 530, 531, 532, 528, 459, 455, 47, 48, 49, 50, 51, 52, 53, 54, 55, 56, 57, 58, 59, 60, 61, 62, 63, 64, 65, 66, 67, 68, 69, 70, 71, 72, 73, 74, 75]
noncomputable def wsX7_years : List Cond := wn_X7_years.map wTb
theorem wi_X7_years : wsX7_years = wn_X7_years.map wTb := rfl
set_option maxRecDepth 20000 in
theorem wm_X7_years : mkm wn_X7_years = 8911016831293350036408538292408863622846496752913444723199335035199297734434048525030352879566099693625970403439550001358452464301521075663821362508487290039181299926007152182878981349965824 := by decide +kernel
set_option maxRecDepth 20000 in
noncomputable def wn_X7_mark : List Nat := [642, 632, 460, 459, 633, 634, 635, 636, 637, 638, 464, 489, 490, 481, 486, 542, 543, 544, 523, 452, 538, 539, 540, 533, 453, 639, 640, 641, 545, 535, 536, 537, 529, 461, 530, 531, 532, 528, 455, 613, 614, 527, 47, 48, 49, 50, 51, 52, 53, 54, 55, 56, 57, 58, 59, 60, 61, 62, 63, 64, 65, 66, 67, 68, 69, 70, 71, 72, 73, 74, 75]
noncomputable def wsX7_mark : List Cond := wn_X7_mark.map wTb
theorem wi_X7_mark : wsX7_mark = wn_X7_mark.map wTb := rfl
set_option maxRecDepth 20000 in
theorem wm_X7_mark : mkm wn_X7_mark = 36481703009293469669875838717641588970130991479210994276118880864345599035033596567363694718317612519996537943136389958960956961490384612051576805297584631860147152633633828627847893615372140544 := by decide +kernel
set_option maxRecDepth 20000 in
noncomputable def wn_X7_keep : List Nat := [643, 464, 467, 489, 490, 481, 486, 613, 614, 527, 47, 48, 49, 50, 51, 52, 53, 54, 55, 56, 57, 58, 59, 60, 61, 62, 63, 64, 65, 66, 67, 68, 69, 70, 71, 72, 73, 74, 75]
noncomputable def wsX7_keep : List Cond := wn_X7_keep.map wTb
theorem wi_X7_keep : wsX7_keep = wn_X7_keep.map wTb := rfl
set_option maxRecDepth 20000 in
theorem wm_X7_keep : mkm wn_X7_keep = 36499525042956056369948655794003266696566854758630421413378463812301999150883779880046119992855278730740982099255014622799306830680185360417329443572104500772694914722812793670992591456951074816 := by decide +kernel
set_option maxRecDepth 20000 in
noncomputable def wn_X7_back : List Nat := [644, 467, 464, 489, 490, 481, 486, 613, 614, 527, 47, 48, 49, 50, 51, 52, 53, 54, 55, 56, 57, 58, 59, 60, 61, 62, 63, 64, 65, 66, 67, 68, 69, 70, 71, 72, 73, 74, 75]
noncomputable def wsX7_back : List Cond := wn_X7_back.map wTb
theorem wi_X7_back : wsX7_back = wn_X7_back.map wTb := rfl
set_option maxRecDepth 20000 in
theorem wm_X7_back : mkm wn_X7_back = 72999049983933618119078028639605597295712682816618900858012003955496200488553198972093422483394249928970120575843769881284816468451188864403350734129882214278710872117694913271655584994923905024 := by decide +kernel
set_option maxRecDepth 20000 in
noncomputable def wn_X7_count : List Nat := [645, 452, 453, 454, 455, 466, 464, 488, 47, 48, 49, 50, 51, 52, 53, 54, 55, 56, 57, 58, 59, 60, 61, 62, 63, 64, 65, 66, 67, 68, 69, 70, 71, 72, 73, 74, 75]
noncomputable def wsX7_count : List Cond := wn_X7_count.map wTb
theorem wi_X7_count : wsX7_count = wn_X7_count.map wTb := rfl
set_option maxRecDepth 20000 in
theorem wm_X7_count : mkm wn_X7_count = 145998099763910246996517491382409322396583312232753085645760009055025905790438990025095297991924192404121836415525382314395133907980259395452908456905374967076390010167568303699079926422454665216 := by decide +kernel
set_option maxRecDepth 20000 in
noncomputable def wn_X7_trace : List Nat := [646, 633, 47, 48, 49, 50, 51, 52, 53, 54, 55, 56, 57, 58, 59, 60, 61, 62, 63, 64, 65, 66, 67, 68, 69, 70, 71, 72, 73, 74, 75]
noncomputable def wsX7_trace : List Cond := wn_X7_trace.map wTb
theorem wi_X7_trace : wsX7_trace = wn_X7_trace.map wTb := rfl
set_option maxRecDepth 20000 in
theorem wm_X7_trace : mkm wn_X7_trace = 292031843595145667393180616917988178319142352811620714931525971087099698788599170528460497368150186549893878455753585774191191857673663777497531673378782037846473377867450471933090055935244632064 := by decide +kernel
set_option maxRecDepth 20000 in
noncomputable def wn_L_law_r1 : List Nat := [647, 648, 344, 649, 650, 481, 651, 652, 322, 291, 78, 79, 81, 292, 293, 294, 295, 180, 296, 297, 298, 102, 299, 300]
noncomputable def wsL_law_r1 : List Cond := wn_L_law_r1.map wTb
theorem wi_L_law_r1 : wsL_law_r1 = wn_L_law_r1.map wTb := rfl
set_option maxRecDepth 20000 in
noncomputable def wn_L_law_r2 : List Nat := [301, 232, 128, 302, 303, 304, 305, 306, 153, 307, 308, 309, 283, 310, 311, 312, 247, 313, 314, 315, 316, 317, 166, 167]
noncomputable def wsL_law_r2 : List Cond := wn_L_law_r2.map wTb
theorem wi_L_law_r2 : wsL_law_r2 = wn_L_law_r2.map wTb := rfl
set_option maxRecDepth 20000 in
noncomputable def wn_L_law_r3 : List Nat := [168, 169, 170, 171, 172, 173, 318, 76, 77, 80, 82, 83, 84, 85, 86, 87, 88, 89, 90, 91, 92, 237, 108, 109]
noncomputable def wsL_law_r3 : List Cond := wn_L_law_r3.map wTb
theorem wi_L_law_r3 : wsL_law_r3 = wn_L_law_r3.map wTb := rfl
set_option maxRecDepth 20000 in
noncomputable def wn_L_law_r4 : List Nat := [110, 111, 112, 319, 141, 142, 143, 144, 145, 146, 320, 269, 270, 271, 272, 273, 274, 321, 229, 230, 231, 233, 234, 235]
noncomputable def wsL_law_r4 : List Cond := wn_L_law_r4.map wTb
theorem wi_L_law_r4 : wsL_law_r4 = wn_L_law_r4.map wTb := rfl
set_option maxRecDepth 20000 in
noncomputable def wn_L_law_r5 : List Nat := [236, 653, 654, 485, 468, 469, 470, 452, 459, 460, 453, 461, 457, 454, 462, 465, 463, 455, 464, 471, 467, 472, 473, 474]
noncomputable def wsL_law_r5 : List Cond := wn_L_law_r5.map wTb
theorem wi_L_law_r5 : wsL_law_r5 = wn_L_law_r5.map wTb := rfl
set_option maxRecDepth 20000 in
noncomputable def wn_L_law_r6 : List Nat := [475, 476, 477, 478, 479, 480, 451, 456, 482, 483, 484, 458, 466, 655, 656, 657, 323, 658, 659, 660, 487, 488, 489, 490]
noncomputable def wsL_law_r6 : List Cond := wn_L_law_r6.map wTb
theorem wi_L_law_r6 : wsL_law_r6 = wn_L_law_r6.map wTb := rfl
set_option maxRecDepth 20000 in
noncomputable def wn_L_law_r7 : List Nat := [486, 661, 662, 663, 324, 664, 665, 666, 491, 667, 668, 669, 329, 325, 326, 228, 219, 220, 221, 222, 223, 224, 93, 188]
noncomputable def wsL_law_r7 : List Cond := wn_L_law_r7.map wTb
theorem wi_L_law_r7 : wsL_law_r7 = wn_L_law_r7.map wTb := rfl
set_option maxRecDepth 20000 in
noncomputable def wn_L_law_r8 : List Nat := [189, 190, 177, 178, 179, 174, 181, 182, 183, 175, 184, 185, 186, 176, 225, 226, 227, 218, 203, 204, 205, 198, 192, 193]
noncomputable def wsL_law_r8 : List Cond := wn_L_law_r8.map wTb
theorem wi_L_law_r8 : wsL_law_r8 = wn_L_law_r8.map wTb := rfl
set_option maxRecDepth 20000 in
noncomputable def wn_L_law_r9 : List Nat := [194, 187, 195, 196, 197, 191, 206, 207, 208, 199, 209, 210, 211, 200, 212, 213, 214, 201, 215, 216, 217, 202, 327, 328]
noncomputable def wsL_law_r9 : List Cond := wn_L_law_r9.map wTb
theorem wi_L_law_r9 : wsL_law_r9 = wn_L_law_r9.map wTb := rfl
set_option maxRecDepth 20000 in
noncomputable def wn_L_law_r10 : List Nat := [113, 114, 115, 116, 117, 670, 671, 672, 521, 493, 502, 497, 503, 504, 505, 494, 495, 496, 498, 499, 500, 492, 515, 516]
noncomputable def wsL_law_r10 : List Cond := wn_L_law_r10.map wTb
theorem wi_L_law_r10 : wsL_law_r10 = wn_L_law_r10.map wTb := rfl
set_option maxRecDepth 20000 in
noncomputable def wn_L_law_r11 : List Nat := [517, 510, 507, 508, 509, 501, 518, 519, 520, 514, 511, 512, 513, 506, 673, 674, 675, 334, 330, 331, 94, 332, 333, 103]
noncomputable def wsL_law_r11 : List Cond := wn_L_law_r11.map wTb
theorem wi_L_law_r11 : wsL_law_r11 = wn_L_law_r11.map wTb := rfl
set_option maxRecDepth 20000 in
noncomputable def wn_L_law_r12 : List Nat := [104, 105, 106, 98, 99, 100, 101, 97, 275, 276, 124, 125, 126, 127, 122, 676, 640, 641, 545, 542, 543, 544, 523, 535]
noncomputable def wsL_law_r12 : List Cond := wn_L_law_r12.map wTb
theorem wi_L_law_r12 : wsL_law_r12 = wn_L_law_r12.map wTb := rfl
set_option maxRecDepth 20000 in
noncomputable def wn_L_law_r13 : List Nat := [536, 537, 529, 530, 531, 532, 528, 538, 539, 540, 533, 677, 678, 679, 348, 337, 338, 95, 339, 340, 107, 341, 342, 343]
noncomputable def wsL_law_r13 : List Cond := wn_L_law_r13.map wTb
theorem wi_L_law_r13 : wsL_law_r13 = wn_L_law_r13.map wTb := rfl
set_option maxRecDepth 20000 in
noncomputable def wn_L_law_r14 : List Nat := [335, 345, 346, 347, 336, 680, 681, 682, 555, 546, 547, 548, 524, 549, 550, 551, 541, 552, 553, 554, 534, 683, 684, 685]
noncomputable def wsL_law_r14 : List Cond := wn_L_law_r14.map wTb
theorem wi_L_law_r14 : wsL_law_r14 = wn_L_law_r14.map wTb := rfl
set_option maxRecDepth 20000 in
noncomputable def wn_L_law_r15 : List Nat := [349, 686, 687, 688, 556, 689, 690, 691, 366, 355, 356, 96, 136, 137, 130, 253, 254, 133, 357, 358, 359, 350, 163, 164]
noncomputable def wsL_law_r15 : List Cond := wn_L_law_r15.map wTb
theorem wi_L_law_r15 : wsL_law_r15 = wn_L_law_r15.map wTb := rfl
set_option maxRecDepth 20000 in
noncomputable def wn_L_law_r16 : List Nat := [161, 148, 155, 156, 157, 149, 150, 151, 152, 147, 158, 159, 160, 154, 360, 361, 362, 353, 351, 352, 277, 281, 282, 278]
noncomputable def wsL_law_r16 : List Cond := wn_L_law_r16.map wTb
theorem wi_L_law_r16 : wsL_law_r16 = wn_L_law_r16.map wTb := rfl
set_option maxRecDepth 20000 in
noncomputable def wn_L_law_r17 : List Nat := [363, 364, 365, 354, 255, 256, 165, 162, 692, 693, 694, 587, 572, 573, 574, 525, 575, 576, 577, 526, 578, 579, 580, 566]
noncomputable def wsL_law_r17 : List Cond := wn_L_law_r17.map wTb
theorem wi_L_law_r17 : wsL_law_r17 = wn_L_law_r17.map wTb := rfl
set_option maxRecDepth 20000 in
noncomputable def wn_L_law_r18 : List Nat := [560, 561, 562, 557, 563, 564, 565, 559, 581, 582, 583, 570, 567, 568, 569, 558, 584, 585, 586, 571, 695, 696, 697, 367]
noncomputable def wsL_law_r18 : List Cond := wn_L_law_r18.map wTb
theorem wi_L_law_r18 : wsL_law_r18 = wn_L_law_r18.map wTb := rfl
set_option maxRecDepth 20000 in
noncomputable def wn_L_law_r19 : List Nat := [257, 258, 120, 259, 260, 134, 135, 138, 139, 140, 123, 698, 699, 700, 600, 591, 592, 593, 589, 594, 595, 596, 588, 597]
noncomputable def wsL_law_r19 : List Cond := wn_L_law_r19.map wTb
theorem wi_L_law_r19 : wsL_law_r19 = wn_L_law_r19.map wTb := rfl
set_option maxRecDepth 20000 in
noncomputable def wn_L_law_r20 : List Nat := [598, 599, 590, 701, 702, 703, 368, 704, 705, 706, 601, 707, 708, 709, 369, 710, 711, 712, 602, 713, 714, 715, 370, 716]
noncomputable def wsL_law_r20 : List Cond := wn_L_law_r20.map wTb
theorem wi_L_law_r20 : wsL_law_r20 = wn_L_law_r20.map wTb := rfl
set_option maxRecDepth 20000 in
noncomputable def wn_L_law_r21 : List Nat := [717, 718, 603, 719, 720, 721, 373, 371, 372, 131, 722, 723, 724, 604, 725, 726, 727, 374, 263, 264, 121, 728, 729, 730]
noncomputable def wsL_law_r21 : List Cond := wn_L_law_r21.map wTb
theorem wi_L_law_r21 : wsL_law_r21 = wn_L_law_r21.map wTb := rfl
set_option maxRecDepth 20000 in
noncomputable def wn_L_law_r22 : List Nat := [605, 731, 732, 733, 387, 248, 249, 132, 378, 379, 380, 375, 381, 382, 383, 376, 384, 385, 386, 377, 734, 735, 736, 606]
noncomputable def wsL_law_r22 : List Cond := wn_L_law_r22.map wTb
theorem wi_L_law_r22 : wsL_law_r22 = wn_L_law_r22.map wTb := rfl
set_option maxRecDepth 20000 in
noncomputable def wn_L_law_r23 : List Nat := [737, 738, 739, 388, 740, 741, 742, 607, 743, 744, 745, 391, 389, 390, 268, 266, 267, 119, 261, 262, 265, 244, 245, 246]
noncomputable def wsL_law_r23 : List Cond := wn_L_law_r23.map wTb
theorem wi_L_law_r23 : wsL_law_r23 = wn_L_law_r23.map wTb := rfl
set_option maxRecDepth 20000 in
noncomputable def wn_L_law_r24 : List Nat := [238, 239, 250, 251, 252, 240, 241, 242, 243, 746, 747, 748, 625, 622, 623, 624, 621, 613, 614, 527, 615, 616, 617, 608]
noncomputable def wsL_law_r24 : List Cond := wn_L_law_r24.map wTb
theorem wi_L_law_r24 : wsL_law_r24 = wn_L_law_r24.map wTb := rfl
set_option maxRecDepth 20000 in
noncomputable def wn_L_law_r25 : List Nat := [618, 619, 620, 612, 609, 610, 611, 522, 749, 750, 751, 394, 392, 393, 129, 752, 753, 754, 626, 755, 756, 757, 397, 395]
noncomputable def wsL_law_r25 : List Cond := wn_L_law_r25.map wTb
theorem wi_L_law_r25 : wsL_law_r25 = wn_L_law_r25.map wTb := rfl
set_option maxRecDepth 20000 in
noncomputable def wn_L_law_r26 : List Nat := [396, 279, 280, 284, 758, 759, 760, 627, 761, 762, 763, 405, 399, 400, 286, 287, 288, 289, 285, 401, 402, 290, 403, 404]
noncomputable def wsL_law_r26 : List Cond := wn_L_law_r26.map wTb
theorem wi_L_law_r26 : wsL_law_r26 = wn_L_law_r26.map wTb := rfl
set_option maxRecDepth 20000 in
noncomputable def wn_L_law_r27 : List Nat := [398, 764, 765, 766, 628, 767, 768, 769, 406, 770, 771, 772, 629, 773, 774, 775, 407, 776, 777, 778, 630, 779, 780, 781]
noncomputable def wsL_law_r27 : List Cond := wn_L_law_r27.map wTb
theorem wi_L_law_r27 : wsL_law_r27 = wn_L_law_r27.map wTb := rfl
set_option maxRecDepth 20000 in
noncomputable def wn_L_law_r28 : List Nat := [409, 410, 411, 412, 408, 782, 783, 784, 631, 785, 786, 787, 444, 434, 416, 417, 418, 413, 423, 424, 425, 414, 415, 427]
noncomputable def wsL_law_r28 : List Cond := wn_L_law_r28.map wTb
theorem wi_L_law_r28 : wsL_law_r28 = wn_L_law_r28.map wTb := rfl
set_option maxRecDepth 20000 in
noncomputable def wn_L_law_r29 : List Nat := [428, 429, 419, 420, 435, 436, 437, 421, 422, 438, 439, 440, 431, 426, 430, 441, 442, 443, 432, 433, 788, 789, 790, 642]
noncomputable def wsL_law_r29 : List Cond := wn_L_law_r29.map wTb
theorem wi_L_law_r29 : wsL_law_r29 = wn_L_law_r29.map wTb := rfl
set_option maxRecDepth 20000 in
noncomputable def wn_L_law_r30 : List Nat := [632, 633, 634, 635, 636, 637, 638, 639, 791, 792, 793, 445, 446, 447, 118, 794, 795, 796, 643, 797, 798, 799, 448, 800]
noncomputable def wsL_law_r30 : List Cond := wn_L_law_r30.map wTb
theorem wi_L_law_r30 : wsL_law_r30 = wn_L_law_r30.map wTb := rfl
set_option maxRecDepth 20000 in
noncomputable def wn_L_law_r31 : List Nat := [801, 802, 644, 803, 804, 805, 449, 806, 807, 808, 645, 809, 810, 811, 450, 812, 813, 814, 646]
noncomputable def wsL_law_r31 : List Cond := wn_L_law_r31.map wTb
theorem wi_L_law_r31 : wsL_law_r31 = wn_L_law_r31.map wTb := rfl
noncomputable def wsL_law : List Cond := (wsL_law_r1 ++ (wsL_law_r2 ++ (wsL_law_r3 ++ (wsL_law_r4 ++ (wsL_law_r5 ++ (wsL_law_r6 ++ (wsL_law_r7 ++ (wsL_law_r8 ++ (wsL_law_r9 ++ (wsL_law_r10 ++ (wsL_law_r11 ++ (wsL_law_r12 ++ (wsL_law_r13 ++ (wsL_law_r14 ++ (wsL_law_r15 ++ (wsL_law_r16 ++ (wsL_law_r17 ++ (wsL_law_r18 ++ (wsL_law_r19 ++ (wsL_law_r20 ++ (wsL_law_r21 ++ (wsL_law_r22 ++ (wsL_law_r23 ++ (wsL_law_r24 ++ (wsL_law_r25 ++ (wsL_law_r26 ++ (wsL_law_r27 ++ (wsL_law_r28 ++ (wsL_law_r29 ++ (wsL_law_r30 ++ wsL_law_r31)))))))))))))))))))))))))))))) ++ wsX60 ++ wsX70 ++ wsX30 ++ wsX00 ++ wsX10 ++ wsX20 ++ wsX50 ++ wsX40 ++ ([] : List Cond)
noncomputable def wn_L_law : List Nat := ((((((((((wn_L_law_r1 ++ (wn_L_law_r2 ++ (wn_L_law_r3 ++ (wn_L_law_r4 ++ (wn_L_law_r5 ++ (wn_L_law_r6 ++ (wn_L_law_r7 ++ (wn_L_law_r8 ++ (wn_L_law_r9 ++ (wn_L_law_r10 ++ (wn_L_law_r11 ++ (wn_L_law_r12 ++ (wn_L_law_r13 ++ (wn_L_law_r14 ++ (wn_L_law_r15 ++ (wn_L_law_r16 ++ (wn_L_law_r17 ++ (wn_L_law_r18 ++ (wn_L_law_r19 ++ (wn_L_law_r20 ++ (wn_L_law_r21 ++ (wn_L_law_r22 ++ (wn_L_law_r23 ++ (wn_L_law_r24 ++ (wn_L_law_r25 ++ (wn_L_law_r26 ++ (wn_L_law_r27 ++ (wn_L_law_r28 ++ (wn_L_law_r29 ++ (wn_L_law_r30 ++ wn_L_law_r31)))))))))))))))))))))))))))))) ++ wn_X60) ++ wn_X70) ++ wn_X30) ++ wn_X00) ++ wn_X10) ++ wn_X20) ++ wn_X50) ++ wn_X40) ++ [])
set_option maxRecDepth 20000 in
theorem wi_L_law : wsL_law = wn_L_law.map wTb := (Ids.app (x := (((((((((wn_L_law_r1 ++ (wn_L_law_r2 ++ (wn_L_law_r3 ++ (wn_L_law_r4 ++ (wn_L_law_r5 ++ (wn_L_law_r6 ++ (wn_L_law_r7 ++ (wn_L_law_r8 ++ (wn_L_law_r9 ++ (wn_L_law_r10 ++ (wn_L_law_r11 ++ (wn_L_law_r12 ++ (wn_L_law_r13 ++ (wn_L_law_r14 ++ (wn_L_law_r15 ++ (wn_L_law_r16 ++ (wn_L_law_r17 ++ (wn_L_law_r18 ++ (wn_L_law_r19 ++ (wn_L_law_r20 ++ (wn_L_law_r21 ++ (wn_L_law_r22 ++ (wn_L_law_r23 ++ (wn_L_law_r24 ++ (wn_L_law_r25 ++ (wn_L_law_r26 ++ (wn_L_law_r27 ++ (wn_L_law_r28 ++ (wn_L_law_r29 ++ (wn_L_law_r30 ++ wn_L_law_r31)))))))))))))))))))))))))))))) ++ wn_X60) ++ wn_X70) ++ wn_X30) ++ wn_X00) ++ wn_X10) ++ wn_X20) ++ wn_X50) ++ wn_X40)) (y := []) (Ids.app (x := ((((((((wn_L_law_r1 ++ (wn_L_law_r2 ++ (wn_L_law_r3 ++ (wn_L_law_r4 ++ (wn_L_law_r5 ++ (wn_L_law_r6 ++ (wn_L_law_r7 ++ (wn_L_law_r8 ++ (wn_L_law_r9 ++ (wn_L_law_r10 ++ (wn_L_law_r11 ++ (wn_L_law_r12 ++ (wn_L_law_r13 ++ (wn_L_law_r14 ++ (wn_L_law_r15 ++ (wn_L_law_r16 ++ (wn_L_law_r17 ++ (wn_L_law_r18 ++ (wn_L_law_r19 ++ (wn_L_law_r20 ++ (wn_L_law_r21 ++ (wn_L_law_r22 ++ (wn_L_law_r23 ++ (wn_L_law_r24 ++ (wn_L_law_r25 ++ (wn_L_law_r26 ++ (wn_L_law_r27 ++ (wn_L_law_r28 ++ (wn_L_law_r29 ++ (wn_L_law_r30 ++ wn_L_law_r31)))))))))))))))))))))))))))))) ++ wn_X60) ++ wn_X70) ++ wn_X30) ++ wn_X00) ++ wn_X10) ++ wn_X20) ++ wn_X50)) (y := wn_X40) (Ids.app (x := (((((((wn_L_law_r1 ++ (wn_L_law_r2 ++ (wn_L_law_r3 ++ (wn_L_law_r4 ++ (wn_L_law_r5 ++ (wn_L_law_r6 ++ (wn_L_law_r7 ++ (wn_L_law_r8 ++ (wn_L_law_r9 ++ (wn_L_law_r10 ++ (wn_L_law_r11 ++ (wn_L_law_r12 ++ (wn_L_law_r13 ++ (wn_L_law_r14 ++ (wn_L_law_r15 ++ (wn_L_law_r16 ++ (wn_L_law_r17 ++ (wn_L_law_r18 ++ (wn_L_law_r19 ++ (wn_L_law_r20 ++ (wn_L_law_r21 ++ (wn_L_law_r22 ++ (wn_L_law_r23 ++ (wn_L_law_r24 ++ (wn_L_law_r25 ++ (wn_L_law_r26 ++ (wn_L_law_r27 ++ (wn_L_law_r28 ++ (wn_L_law_r29 ++ (wn_L_law_r30 ++ wn_L_law_r31)))))))))))))))))))))))))))))) ++ wn_X60) ++ wn_X70) ++ wn_X30) ++ wn_X00) ++ wn_X10) ++ wn_X20)) (y := wn_X50) (Ids.app (x := ((((((wn_L_law_r1 ++ (wn_L_law_r2 ++ (wn_L_law_r3 ++ (wn_L_law_r4 ++ (wn_L_law_r5 ++ (wn_L_law_r6 ++ (wn_L_law_r7 ++ (wn_L_law_r8 ++ (wn_L_law_r9 ++ (wn_L_law_r10 ++ (wn_L_law_r11 ++ (wn_L_law_r12 ++ (wn_L_law_r13 ++ (wn_L_law_r14 ++ (wn_L_law_r15 ++ (wn_L_law_r16 ++ (wn_L_law_r17 ++ (wn_L_law_r18 ++ (wn_L_law_r19 ++ (wn_L_law_r20 ++ (wn_L_law_r21 ++ (wn_L_law_r22 ++ (wn_L_law_r23 ++ (wn_L_law_r24 ++ (wn_L_law_r25 ++ (wn_L_law_r26 ++ (wn_L_law_r27 ++ (wn_L_law_r28 ++ (wn_L_law_r29 ++ (wn_L_law_r30 ++ wn_L_law_r31)))))))))))))))))))))))))))))) ++ wn_X60) ++ wn_X70) ++ wn_X30) ++ wn_X00) ++ wn_X10)) (y := wn_X20) (Ids.app (x := (((((wn_L_law_r1 ++ (wn_L_law_r2 ++ (wn_L_law_r3 ++ (wn_L_law_r4 ++ (wn_L_law_r5 ++ (wn_L_law_r6 ++ (wn_L_law_r7 ++ (wn_L_law_r8 ++ (wn_L_law_r9 ++ (wn_L_law_r10 ++ (wn_L_law_r11 ++ (wn_L_law_r12 ++ (wn_L_law_r13 ++ (wn_L_law_r14 ++ (wn_L_law_r15 ++ (wn_L_law_r16 ++ (wn_L_law_r17 ++ (wn_L_law_r18 ++ (wn_L_law_r19 ++ (wn_L_law_r20 ++ (wn_L_law_r21 ++ (wn_L_law_r22 ++ (wn_L_law_r23 ++ (wn_L_law_r24 ++ (wn_L_law_r25 ++ (wn_L_law_r26 ++ (wn_L_law_r27 ++ (wn_L_law_r28 ++ (wn_L_law_r29 ++ (wn_L_law_r30 ++ wn_L_law_r31)))))))))))))))))))))))))))))) ++ wn_X60) ++ wn_X70) ++ wn_X30) ++ wn_X00)) (y := wn_X10) (Ids.app (x := ((((wn_L_law_r1 ++ (wn_L_law_r2 ++ (wn_L_law_r3 ++ (wn_L_law_r4 ++ (wn_L_law_r5 ++ (wn_L_law_r6 ++ (wn_L_law_r7 ++ (wn_L_law_r8 ++ (wn_L_law_r9 ++ (wn_L_law_r10 ++ (wn_L_law_r11 ++ (wn_L_law_r12 ++ (wn_L_law_r13 ++ (wn_L_law_r14 ++ (wn_L_law_r15 ++ (wn_L_law_r16 ++ (wn_L_law_r17 ++ (wn_L_law_r18 ++ (wn_L_law_r19 ++ (wn_L_law_r20 ++ (wn_L_law_r21 ++ (wn_L_law_r22 ++ (wn_L_law_r23 ++ (wn_L_law_r24 ++ (wn_L_law_r25 ++ (wn_L_law_r26 ++ (wn_L_law_r27 ++ (wn_L_law_r28 ++ (wn_L_law_r29 ++ (wn_L_law_r30 ++ wn_L_law_r31)))))))))))))))))))))))))))))) ++ wn_X60) ++ wn_X70) ++ wn_X30)) (y := wn_X00) (Ids.app (x := (((wn_L_law_r1 ++ (wn_L_law_r2 ++ (wn_L_law_r3 ++ (wn_L_law_r4 ++ (wn_L_law_r5 ++ (wn_L_law_r6 ++ (wn_L_law_r7 ++ (wn_L_law_r8 ++ (wn_L_law_r9 ++ (wn_L_law_r10 ++ (wn_L_law_r11 ++ (wn_L_law_r12 ++ (wn_L_law_r13 ++ (wn_L_law_r14 ++ (wn_L_law_r15 ++ (wn_L_law_r16 ++ (wn_L_law_r17 ++ (wn_L_law_r18 ++ (wn_L_law_r19 ++ (wn_L_law_r20 ++ (wn_L_law_r21 ++ (wn_L_law_r22 ++ (wn_L_law_r23 ++ (wn_L_law_r24 ++ (wn_L_law_r25 ++ (wn_L_law_r26 ++ (wn_L_law_r27 ++ (wn_L_law_r28 ++ (wn_L_law_r29 ++ (wn_L_law_r30 ++ wn_L_law_r31)))))))))))))))))))))))))))))) ++ wn_X60) ++ wn_X70)) (y := wn_X30) (Ids.app (x := ((wn_L_law_r1 ++ (wn_L_law_r2 ++ (wn_L_law_r3 ++ (wn_L_law_r4 ++ (wn_L_law_r5 ++ (wn_L_law_r6 ++ (wn_L_law_r7 ++ (wn_L_law_r8 ++ (wn_L_law_r9 ++ (wn_L_law_r10 ++ (wn_L_law_r11 ++ (wn_L_law_r12 ++ (wn_L_law_r13 ++ (wn_L_law_r14 ++ (wn_L_law_r15 ++ (wn_L_law_r16 ++ (wn_L_law_r17 ++ (wn_L_law_r18 ++ (wn_L_law_r19 ++ (wn_L_law_r20 ++ (wn_L_law_r21 ++ (wn_L_law_r22 ++ (wn_L_law_r23 ++ (wn_L_law_r24 ++ (wn_L_law_r25 ++ (wn_L_law_r26 ++ (wn_L_law_r27 ++ (wn_L_law_r28 ++ (wn_L_law_r29 ++ (wn_L_law_r30 ++ wn_L_law_r31)))))))))))))))))))))))))))))) ++ wn_X60)) (y := wn_X70) (Ids.app (x := (wn_L_law_r1 ++ (wn_L_law_r2 ++ (wn_L_law_r3 ++ (wn_L_law_r4 ++ (wn_L_law_r5 ++ (wn_L_law_r6 ++ (wn_L_law_r7 ++ (wn_L_law_r8 ++ (wn_L_law_r9 ++ (wn_L_law_r10 ++ (wn_L_law_r11 ++ (wn_L_law_r12 ++ (wn_L_law_r13 ++ (wn_L_law_r14 ++ (wn_L_law_r15 ++ (wn_L_law_r16 ++ (wn_L_law_r17 ++ (wn_L_law_r18 ++ (wn_L_law_r19 ++ (wn_L_law_r20 ++ (wn_L_law_r21 ++ (wn_L_law_r22 ++ (wn_L_law_r23 ++ (wn_L_law_r24 ++ (wn_L_law_r25 ++ (wn_L_law_r26 ++ (wn_L_law_r27 ++ (wn_L_law_r28 ++ (wn_L_law_r29 ++ (wn_L_law_r30 ++ wn_L_law_r31))))))))))))))))))))))))))))))) (y := wn_X60) (Ids.app (x := wn_L_law_r1) (y := (wn_L_law_r2 ++ (wn_L_law_r3 ++ (wn_L_law_r4 ++ (wn_L_law_r5 ++ (wn_L_law_r6 ++ (wn_L_law_r7 ++ (wn_L_law_r8 ++ (wn_L_law_r9 ++ (wn_L_law_r10 ++ (wn_L_law_r11 ++ (wn_L_law_r12 ++ (wn_L_law_r13 ++ (wn_L_law_r14 ++ (wn_L_law_r15 ++ (wn_L_law_r16 ++ (wn_L_law_r17 ++ (wn_L_law_r18 ++ (wn_L_law_r19 ++ (wn_L_law_r20 ++ (wn_L_law_r21 ++ (wn_L_law_r22 ++ (wn_L_law_r23 ++ (wn_L_law_r24 ++ (wn_L_law_r25 ++ (wn_L_law_r26 ++ (wn_L_law_r27 ++ (wn_L_law_r28 ++ (wn_L_law_r29 ++ (wn_L_law_r30 ++ wn_L_law_r31)))))))))))))))))))))))))))))) wi_L_law_r1 (Ids.app (x := wn_L_law_r2) (y := (wn_L_law_r3 ++ (wn_L_law_r4 ++ (wn_L_law_r5 ++ (wn_L_law_r6 ++ (wn_L_law_r7 ++ (wn_L_law_r8 ++ (wn_L_law_r9 ++ (wn_L_law_r10 ++ (wn_L_law_r11 ++ (wn_L_law_r12 ++ (wn_L_law_r13 ++ (wn_L_law_r14 ++ (wn_L_law_r15 ++ (wn_L_law_r16 ++ (wn_L_law_r17 ++ (wn_L_law_r18 ++ (wn_L_law_r19 ++ (wn_L_law_r20 ++ (wn_L_law_r21 ++ (wn_L_law_r22 ++ (wn_L_law_r23 ++ (wn_L_law_r24 ++ (wn_L_law_r25 ++ (wn_L_law_r26 ++ (wn_L_law_r27 ++ (wn_L_law_r28 ++ (wn_L_law_r29 ++ (wn_L_law_r30 ++ wn_L_law_r31))))))))))))))))))))))))))))) wi_L_law_r2 (Ids.app (x := wn_L_law_r3) (y := (wn_L_law_r4 ++ (wn_L_law_r5 ++ (wn_L_law_r6 ++ (wn_L_law_r7 ++ (wn_L_law_r8 ++ (wn_L_law_r9 ++ (wn_L_law_r10 ++ (wn_L_law_r11 ++ (wn_L_law_r12 ++ (wn_L_law_r13 ++ (wn_L_law_r14 ++ (wn_L_law_r15 ++ (wn_L_law_r16 ++ (wn_L_law_r17 ++ (wn_L_law_r18 ++ (wn_L_law_r19 ++ (wn_L_law_r20 ++ (wn_L_law_r21 ++ (wn_L_law_r22 ++ (wn_L_law_r23 ++ (wn_L_law_r24 ++ (wn_L_law_r25 ++ (wn_L_law_r26 ++ (wn_L_law_r27 ++ (wn_L_law_r28 ++ (wn_L_law_r29 ++ (wn_L_law_r30 ++ wn_L_law_r31)))))))))))))))))))))))))))) wi_L_law_r3 (Ids.app (x := wn_L_law_r4) (y := (wn_L_law_r5 ++ (wn_L_law_r6 ++ (wn_L_law_r7 ++ (wn_L_law_r8 ++ (wn_L_law_r9 ++ (wn_L_law_r10 ++ (wn_L_law_r11 ++ (wn_L_law_r12 ++ (wn_L_law_r13 ++ (wn_L_law_r14 ++ (wn_L_law_r15 ++ (wn_L_law_r16 ++ (wn_L_law_r17 ++ (wn_L_law_r18 ++ (wn_L_law_r19 ++ (wn_L_law_r20 ++ (wn_L_law_r21 ++ (wn_L_law_r22 ++ (wn_L_law_r23 ++ (wn_L_law_r24 ++ (wn_L_law_r25 ++ (wn_L_law_r26 ++ (wn_L_law_r27 ++ (wn_L_law_r28 ++ (wn_L_law_r29 ++ (wn_L_law_r30 ++ wn_L_law_r31))))))))))))))))))))))))))) wi_L_law_r4 (Ids.app (x := wn_L_law_r5) (y := (wn_L_law_r6 ++ (wn_L_law_r7 ++ (wn_L_law_r8 ++ (wn_L_law_r9 ++ (wn_L_law_r10 ++ (wn_L_law_r11 ++ (wn_L_law_r12 ++ (wn_L_law_r13 ++ (wn_L_law_r14 ++ (wn_L_law_r15 ++ (wn_L_law_r16 ++ (wn_L_law_r17 ++ (wn_L_law_r18 ++ (wn_L_law_r19 ++ (wn_L_law_r20 ++ (wn_L_law_r21 ++ (wn_L_law_r22 ++ (wn_L_law_r23 ++ (wn_L_law_r24 ++ (wn_L_law_r25 ++ (wn_L_law_r26 ++ (wn_L_law_r27 ++ (wn_L_law_r28 ++ (wn_L_law_r29 ++ (wn_L_law_r30 ++ wn_L_law_r31)))))))))))))))))))))))))) wi_L_law_r5 (Ids.app (x := wn_L_law_r6) (y := (wn_L_law_r7 ++ (wn_L_law_r8 ++ (wn_L_law_r9 ++ (wn_L_law_r10 ++ (wn_L_law_r11 ++ (wn_L_law_r12 ++ (wn_L_law_r13 ++ (wn_L_law_r14 ++ (wn_L_law_r15 ++ (wn_L_law_r16 ++ (wn_L_law_r17 ++ (wn_L_law_r18 ++ (wn_L_law_r19 ++ (wn_L_law_r20 ++ (wn_L_law_r21 ++ (wn_L_law_r22 ++ (wn_L_law_r23 ++ (wn_L_law_r24 ++ (wn_L_law_r25 ++ (wn_L_law_r26 ++ (wn_L_law_r27 ++ (wn_L_law_r28 ++ (wn_L_law_r29 ++ (wn_L_law_r30 ++ wn_L_law_r31))))))))))))))))))))))))) wi_L_law_r6 (Ids.app (x := wn_L_law_r7) (y := (wn_L_law_r8 ++ (wn_L_law_r9 ++ (wn_L_law_r10 ++ (wn_L_law_r11 ++ (wn_L_law_r12 ++ (wn_L_law_r13 ++ (wn_L_law_r14 ++ (wn_L_law_r15 ++ (wn_L_law_r16 ++ (wn_L_law_r17 ++ (wn_L_law_r18 ++ (wn_L_law_r19 ++ (wn_L_law_r20 ++ (wn_L_law_r21 ++ (wn_L_law_r22 ++ (wn_L_law_r23 ++ (wn_L_law_r24 ++ (wn_L_law_r25 ++ (wn_L_law_r26 ++ (wn_L_law_r27 ++ (wn_L_law_r28 ++ (wn_L_law_r29 ++ (wn_L_law_r30 ++ wn_L_law_r31)))))))))))))))))))))))) wi_L_law_r7 (Ids.app (x := wn_L_law_r8) (y := (wn_L_law_r9 ++ (wn_L_law_r10 ++ (wn_L_law_r11 ++ (wn_L_law_r12 ++ (wn_L_law_r13 ++ (wn_L_law_r14 ++ (wn_L_law_r15 ++ (wn_L_law_r16 ++ (wn_L_law_r17 ++ (wn_L_law_r18 ++ (wn_L_law_r19 ++ (wn_L_law_r20 ++ (wn_L_law_r21 ++ (wn_L_law_r22 ++ (wn_L_law_r23 ++ (wn_L_law_r24 ++ (wn_L_law_r25 ++ (wn_L_law_r26 ++ (wn_L_law_r27 ++ (wn_L_law_r28 ++ (wn_L_law_r29 ++ (wn_L_law_r30 ++ wn_L_law_r31))))))))))))))))))))))) wi_L_law_r8 (Ids.app (x := wn_L_law_r9) (y := (wn_L_law_r10 ++ (wn_L_law_r11 ++ (wn_L_law_r12 ++ (wn_L_law_r13 ++ (wn_L_law_r14 ++ (wn_L_law_r15 ++ (wn_L_law_r16 ++ (wn_L_law_r17 ++ (wn_L_law_r18 ++ (wn_L_law_r19 ++ (wn_L_law_r20 ++ (wn_L_law_r21 ++ (wn_L_law_r22 ++ (wn_L_law_r23 ++ (wn_L_law_r24 ++ (wn_L_law_r25 ++ (wn_L_law_r26 ++ (wn_L_law_r27 ++ (wn_L_law_r28 ++ (wn_L_law_r29 ++ (wn_L_law_r30 ++ wn_L_law_r31)))))))))))))))))))))) wi_L_law_r9 (Ids.app (x := wn_L_law_r10) (y := (wn_L_law_r11 ++ (wn_L_law_r12 ++ (wn_L_law_r13 ++ (wn_L_law_r14 ++ (wn_L_law_r15 ++ (wn_L_law_r16 ++ (wn_L_law_r17 ++ (wn_L_law_r18 ++ (wn_L_law_r19 ++ (wn_L_law_r20 ++ (wn_L_law_r21 ++ (wn_L_law_r22 ++ (wn_L_law_r23 ++ (wn_L_law_r24 ++ (wn_L_law_r25 ++ (wn_L_law_r26 ++ (wn_L_law_r27 ++ (wn_L_law_r28 ++ (wn_L_law_r29 ++ (wn_L_law_r30 ++ wn_L_law_r31))))))))))))))))))))) wi_L_law_r10 (Ids.app (x := wn_L_law_r11) (y := (wn_L_law_r12 ++ (wn_L_law_r13 ++ (wn_L_law_r14 ++ (wn_L_law_r15 ++ (wn_L_law_r16 ++ (wn_L_law_r17 ++ (wn_L_law_r18 ++ (wn_L_law_r19 ++ (wn_L_law_r20 ++ (wn_L_law_r21 ++ (wn_L_law_r22 ++ (wn_L_law_r23 ++ (wn_L_law_r24 ++ (wn_L_law_r25 ++ (wn_L_law_r26 ++ (wn_L_law_r27 ++ (wn_L_law_r28 ++ (wn_L_law_r29 ++ (wn_L_law_r30 ++ wn_L_law_r31)))))))))))))))))))) wi_L_law_r11 (Ids.app (x := wn_L_law_r12) (y := (wn_L_law_r13 ++ (wn_L_law_r14 ++ (wn_L_law_r15 ++ (wn_L_law_r16 ++ (wn_L_law_r17 ++ (wn_L_law_r18 ++ (wn_L_law_r19 ++ (wn_L_law_r20 ++ (wn_L_law_r21 ++ (wn_L_law_r22 ++ (wn_L_law_r23 ++ (wn_L_law_r24 ++ (wn_L_law_r25 ++ (wn_L_law_r26 ++ (wn_L_law_r27 ++ (wn_L_law_r28 ++ (wn_L_law_r29 ++ (wn_L_law_r30 ++ wn_L_law_r31))))))))))))))))))) wi_L_law_r12 (Ids.app (x := wn_L_law_r13) (y := (wn_L_law_r14 ++ (wn_L_law_r15 ++ (wn_L_law_r16 ++ (wn_L_law_r17 ++ (wn_L_law_r18 ++ (wn_L_law_r19 ++ (wn_L_law_r20 ++ (wn_L_law_r21 ++ (wn_L_law_r22 ++ (wn_L_law_r23 ++ (wn_L_law_r24 ++ (wn_L_law_r25 ++ (wn_L_law_r26 ++ (wn_L_law_r27 ++ (wn_L_law_r28 ++ (wn_L_law_r29 ++ (wn_L_law_r30 ++ wn_L_law_r31)))))))))))))))))) wi_L_law_r13 (Ids.app (x := wn_L_law_r14) (y := (wn_L_law_r15 ++ (wn_L_law_r16 ++ (wn_L_law_r17 ++ (wn_L_law_r18 ++ (wn_L_law_r19 ++ (wn_L_law_r20 ++ (wn_L_law_r21 ++ (wn_L_law_r22 ++ (wn_L_law_r23 ++ (wn_L_law_r24 ++ (wn_L_law_r25 ++ (wn_L_law_r26 ++ (wn_L_law_r27 ++ (wn_L_law_r28 ++ (wn_L_law_r29 ++ (wn_L_law_r30 ++ wn_L_law_r31))))))))))))))))) wi_L_law_r14 (Ids.app (x := wn_L_law_r15) (y := (wn_L_law_r16 ++ (wn_L_law_r17 ++ (wn_L_law_r18 ++ (wn_L_law_r19 ++ (wn_L_law_r20 ++ (wn_L_law_r21 ++ (wn_L_law_r22 ++ (wn_L_law_r23 ++ (wn_L_law_r24 ++ (wn_L_law_r25 ++ (wn_L_law_r26 ++ (wn_L_law_r27 ++ (wn_L_law_r28 ++ (wn_L_law_r29 ++ (wn_L_law_r30 ++ wn_L_law_r31)))))))))))))))) wi_L_law_r15 (Ids.app (x := wn_L_law_r16) (y := (wn_L_law_r17 ++ (wn_L_law_r18 ++ (wn_L_law_r19 ++ (wn_L_law_r20 ++ (wn_L_law_r21 ++ (wn_L_law_r22 ++ (wn_L_law_r23 ++ (wn_L_law_r24 ++ (wn_L_law_r25 ++ (wn_L_law_r26 ++ (wn_L_law_r27 ++ (wn_L_law_r28 ++ (wn_L_law_r29 ++ (wn_L_law_r30 ++ wn_L_law_r31))))))))))))))) wi_L_law_r16 (Ids.app (x := wn_L_law_r17) (y := (wn_L_law_r18 ++ (wn_L_law_r19 ++ (wn_L_law_r20 ++ (wn_L_law_r21 ++ (wn_L_law_r22 ++ (wn_L_law_r23 ++ (wn_L_law_r24 ++ (wn_L_law_r25 ++ (wn_L_law_r26 ++ (wn_L_law_r27 ++ (wn_L_law_r28 ++ (wn_L_law_r29 ++ (wn_L_law_r30 ++ wn_L_law_r31)))))))))))))) wi_L_law_r17 (Ids.app (x := wn_L_law_r18) (y := (wn_L_law_r19 ++ (wn_L_law_r20 ++ (wn_L_law_r21 ++ (wn_L_law_r22 ++ (wn_L_law_r23 ++ (wn_L_law_r24 ++ (wn_L_law_r25 ++ (wn_L_law_r26 ++ (wn_L_law_r27 ++ (wn_L_law_r28 ++ (wn_L_law_r29 ++ (wn_L_law_r30 ++ wn_L_law_r31))))))))))))) wi_L_law_r18 (Ids.app (x := wn_L_law_r19) (y := (wn_L_law_r20 ++ (wn_L_law_r21 ++ (wn_L_law_r22 ++ (wn_L_law_r23 ++ (wn_L_law_r24 ++ (wn_L_law_r25 ++ (wn_L_law_r26 ++ (wn_L_law_r27 ++ (wn_L_law_r28 ++ (wn_L_law_r29 ++ (wn_L_law_r30 ++ wn_L_law_r31)))))))))))) wi_L_law_r19 (Ids.app (x := wn_L_law_r20) (y := (wn_L_law_r21 ++ (wn_L_law_r22 ++ (wn_L_law_r23 ++ (wn_L_law_r24 ++ (wn_L_law_r25 ++ (wn_L_law_r26 ++ (wn_L_law_r27 ++ (wn_L_law_r28 ++ (wn_L_law_r29 ++ (wn_L_law_r30 ++ wn_L_law_r31))))))))))) wi_L_law_r20 (Ids.app (x := wn_L_law_r21) (y := (wn_L_law_r22 ++ (wn_L_law_r23 ++ (wn_L_law_r24 ++ (wn_L_law_r25 ++ (wn_L_law_r26 ++ (wn_L_law_r27 ++ (wn_L_law_r28 ++ (wn_L_law_r29 ++ (wn_L_law_r30 ++ wn_L_law_r31)))))))))) wi_L_law_r21 (Ids.app (x := wn_L_law_r22) (y := (wn_L_law_r23 ++ (wn_L_law_r24 ++ (wn_L_law_r25 ++ (wn_L_law_r26 ++ (wn_L_law_r27 ++ (wn_L_law_r28 ++ (wn_L_law_r29 ++ (wn_L_law_r30 ++ wn_L_law_r31))))))))) wi_L_law_r22 (Ids.app (x := wn_L_law_r23) (y := (wn_L_law_r24 ++ (wn_L_law_r25 ++ (wn_L_law_r26 ++ (wn_L_law_r27 ++ (wn_L_law_r28 ++ (wn_L_law_r29 ++ (wn_L_law_r30 ++ wn_L_law_r31)))))))) wi_L_law_r23 (Ids.app (x := wn_L_law_r24) (y := (wn_L_law_r25 ++ (wn_L_law_r26 ++ (wn_L_law_r27 ++ (wn_L_law_r28 ++ (wn_L_law_r29 ++ (wn_L_law_r30 ++ wn_L_law_r31))))))) wi_L_law_r24 (Ids.app (x := wn_L_law_r25) (y := (wn_L_law_r26 ++ (wn_L_law_r27 ++ (wn_L_law_r28 ++ (wn_L_law_r29 ++ (wn_L_law_r30 ++ wn_L_law_r31)))))) wi_L_law_r25 (Ids.app (x := wn_L_law_r26) (y := (wn_L_law_r27 ++ (wn_L_law_r28 ++ (wn_L_law_r29 ++ (wn_L_law_r30 ++ wn_L_law_r31))))) wi_L_law_r26 (Ids.app (x := wn_L_law_r27) (y := (wn_L_law_r28 ++ (wn_L_law_r29 ++ (wn_L_law_r30 ++ wn_L_law_r31)))) wi_L_law_r27 (Ids.app (x := wn_L_law_r28) (y := (wn_L_law_r29 ++ (wn_L_law_r30 ++ wn_L_law_r31))) wi_L_law_r28 (Ids.app (x := wn_L_law_r29) (y := (wn_L_law_r30 ++ wn_L_law_r31)) wi_L_law_r29 (Ids.app (x := wn_L_law_r30) (y := wn_L_law_r31) wi_L_law_r30 wi_L_law_r31)))))))))))))))))))))))))))))) wi_X60) wi_X70) wi_X30) wi_X00) wi_X10) wi_X20) wi_X50) wi_X40) rfl)
set_option maxRecDepth 20000 in
theorem wm_L_law : mkm wn_L_law = 218497496936607064853048583478354175496839440705647678599864575975883972208808167719614290358159090999064327310325620422930884252602183354953346451122776638950446123565515229051718149272758321962318725648740732173736042431692028683588857933856767 := by decide +kernel
