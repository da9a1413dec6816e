theorem q_1100 : Cond.methodLink RL 55 yX11_of ∈ GW := inT_4 (List.mem_of_getElem? (i := 230) rfl) rfl
theorem q_1101 : Cond.instanceMethod yX11_of ∈ GW := inT_4 (List.mem_of_getElem? (i := 231) rfl) rfl
theorem q_1102 : Cond.selects RX11 yX11_of yX11_of ∈ GW := inT_4 (List.mem_of_getElem? (i := 232) rfl) rfl
theorem q_1103 : Cond.code yX11_of cX11_of 4 (some .int) ∈ GW := inT_4 (List.mem_of_getElem? (i := 233) rfl) rfl
theorem q_1129 : Cond.methodLink RL 60 yX11_far ∈ GW := inT_5 (List.mem_of_getElem? (i := 19) rfl) rfl
theorem q_1130 : Cond.instanceMethod yX11_far ∈ GW := inT_5 (List.mem_of_getElem? (i := 20) rfl) rfl
theorem q_1131 : Cond.selects RX11 yX11_far yX11_far ∈ GW := inT_5 (List.mem_of_getElem? (i := 21) rfl) rfl
theorem q_1132 : Cond.code yX11_far cX11_far 3 (some .int) ∈ GW := inT_5 (List.mem_of_getElem? (i := 22) rfl) rfl
theorem q_1134 : Cond.methodLink RL 64 yX11_need ∈ GW := inT_5 (List.mem_of_getElem? (i := 24) rfl) rfl
theorem q_1135 : Cond.instanceMethod yX11_need ∈ GW := inT_5 (List.mem_of_getElem? (i := 25) rfl) rfl
theorem q_1136 : Cond.selects RX11 yX11_need yX11_need ∈ GW := inT_5 (List.mem_of_getElem? (i := 26) rfl) rfl
theorem q_1137 : Cond.code yX11_need cX11_need 4 (some .int) ∈ GW := inT_5 (List.mem_of_getElem? (i := 27) rfl) rfl
theorem q_1139 : Cond.methodLink RL 68 yX11_book ∈ GW := inT_5 (List.mem_of_getElem? (i := 29) rfl) rfl
theorem q_1140 : Cond.instanceMethod yX11_book ∈ GW := inT_5 (List.mem_of_getElem? (i := 30) rfl) rfl
theorem q_1141 : Cond.selects RX11 yX11_book yX11_book ∈ GW := inT_5 (List.mem_of_getElem? (i := 31) rfl) rfl
theorem q_1142 : Cond.code yX11_book cX11_book 3 (some .int) ∈ GW := inT_5 (List.mem_of_getElem? (i := 32) rfl) rfl
theorem q_1143 : Cond.methodLink RL 72 yX11_run ∈ GW := inT_5 (List.mem_of_getElem? (i := 33) rfl) rfl
theorem q_1144 : Cond.instanceMethod yX11_run ∈ GW := inT_5 (List.mem_of_getElem? (i := 34) rfl) rfl
theorem q_1145 : Cond.selects RX11 yX11_run yX11_run ∈ GW := inT_5 (List.mem_of_getElem? (i := 35) rfl) rfl
theorem q_1146 : Cond.code yX11_run cX11_run 7 (some .int) ∈ GW := inT_5 (List.mem_of_getElem? (i := 36) rfl) rfl
theorem q_1150 : Cond.methodLink RL 76 yX11_plan ∈ GW := inT_5 (List.mem_of_getElem? (i := 40) rfl) rfl
theorem q_1151 : Cond.instanceMethod yX11_plan ∈ GW := inT_5 (List.mem_of_getElem? (i := 41) rfl) rfl
theorem q_1152 : Cond.selects RX11 yX11_plan yX11_plan ∈ GW := inT_5 (List.mem_of_getElem? (i := 42) rfl) rfl
theorem q_1153 : Cond.code yX11_plan cX11_plan 4 (some .int) ∈ GW := inT_5 (List.mem_of_getElem? (i := 43) rfl) rfl
theorem q_1246 : Cond.methodLink RL 80 yX11_mend ∈ GW := inT_5 (List.mem_of_getElem? (i := 136) rfl) rfl
theorem q_1247 : Cond.instanceMethod yX11_mend ∈ GW := inT_5 (List.mem_of_getElem? (i := 137) rfl) rfl
theorem q_1248 : Cond.selects RX11 yX11_mend yX11_mend ∈ GW := inT_5 (List.mem_of_getElem? (i := 138) rfl) rfl
theorem q_1249 : Cond.code yX11_mend cX11_mend 5 (some .int) ∈ GW := inT_5 (List.mem_of_getElem? (i := 139) rfl) rfl
theorem q_1260 : Cond.methodLink RL 84 yX11_rooms ∈ GW := inT_5 (List.mem_of_getElem? (i := 150) rfl) rfl
theorem q_1261 : Cond.instanceMethod yX11_rooms ∈ GW := inT_5 (List.mem_of_getElem? (i := 151) rfl) rfl
theorem q_1262 : Cond.selects RX11 yX11_rooms yX11_rooms ∈ GW := inT_5 (List.mem_of_getElem? (i := 152) rfl) rfl
theorem q_1263 : Cond.code yX11_rooms cX11_rooms 3 (some .int) ∈ GW := inT_5 (List.mem_of_getElem? (i := 153) rfl) rfl
theorem q_1288 : Cond.methodLink RL 88 yX11_sale ∈ GW := inT_5 (List.mem_of_getElem? (i := 178) rfl) rfl
theorem q_1289 : Cond.instanceMethod yX11_sale ∈ GW := inT_5 (List.mem_of_getElem? (i := 179) rfl) rfl
theorem q_1290 : Cond.selects RX11 yX11_sale yX11_sale ∈ GW := inT_5 (List.mem_of_getElem? (i := 180) rfl) rfl
theorem q_1291 : Cond.code yX11_sale cX11_sale 4 (some .int) ∈ GW := inT_5 (List.mem_of_getElem? (i := 181) rfl) rfl
theorem q_1296 : Cond.methodLink RL 92 yX11_liars ∈ GW := inT_5 (List.mem_of_getElem? (i := 186) rfl) rfl
theorem q_1297 : Cond.instanceMethod yX11_liars ∈ GW := inT_5 (List.mem_of_getElem? (i := 187) rfl) rfl
theorem q_1298 : Cond.selects RX11 yX11_liars yX11_liars ∈ GW := inT_5 (List.mem_of_getElem? (i := 188) rfl) rfl
theorem q_1299 : Cond.code yX11_liars cX11_liars 3 (some .int) ∈ GW := inT_5 (List.mem_of_getElem? (i := 189) rfl) rfl
theorem q_1300 : Cond.methodLink RL 97 yX11_sure ∈ GW := inT_5 (List.mem_of_getElem? (i := 190) rfl) rfl
theorem q_1301 : Cond.instanceMethod yX11_sure ∈ GW := inT_5 (List.mem_of_getElem? (i := 191) rfl) rfl
theorem q_1302 : Cond.selects RX11 yX11_sure yX11_sure ∈ GW := inT_5 (List.mem_of_getElem? (i := 192) rfl) rfl
theorem q_1303 : Cond.code yX11_sure cX11_sure 4 (some .int) ∈ GW := inT_5 (List.mem_of_getElem? (i := 193) rfl) rfl
theorem q_1314 : Cond.methodLink RL 101 yX11_best ∈ GW := inT_5 (List.mem_of_getElem? (i := 204) rfl) rfl
theorem q_1315 : Cond.instanceMethod yX11_best ∈ GW := inT_5 (List.mem_of_getElem? (i := 205) rfl) rfl
theorem q_1316 : Cond.selects RX11 yX11_best yX11_best ∈ GW := inT_5 (List.mem_of_getElem? (i := 206) rfl) rfl
theorem q_1317 : Cond.code yX11_best cX11_best 7 (some .int) ∈ GW := inT_5 (List.mem_of_getElem? (i := 207) rfl) rfl
theorem q_1318 : Cond.methodLink RL 105 yX11_clue ∈ GW := inT_5 (List.mem_of_getElem? (i := 208) rfl) rfl
theorem q_1319 : Cond.instanceMethod yX11_clue ∈ GW := inT_5 (List.mem_of_getElem? (i := 209) rfl) rfl
theorem q_1320 : Cond.selects RX11 yX11_clue yX11_clue ∈ GW := inT_5 (List.mem_of_getElem? (i := 210) rfl) rfl
theorem q_1321 : Cond.code yX11_clue cX11_clue 5 (some .int) ∈ GW := inT_5 (List.mem_of_getElem? (i := 211) rfl) rfl
theorem q_1323 : Cond.methodLink RL 109 yX11_ways ∈ GW := inT_5 (List.mem_of_getElem? (i := 213) rfl) rfl
theorem q_1324 : Cond.instanceMethod yX11_ways ∈ GW := inT_5 (List.mem_of_getElem? (i := 214) rfl) rfl
theorem q_1325 : Cond.selects RX11 yX11_ways yX11_ways ∈ GW := inT_5 (List.mem_of_getElem? (i := 215) rfl) rfl
theorem q_1326 : Cond.code yX11_ways cX11_ways 2 (some .long) ∈ GW := inT_5 (List.mem_of_getElem? (i := 216) rfl) rfl
theorem q_1342 : Cond.methodLink RL 114 yX11_been ∈ GW := inT_5 (List.mem_of_getElem? (i := 232) rfl) rfl
theorem q_1343 : Cond.instanceMethod yX11_been ∈ GW := inT_5 (List.mem_of_getElem? (i := 233) rfl) rfl
theorem q_1344 : Cond.selects RX11 yX11_been yX11_been ∈ GW := inT_5 (List.mem_of_getElem? (i := 234) rfl) rfl
theorem q_1345 : Cond.code yX11_been cX11_been 5 (some .int) ∈ GW := inT_5 (List.mem_of_getElem? (i := 235) rfl) rfl
theorem q_1350 : Cond.methodLink RL 118 yX11_ask ∈ GW := inT_6 (List.mem_of_getElem? (i := 0) rfl) rfl
theorem q_1351 : Cond.instanceMethod yX11_ask ∈ GW := inT_6 (List.mem_of_getElem? (i := 1) rfl) rfl
theorem q_1352 : Cond.selects RX11 yX11_ask yX11_ask ∈ GW := inT_6 (List.mem_of_getElem? (i := 2) rfl) rfl
theorem q_1353 : Cond.code yX11_ask cX11_ask 6 (some .int) ∈ GW := inT_6 (List.mem_of_getElem? (i := 3) rfl) rfl
theorem q_1362 : Cond.methodLink RL 122 yX11_undo ∈ GW := inT_6 (List.mem_of_getElem? (i := 12) rfl) rfl
theorem q_1363 : Cond.instanceMethod yX11_undo ∈ GW := inT_6 (List.mem_of_getElem? (i := 13) rfl) rfl
theorem q_1364 : Cond.selects RX11 yX11_undo yX11_undo ∈ GW := inT_6 (List.mem_of_getElem? (i := 14) rfl) rfl
theorem q_1365 : Cond.code yX11_undo cX11_undo 2 (some .boolean) ∈ GW := inT_6 (List.mem_of_getElem? (i := 15) rfl) rfl
theorem q_1366 : Cond.methodLink RL 127 yX11_image ∈ GW := inT_6 (List.mem_of_getElem? (i := 16) rfl) rfl
theorem q_1367 : Cond.instanceMethod yX11_image ∈ GW := inT_6 (List.mem_of_getElem? (i := 17) rfl) rfl
theorem q_1368 : Cond.selects RX11 yX11_image yX11_image ∈ GW := inT_6 (List.mem_of_getElem? (i := 18) rfl) rfl
theorem q_1369 : Cond.code yX11_image cX11_image 2 (some .boolean) ∈ GW := inT_6 (List.mem_of_getElem? (i := 19) rfl) rfl
theorem q_1388 : Cond.methodLink RL 132 yX11_look ∈ GW := inT_6 (List.mem_of_getElem? (i := 38) rfl) rfl
theorem q_1389 : Cond.instanceMethod yX11_look ∈ GW := inT_6 (List.mem_of_getElem? (i := 39) rfl) rfl
theorem q_1390 : Cond.selects RX11 yX11_look yX11_look ∈ GW := inT_6 (List.mem_of_getElem? (i := 40) rfl) rfl
theorem q_1391 : Cond.code yX11_look cX11_look 3 (some .int) ∈ GW := inT_6 (List.mem_of_getElem? (i := 41) rfl) rfl
theorem q_1392 : Cond.classLink RL 10 RX12 ∈ GW := inT_6 (List.mem_of_getElem? (i := 42) rfl) rfl
theorem q_1393 : Cond.instantiable RX12 70 ∈ GW := inT_6 (List.mem_of_getElem? (i := 43) rfl) rfl
theorem q_1394 : Cond.methodLink RL 12 yX12_init ∈ GW := inT_6 (List.mem_of_getElem? (i := 44) rfl) rfl
theorem q_1395 : Cond.instanceMethod yX12_init ∈ GW := inT_6 (List.mem_of_getElem? (i := 45) rfl) rfl
theorem q_1610 : Cond.methodLink RL 126 yX12_undo ∈ GW := inT_7 (List.mem_of_getElem? (i := 20) rfl) rfl
theorem q_1611 : Cond.instanceMethod yX12_undo ∈ GW := inT_7 (List.mem_of_getElem? (i := 21) rfl) rfl
theorem q_1612 : Cond.selects RX12 yX12_undo yX12_undo ∈ GW := inT_7 (List.mem_of_getElem? (i := 22) rfl) rfl
theorem q_1613 : Cond.code yX12_undo cX12_undo 2 (some .boolean) ∈ GW := inT_7 (List.mem_of_getElem? (i := 23) rfl) rfl
theorem q_1614 : Cond.methodLink RL 17 yX12_state ∈ GW := inT_7 (List.mem_of_getElem? (i := 24) rfl) rfl
theorem q_1615 : Cond.instanceMethod yX12_state ∈ GW := inT_7 (List.mem_of_getElem? (i := 25) rfl) rfl
theorem q_1616 : Cond.selects RX12 yX12_state yX12_state ∈ GW := inT_7 (List.mem_of_getElem? (i := 26) rfl) rfl
theorem q_1617 : Cond.code yX12_state cX12_state 3 (some .int) ∈ GW := inT_7 (List.mem_of_getElem? (i := 27) rfl) rfl
theorem q_1618 : Cond.methodLink RL 22 yX12_house ∈ GW := inT_7 (List.mem_of_getElem? (i := 28) rfl) rfl
theorem q_1619 : Cond.instanceMethod yX12_house ∈ GW := inT_7 (List.mem_of_getElem? (i := 29) rfl) rfl
theorem q_1620 : Cond.selects RX12 yX12_house yX12_house ∈ GW := inT_7 (List.mem_of_getElem? (i := 30) rfl) rfl
theorem q_1621 : Cond.code yX12_house cX12_house 5 (some .int) ∈ GW := inT_7 (List.mem_of_getElem? (i := 31) rfl) rfl
theorem q_1626 : Cond.methodLink RL 27 yX12_set ∈ GW := inT_7 (List.mem_of_getElem? (i := 36) rfl) rfl
theorem q_1627 : Cond.instanceMethod yX12_set ∈ GW := inT_7 (List.mem_of_getElem? (i := 37) rfl) rfl
theorem q_1628 : Cond.selects RX12 yX12_set yX12_set ∈ GW := inT_7 (List.mem_of_getElem? (i := 38) rfl) rfl
theorem q_1629 : Cond.code yX12_set cX12_set 4 (some .boolean) ∈ GW := inT_7 (List.mem_of_getElem? (i := 39) rfl) rfl
theorem q_1642 : Cond.methodLink RL 32 yX12_friends ∈ GW := inT_7 (List.mem_of_getElem? (i := 52) rfl) rfl
theorem q_1643 : Cond.instanceMethod yX12_friends ∈ GW := inT_7 (List.mem_of_getElem? (i := 53) rfl) rfl
theorem q_1644 : Cond.selects RX12 yX12_friends yX12_friends ∈ GW := inT_7 (List.mem_of_getElem? (i := 54) rfl) rfl
theorem q_1645 : Cond.code yX12_friends cX12_friends 4 (some .boolean) ∈ GW := inT_7 (List.mem_of_getElem? (i := 55) rfl) rfl
theorem q_1646 : Cond.methodLink RL 37 yX12_feed ∈ GW := inT_7 (List.mem_of_getElem? (i := 56) rfl) rfl
theorem q_1647 : Cond.instanceMethod yX12_feed ∈ GW := inT_7 (List.mem_of_getElem? (i := 57) rfl) rfl
theorem q_1648 : Cond.selects RX12 yX12_feed yX12_feed ∈ GW := inT_7 (List.mem_of_getElem? (i := 58) rfl) rfl
theorem q_1649 : Cond.code yX12_feed cX12_feed 6 (some .int) ∈ GW := inT_7 (List.mem_of_getElem? (i := 59) rfl) rfl
theorem q_1654 : Cond.methodLink RL 42 yX12_end ∈ GW := inT_7 (List.mem_of_getElem? (i := 64) rfl) rfl
theorem q_1655 : Cond.instanceMethod yX12_end ∈ GW := inT_7 (List.mem_of_getElem? (i := 65) rfl) rfl
theorem q_1656 : Cond.selects RX12 yX12_end yX12_end ∈ GW := inT_7 (List.mem_of_getElem? (i := 66) rfl) rfl
theorem q_1657 : Cond.code yX12_end cX12_end 2 (some .boolean) ∈ GW := inT_7 (List.mem_of_getElem? (i := 67) rfl) rfl
theorem q_1658 : Cond.methodLink RL 46 yX12_text ∈ GW := inT_7 (List.mem_of_getElem? (i := 68) rfl) rfl
theorem q_1659 : Cond.instanceMethod yX12_text ∈ GW := inT_7 (List.mem_of_getElem? (i := 69) rfl) rfl
theorem q_1660 : Cond.selects RX12 yX12_text yX12_text ∈ GW := inT_7 (List.mem_of_getElem? (i := 70) rfl) rfl
theorem q_1661 : Cond.code yX12_text cX12_text 3 (some .int) ∈ GW := inT_7 (List.mem_of_getElem? (i := 71) rfl) rfl
theorem q_171 : Cond.classLink RL 7 RX11 ∈ GW := inT_1 (List.mem_of_getElem? (i := 21) rfl) rfl
theorem q_172 : Cond.instantiable RX11 13 ∈ GW := inT_1 (List.mem_of_getElem? (i := 22) rfl) rfl
theorem q_173 : Cond.methodLink RL 9 yX11_init ∈ GW := inT_1 (List.mem_of_getElem? (i := 23) rfl) rfl
theorem q_174 : Cond.instanceMethod yX11_init ∈ GW := inT_1 (List.mem_of_getElem? (i := 24) rfl) rfl
theorem q_175 : Cond.code yX11_init cX11_init 2 none ∈ GW := inT_1 (List.mem_of_getElem? (i := 25) rfl) rfl
theorem q_1814 : Cond.methodLink RL 50 yX12_fault ∈ GW := inT_7 (List.mem_of_getElem? (i := 224) rfl) rfl
theorem q_1815 : Cond.instanceMethod yX12_fault ∈ GW := inT_7 (List.mem_of_getElem? (i := 225) rfl) rfl
theorem q_1816 : Cond.selects RX12 yX12_fault yX12_fault ∈ GW := inT_7 (List.mem_of_getElem? (i := 226) rfl) rfl
theorem q_1817 : Cond.code yX12_fault cX12_fault 2 (some .int) ∈ GW := inT_7 (List.mem_of_getElem? (i := 227) rfl) rfl
theorem q_1818 : Cond.methodLink RL 63 yX12_far ∈ GW := inT_7 (List.mem_of_getElem? (i := 228) rfl) rfl
theorem q_1819 : Cond.instanceMethod yX12_far ∈ GW := inT_7 (List.mem_of_getElem? (i := 229) rfl) rfl
theorem q_1820 : Cond.selects RX12 yX12_far yX12_far ∈ GW := inT_7 (List.mem_of_getElem? (i := 230) rfl) rfl
theorem q_1821 : Cond.code yX12_far cX12_far 3 (some .int) ∈ GW := inT_7 (List.mem_of_getElem? (i := 231) rfl) rfl
theorem q_1827 : Cond.methodLink RL 54 yX12_nights ∈ GW := inT_7 (List.mem_of_getElem? (i := 237) rfl) rfl
theorem q_1828 : Cond.instanceMethod yX12_nights ∈ GW := inT_7 (List.mem_of_getElem? (i := 238) rfl) rfl
theorem q_1829 : Cond.selects RX12 yX12_nights yX12_nights ∈ GW := inT_7 (List.mem_of_getElem? (i := 239) rfl) rfl
theorem q_1830 : Cond.code yX12_nights cX12_nights 4 (some .int) ∈ GW := inT_8 (List.mem_of_getElem? (i := 0) rfl) rfl
theorem q_1929 : Cond.methodLink RL 59 yX12_of ∈ GW := inT_8 (List.mem_of_getElem? (i := 99) rfl) rfl
theorem q_1930 : Cond.instanceMethod yX12_of ∈ GW := inT_8 (List.mem_of_getElem? (i := 100) rfl) rfl
theorem q_1931 : Cond.selects RX12 yX12_of yX12_of ∈ GW := inT_8 (List.mem_of_getElem? (i := 101) rfl) rfl
theorem q_1932 : Cond.code yX12_of cX12_of 3 (some .int) ∈ GW := inT_8 (List.mem_of_getElem? (i := 102) rfl) rfl
theorem q_1962 : Cond.methodLink RL 67 yX12_need ∈ GW := inT_8 (List.mem_of_getElem? (i := 132) rfl) rfl
theorem q_1963 : Cond.instanceMethod yX12_need ∈ GW := inT_8 (List.mem_of_getElem? (i := 133) rfl) rfl
theorem q_1964 : Cond.selects RX12 yX12_need yX12_need ∈ GW := inT_8 (List.mem_of_getElem? (i := 134) rfl) rfl
theorem q_1965 : Cond.code yX12_need cX12_need 3 (some .int) ∈ GW := inT_8 (List.mem_of_getElem? (i := 135) rfl) rfl
theorem q_1966 : Cond.methodLink RL 71 yX12_book ∈ GW := inT_8 (List.mem_of_getElem? (i := 136) rfl) rfl
theorem q_1967 : Cond.instanceMethod yX12_book ∈ GW := inT_8 (List.mem_of_getElem? (i := 137) rfl) rfl
theorem q_1968 : Cond.selects RX12 yX12_book yX12_book ∈ GW := inT_8 (List.mem_of_getElem? (i := 138) rfl) rfl
theorem q_1969 : Cond.code yX12_book cX12_book 3 (some .int) ∈ GW := inT_8 (List.mem_of_getElem? (i := 139) rfl) rfl
theorem q_1970 : Cond.methodLink RL 75 yX12_run ∈ GW := inT_8 (List.mem_of_getElem? (i := 140) rfl) rfl
theorem q_1971 : Cond.instanceMethod yX12_run ∈ GW := inT_8 (List.mem_of_getElem? (i := 141) rfl) rfl
theorem q_1972 : Cond.selects RX12 yX12_run yX12_run ∈ GW := inT_8 (List.mem_of_getElem? (i := 142) rfl) rfl
theorem q_1973 : Cond.code yX12_run cX12_run 4 (some .int) ∈ GW := inT_8 (List.mem_of_getElem? (i := 143) rfl) rfl
theorem q_1986 : Cond.methodLink RL 79 yX12_plan ∈ GW := inT_8 (List.mem_of_getElem? (i := 156) rfl) rfl
theorem q_1987 : Cond.instanceMethod yX12_plan ∈ GW := inT_8 (List.mem_of_getElem? (i := 157) rfl) rfl
theorem q_1988 : Cond.selects RX12 yX12_plan yX12_plan ∈ GW := inT_8 (List.mem_of_getElem? (i := 158) rfl) rfl
theorem q_1989 : Cond.code yX12_plan cX12_plan 8 (some .int) ∈ GW := inT_8 (List.mem_of_getElem? (i := 159) rfl) rfl
theorem q_2014 : Cond.methodLink RL 83 yX12_mend ∈ GW := inT_8 (List.mem_of_getElem? (i := 184) rfl) rfl
theorem q_2015 : Cond.instanceMethod yX12_mend ∈ GW := inT_8 (List.mem_of_getElem? (i := 185) rfl) rfl
theorem q_2016 : Cond.selects RX12 yX12_mend yX12_mend ∈ GW := inT_8 (List.mem_of_getElem? (i := 186) rfl) rfl
theorem q_2017 : Cond.code yX12_mend cX12_mend 4 (some .int) ∈ GW := inT_8 (List.mem_of_getElem? (i := 187) rfl) rfl
theorem q_2022 : Cond.methodLink RL 87 yX12_rooms ∈ GW := inT_8 (List.mem_of_getElem? (i := 192) rfl) rfl
theorem q_2023 : Cond.instanceMethod yX12_rooms ∈ GW := inT_8 (List.mem_of_getElem? (i := 193) rfl) rfl
theorem q_2024 : Cond.selects RX12 yX12_rooms yX12_rooms ∈ GW := inT_8 (List.mem_of_getElem? (i := 194) rfl) rfl
theorem q_2025 : Cond.code yX12_rooms cX12_rooms 2 (some .int) ∈ GW := inT_8 (List.mem_of_getElem? (i := 195) rfl) rfl
theorem q_2050 : Cond.methodLink RL 91 yX12_sale ∈ GW := inT_8 (List.mem_of_getElem? (i := 220) rfl) rfl
theorem q_2051 : Cond.instanceMethod yX12_sale ∈ GW := inT_8 (List.mem_of_getElem? (i := 221) rfl) rfl
theorem q_2052 : Cond.selects RX12 yX12_sale yX12_sale ∈ GW := inT_8 (List.mem_of_getElem? (i := 222) rfl) rfl
theorem q_2053 : Cond.code yX12_sale cX12_sale 4 (some .int) ∈ GW := inT_8 (List.mem_of_getElem? (i := 223) rfl) rfl
theorem q_2058 : Cond.methodLink RL 96 yX12_liars ∈ GW := inT_8 (List.mem_of_getElem? (i := 228) rfl) rfl
theorem q_2059 : Cond.instanceMethod yX12_liars ∈ GW := inT_8 (List.mem_of_getElem? (i := 229) rfl) rfl
theorem q_2060 : Cond.selects RX12 yX12_liars yX12_liars ∈ GW := inT_8 (List.mem_of_getElem? (i := 230) rfl) rfl
theorem q_2061 : Cond.code yX12_liars cX12_liars 3 (some .int) ∈ GW := inT_8 (List.mem_of_getElem? (i := 231) rfl) rfl
theorem q_2062 : Cond.methodLink RL 100 yX12_sure ∈ GW := inT_8 (List.mem_of_getElem? (i := 232) rfl) rfl
theorem q_2063 : Cond.instanceMethod yX12_sure ∈ GW := inT_8 (List.mem_of_getElem? (i := 233) rfl) rfl
theorem q_2064 : Cond.selects RX12 yX12_sure yX12_sure ∈ GW := inT_8 (List.mem_of_getElem? (i := 234) rfl) rfl
theorem q_2065 : Cond.code yX12_sure cX12_sure 4 (some .int) ∈ GW := inT_8 (List.mem_of_getElem? (i := 235) rfl) rfl
theorem q_2080 : Cond.methodLink RL 104 yX12_best ∈ GW := inT_9 (List.mem_of_getElem? (i := 10) rfl) rfl
theorem q_2081 : Cond.instanceMethod yX12_best ∈ GW := inT_9 (List.mem_of_getElem? (i := 11) rfl) rfl
theorem q_2082 : Cond.selects RX12 yX12_best yX12_best ∈ GW := inT_9 (List.mem_of_getElem? (i := 12) rfl) rfl
theorem q_2083 : Cond.code yX12_best cX12_best 8 (some .int) ∈ GW := inT_9 (List.mem_of_getElem? (i := 13) rfl) rfl
theorem q_2084 : Cond.methodLink RL 108 yX12_clue ∈ GW := inT_9 (List.mem_of_getElem? (i := 14) rfl) rfl
theorem q_2085 : Cond.instanceMethod yX12_clue ∈ GW := inT_9 (List.mem_of_getElem? (i := 15) rfl) rfl
theorem q_2086 : Cond.selects RX12 yX12_clue yX12_clue ∈ GW := inT_9 (List.mem_of_getElem? (i := 16) rfl) rfl
theorem q_2087 : Cond.code yX12_clue cX12_clue 3 (some .int) ∈ GW := inT_9 (List.mem_of_getElem? (i := 17) rfl) rfl
theorem q_2088 : Cond.methodLink RL 113 yX12_ways ∈ GW := inT_9 (List.mem_of_getElem? (i := 18) rfl) rfl
theorem q_2089 : Cond.instanceMethod yX12_ways ∈ GW := inT_9 (List.mem_of_getElem? (i := 19) rfl) rfl
theorem q_2090 : Cond.selects RX12 yX12_ways yX12_ways ∈ GW := inT_9 (List.mem_of_getElem? (i := 20) rfl) rfl
theorem q_2091 : Cond.code yX12_ways cX12_ways 2 (some .long) ∈ GW := inT_9 (List.mem_of_getElem? (i := 21) rfl) rfl
theorem q_2109 : Cond.methodLink RL 117 yX12_been ∈ GW := inT_9 (List.mem_of_getElem? (i := 39) rfl) rfl
theorem q_2110 : Cond.instanceMethod yX12_been ∈ GW := inT_9 (List.mem_of_getElem? (i := 40) rfl) rfl
theorem q_2111 : Cond.selects RX12 yX12_been yX12_been ∈ GW := inT_9 (List.mem_of_getElem? (i := 41) rfl) rfl
theorem q_2112 : Cond.code yX12_been cX12_been 5 (some .int) ∈ GW := inT_9 (List.mem_of_getElem? (i := 42) rfl) rfl
theorem q_2117 : Cond.methodLink RL 121 yX12_ask ∈ GW := inT_9 (List.mem_of_getElem? (i := 47) rfl) rfl
theorem q_2118 : Cond.instanceMethod yX12_ask ∈ GW := inT_9 (List.mem_of_getElem? (i := 48) rfl) rfl
theorem q_2119 : Cond.selects RX12 yX12_ask yX12_ask ∈ GW := inT_9 (List.mem_of_getElem? (i := 49) rfl) rfl
theorem q_2120 : Cond.code yX12_ask cX12_ask 14 (some .int) ∈ GW := inT_9 (List.mem_of_getElem? (i := 50) rfl) rfl
theorem q_2121 : Cond.methodLink RL 131 yX12_image ∈ GW := inT_9 (List.mem_of_getElem? (i := 51) rfl) rfl
theorem q_2122 : Cond.instanceMethod yX12_image ∈ GW := inT_9 (List.mem_of_getElem? (i := 52) rfl) rfl
theorem q_2123 : Cond.selects RX12 yX12_image yX12_image ∈ GW := inT_9 (List.mem_of_getElem? (i := 53) rfl) rfl
theorem q_2124 : Cond.code yX12_image cX12_image 3 (some .boolean) ∈ GW := inT_9 (List.mem_of_getElem? (i := 54) rfl) rfl
theorem q_2141 : Cond.methodLink RL 135 yX12_look ∈ GW := inT_9 (List.mem_of_getElem? (i := 71) rfl) rfl
theorem q_2142 : Cond.instanceMethod yX12_look ∈ GW := inT_9 (List.mem_of_getElem? (i := 72) rfl) rfl
theorem q_2143 : Cond.selects RX12 yX12_look yX12_look ∈ GW := inT_9 (List.mem_of_getElem? (i := 73) rfl) rfl
theorem q_2144 : Cond.code yX12_look cX12_look 2 (some .int) ∈ GW := inT_9 (List.mem_of_getElem? (i := 74) rfl) rfl
theorem q_646 : Cond.methodLink RL 13 yX11_state ∈ GW := inT_3 (List.mem_of_getElem? (i := 16) rfl) rfl
theorem q_647 : Cond.instanceMethod yX11_state ∈ GW := inT_3 (List.mem_of_getElem? (i := 17) rfl) rfl
theorem q_648 : Cond.selects RX11 yX11_state yX11_state ∈ GW := inT_3 (List.mem_of_getElem? (i := 18) rfl) rfl
theorem q_649 : Cond.code yX11_state cX11_state 3 (some .int) ∈ GW := inT_3 (List.mem_of_getElem? (i := 19) rfl) rfl
theorem q_658 : Cond.methodLink RL 18 yX11_house ∈ GW := inT_3 (List.mem_of_getElem? (i := 28) rfl) rfl
theorem q_659 : Cond.instanceMethod yX11_house ∈ GW := inT_3 (List.mem_of_getElem? (i := 29) rfl) rfl
theorem q_660 : Cond.selects RX11 yX11_house yX11_house ∈ GW := inT_3 (List.mem_of_getElem? (i := 30) rfl) rfl
theorem q_661 : Cond.code yX11_house cX11_house 6 (some .int) ∈ GW := inT_3 (List.mem_of_getElem? (i := 31) rfl) rfl
theorem q_666 : Cond.methodLink RL 23 yX11_set ∈ GW := inT_3 (List.mem_of_getElem? (i := 36) rfl) rfl
theorem q_667 : Cond.instanceMethod yX11_set ∈ GW := inT_3 (List.mem_of_getElem? (i := 37) rfl) rfl
theorem q_668 : Cond.selects RX11 yX11_set yX11_set ∈ GW := inT_3 (List.mem_of_getElem? (i := 38) rfl) rfl
theorem q_669 : Cond.code yX11_set cX11_set 4 (some .boolean) ∈ GW := inT_3 (List.mem_of_getElem? (i := 39) rfl) rfl
theorem q_686 : Cond.methodLink RL 28 yX11_friends ∈ GW := inT_3 (List.mem_of_getElem? (i := 56) rfl) rfl
theorem q_687 : Cond.instanceMethod yX11_friends ∈ GW := inT_3 (List.mem_of_getElem? (i := 57) rfl) rfl
theorem q_688 : Cond.selects RX11 yX11_friends yX11_friends ∈ GW := inT_3 (List.mem_of_getElem? (i := 58) rfl) rfl
theorem q_689 : Cond.code yX11_friends cX11_friends 5 (some .boolean) ∈ GW := inT_3 (List.mem_of_getElem? (i := 59) rfl) rfl
theorem q_694 : Cond.methodLink RL 33 yX11_feed ∈ GW := inT_3 (List.mem_of_getElem? (i := 64) rfl) rfl
theorem q_695 : Cond.instanceMethod yX11_feed ∈ GW := inT_3 (List.mem_of_getElem? (i := 65) rfl) rfl
theorem q_696 : Cond.selects RX11 yX11_feed yX11_feed ∈ GW := inT_3 (List.mem_of_getElem? (i := 66) rfl) rfl
theorem q_697 : Cond.code yX11_feed cX11_feed 6 (some .int) ∈ GW := inT_3 (List.mem_of_getElem? (i := 67) rfl) rfl
theorem q_702 : Cond.methodLink RL 38 yX11_end ∈ GW := inT_3 (List.mem_of_getElem? (i := 72) rfl) rfl
theorem q_703 : Cond.instanceMethod yX11_end ∈ GW := inT_3 (List.mem_of_getElem? (i := 73) rfl) rfl
theorem q_704 : Cond.selects RX11 yX11_end yX11_end ∈ GW := inT_3 (List.mem_of_getElem? (i := 74) rfl) rfl
theorem q_705 : Cond.code yX11_end cX11_end 2 (some .boolean) ∈ GW := inT_3 (List.mem_of_getElem? (i := 75) rfl) rfl
theorem q_706 : Cond.methodLink RL 43 yX11_text ∈ GW := inT_3 (List.mem_of_getElem? (i := 76) rfl) rfl
theorem q_707 : Cond.instanceMethod yX11_text ∈ GW := inT_3 (List.mem_of_getElem? (i := 77) rfl) rfl
theorem q_708 : Cond.selects RX11 yX11_text yX11_text ∈ GW := inT_3 (List.mem_of_getElem? (i := 78) rfl) rfl
theorem q_709 : Cond.code yX11_text cX11_text 3 (some .int) ∈ GW := inT_3 (List.mem_of_getElem? (i := 79) rfl) rfl
theorem q_987 : Cond.methodLink RL 47 yX11_fault ∈ GW := inT_4 (List.mem_of_getElem? (i := 117) rfl) rfl
theorem q_988 : Cond.instanceMethod yX11_fault ∈ GW := inT_4 (List.mem_of_getElem? (i := 118) rfl) rfl
theorem q_989 : Cond.selects RX11 yX11_fault yX11_fault ∈ GW := inT_4 (List.mem_of_getElem? (i := 119) rfl) rfl
theorem q_990 : Cond.code yX11_fault cX11_fault 2 (some .int) ∈ GW := inT_4 (List.mem_of_getElem? (i := 120) rfl) rfl
theorem q_991 : Cond.methodLink RL 51 yX11_nights ∈ GW := inT_4 (List.mem_of_getElem? (i := 121) rfl) rfl
theorem q_992 : Cond.instanceMethod yX11_nights ∈ GW := inT_4 (List.mem_of_getElem? (i := 122) rfl) rfl
theorem q_993 : Cond.selects RX11 yX11_nights yX11_nights ∈ GW := inT_4 (List.mem_of_getElem? (i := 123) rfl) rfl
theorem q_994 : Cond.code yX11_nights cX11_nights 4 (some .int) ∈ GW := inT_4 (List.mem_of_getElem? (i := 124) rfl) rfl
theorem hdV_X11_ask : yX11_ask.cls = RX11 ∧ yX11_ask.cls ≠ "java/lang/invoke/MethodHandle" ∧ yX11_ask.cls ≠ "java/lang/invoke/VarHandle" ∧ (parseMethodDescriptor yX11_ask.desc).map (fun d => d.parameters.length) = some 2 := by decide +kernel
theorem hdV_X11_been : yX11_been.cls = RX11 ∧ yX11_been.cls ≠ "java/lang/invoke/MethodHandle" ∧ yX11_been.cls ≠ "java/lang/invoke/VarHandle" ∧ (parseMethodDescriptor yX11_been.desc).map (fun d => d.parameters.length) = some 2 := by decide +kernel
theorem hdV_X11_best : yX11_best.cls = RX11 ∧ yX11_best.cls ≠ "java/lang/invoke/MethodHandle" ∧ yX11_best.cls ≠ "java/lang/invoke/VarHandle" ∧ (parseMethodDescriptor yX11_best.desc).map (fun d => d.parameters.length) = some 2 := by decide +kernel
theorem hdV_X11_book : yX11_book.cls = RX11 ∧ yX11_book.cls ≠ "java/lang/invoke/MethodHandle" ∧ yX11_book.cls ≠ "java/lang/invoke/VarHandle" ∧ (parseMethodDescriptor yX11_book.desc).map (fun d => d.parameters.length) = some 2 := by decide +kernel
theorem hdV_X11_clue : yX11_clue.cls = RX11 ∧ yX11_clue.cls ≠ "java/lang/invoke/MethodHandle" ∧ yX11_clue.cls ≠ "java/lang/invoke/VarHandle" ∧ (parseMethodDescriptor yX11_clue.desc).map (fun d => d.parameters.length) = some 2 := by decide +kernel
theorem hdV_X11_end : yX11_end.cls = RX11 ∧ yX11_end.cls ≠ "java/lang/invoke/MethodHandle" ∧ yX11_end.cls ≠ "java/lang/invoke/VarHandle" ∧ (parseMethodDescriptor yX11_end.desc).map (fun d => d.parameters.length) = some 1 := by decide +kernel
theorem hdV_X11_far : yX11_far.cls = RX11 ∧ yX11_far.cls ≠ "java/lang/invoke/MethodHandle" ∧ yX11_far.cls ≠ "java/lang/invoke/VarHandle" ∧ (parseMethodDescriptor yX11_far.desc).map (fun d => d.parameters.length) = some 2 := by decide +kernel
theorem hdV_X11_fault : yX11_fault.cls = RX11 ∧ yX11_fault.cls ≠ "java/lang/invoke/MethodHandle" ∧ yX11_fault.cls ≠ "java/lang/invoke/VarHandle" ∧ (parseMethodDescriptor yX11_fault.desc).map (fun d => d.parameters.length) = some 1 := by decide +kernel
theorem hdV_X11_feed : yX11_feed.cls = RX11 ∧ yX11_feed.cls ≠ "java/lang/invoke/MethodHandle" ∧ yX11_feed.cls ≠ "java/lang/invoke/VarHandle" ∧ (parseMethodDescriptor yX11_feed.desc).map (fun d => d.parameters.length) = some 5 := by decide +kernel
theorem hdV_X11_friends : yX11_friends.cls = RX11 ∧ yX11_friends.cls ≠ "java/lang/invoke/MethodHandle" ∧ yX11_friends.cls ≠ "java/lang/invoke/VarHandle" ∧ (parseMethodDescriptor yX11_friends.desc).map (fun d => d.parameters.length) = some 3 := by decide +kernel
theorem hdV_X11_house : yX11_house.cls = RX11 ∧ yX11_house.cls ≠ "java/lang/invoke/MethodHandle" ∧ yX11_house.cls ≠ "java/lang/invoke/VarHandle" ∧ (parseMethodDescriptor yX11_house.desc).map (fun d => d.parameters.length) = some 3 := by decide +kernel
theorem hdV_X11_image : yX11_image.cls = RX11 ∧ yX11_image.cls ≠ "java/lang/invoke/MethodHandle" ∧ yX11_image.cls ≠ "java/lang/invoke/VarHandle" ∧ (parseMethodDescriptor yX11_image.desc).map (fun d => d.parameters.length) = some 1 := by decide +kernel
theorem hdI_X11_init : yX11_init.cls ≠ "java/lang/invoke/MethodHandle" ∧ yX11_init.cls ≠ "java/lang/invoke/VarHandle" ∧ (parseMethodDescriptor yX11_init.desc).map (fun d => d.parameters.length) = some 0 := by decide +kernel
theorem hdV_X11_liars : yX11_liars.cls = RX11 ∧ yX11_liars.cls ≠ "java/lang/invoke/MethodHandle" ∧ yX11_liars.cls ≠ "java/lang/invoke/VarHandle" ∧ (parseMethodDescriptor yX11_liars.desc).map (fun d => d.parameters.length) = some 0 := by decide +kernel
theorem hdV_X11_look : yX11_look.cls = RX11 ∧ yX11_look.cls ≠ "java/lang/invoke/MethodHandle" ∧ yX11_look.cls ≠ "java/lang/invoke/VarHandle" ∧ (parseMethodDescriptor yX11_look.desc).map (fun d => d.parameters.length) = some 1 := by decide +kernel
theorem hdV_X11_mend : yX11_mend.cls = RX11 ∧ yX11_mend.cls ≠ "java/lang/invoke/MethodHandle" ∧ yX11_mend.cls ≠ "java/lang/invoke/VarHandle" ∧ (parseMethodDescriptor yX11_mend.desc).map (fun d => d.parameters.length) = some 1 := by decide +kernel
theorem hdV_X11_need : yX11_need.cls = RX11 ∧ yX11_need.cls ≠ "java/lang/invoke/MethodHandle" ∧ yX11_need.cls ≠ "java/lang/invoke/VarHandle" ∧ (parseMethodDescriptor yX11_need.desc).map (fun d => d.parameters.length) = some 2 := by decide +kernel
theorem hdV_X11_nights : yX11_nights.cls = RX11 ∧ yX11_nights.cls ≠ "java/lang/invoke/MethodHandle" ∧ yX11_nights.cls ≠ "java/lang/invoke/VarHandle" ∧ (parseMethodDescriptor yX11_nights.desc).map (fun d => d.parameters.length) = some 1 := by decide +kernel
theorem hdV_X11_of : yX11_of.cls = RX11 ∧ yX11_of.cls ≠ "java/lang/invoke/MethodHandle" ∧ yX11_of.cls ≠ "java/lang/invoke/VarHandle" ∧ (parseMethodDescriptor yX11_of.desc).map (fun d => d.parameters.length) = some 2 := by decide +kernel
theorem hdV_X11_plan : yX11_plan.cls = RX11 ∧ yX11_plan.cls ≠ "java/lang/invoke/MethodHandle" ∧ yX11_plan.cls ≠ "java/lang/invoke/VarHandle" ∧ (parseMethodDescriptor yX11_plan.desc).map (fun d => d.parameters.length) = some 2 := by decide +kernel
theorem hdV_X11_rooms : yX11_rooms.cls = RX11 ∧ yX11_rooms.cls ≠ "java/lang/invoke/MethodHandle" ∧ yX11_rooms.cls ≠ "java/lang/invoke/VarHandle" ∧ (parseMethodDescriptor yX11_rooms.desc).map (fun d => d.parameters.length) = some 1 := by decide +kernel
theorem hdV_X11_run : yX11_run.cls = RX11 ∧ yX11_run.cls ≠ "java/lang/invoke/MethodHandle" ∧ yX11_run.cls ≠ "java/lang/invoke/VarHandle" ∧ (parseMethodDescriptor yX11_run.desc).map (fun d => d.parameters.length) = some 2 := by decide +kernel
theorem hdV_X11_sale : yX11_sale.cls = RX11 ∧ yX11_sale.cls ≠ "java/lang/invoke/MethodHandle" ∧ yX11_sale.cls ≠ "java/lang/invoke/VarHandle" ∧ (parseMethodDescriptor yX11_sale.desc).map (fun d => d.parameters.length) = some 1 := by decide +kernel
theorem hdV_X11_set : yX11_set.cls = RX11 ∧ yX11_set.cls ≠ "java/lang/invoke/MethodHandle" ∧ yX11_set.cls ≠ "java/lang/invoke/VarHandle" ∧ (parseMethodDescriptor yX11_set.desc).map (fun d => d.parameters.length) = some 3 := by decide +kernel
theorem hdV_X11_state : yX11_state.cls = RX11 ∧ yX11_state.cls ≠ "java/lang/invoke/MethodHandle" ∧ yX11_state.cls ≠ "java/lang/invoke/VarHandle" ∧ (parseMethodDescriptor yX11_state.desc).map (fun d => d.parameters.length) = some 1 := by decide +kernel
theorem hdV_X11_sure : yX11_sure.cls = RX11 ∧ yX11_sure.cls ≠ "java/lang/invoke/MethodHandle" ∧ yX11_sure.cls ≠ "java/lang/invoke/VarHandle" ∧ (parseMethodDescriptor yX11_sure.desc).map (fun d => d.parameters.length) = some 3 := by decide +kernel
theorem hdV_X11_text : yX11_text.cls = RX11 ∧ yX11_text.cls ≠ "java/lang/invoke/MethodHandle" ∧ yX11_text.cls ≠ "java/lang/invoke/VarHandle" ∧ (parseMethodDescriptor yX11_text.desc).map (fun d => d.parameters.length) = some 1 := by decide +kernel
theorem hdV_X11_undo : yX11_undo.cls = RX11 ∧ yX11_undo.cls ≠ "java/lang/invoke/MethodHandle" ∧ yX11_undo.cls ≠ "java/lang/invoke/VarHandle" ∧ (parseMethodDescriptor yX11_undo.desc).map (fun d => d.parameters.length) = some 0 := by decide +kernel
theorem hdV_X11_ways : yX11_ways.cls = RX11 ∧ yX11_ways.cls ≠ "java/lang/invoke/MethodHandle" ∧ yX11_ways.cls ≠ "java/lang/invoke/VarHandle" ∧ (parseMethodDescriptor yX11_ways.desc).map (fun d => d.parameters.length) = some 1 := by decide +kernel
theorem hdV_X12_ask : yX12_ask.cls = RX12 ∧ yX12_ask.cls ≠ "java/lang/invoke/MethodHandle" ∧ yX12_ask.cls ≠ "java/lang/invoke/VarHandle" ∧ (parseMethodDescriptor yX12_ask.desc).map (fun d => d.parameters.length) = some 2 := by decide +kernel
theorem hdV_X12_been : yX12_been.cls = RX12 ∧ yX12_been.cls ≠ "java/lang/invoke/MethodHandle" ∧ yX12_been.cls ≠ "java/lang/invoke/VarHandle" ∧ (parseMethodDescriptor yX12_been.desc).map (fun d => d.parameters.length) = some 2 := by decide +kernel
theorem hdV_X12_best : yX12_best.cls = RX12 ∧ yX12_best.cls ≠ "java/lang/invoke/MethodHandle" ∧ yX12_best.cls ≠ "java/lang/invoke/VarHandle" ∧ (parseMethodDescriptor yX12_best.desc).map (fun d => d.parameters.length) = some 2 := by decide +kernel
theorem hdV_X12_book : yX12_book.cls = RX12 ∧ yX12_book.cls ≠ "java/lang/invoke/MethodHandle" ∧ yX12_book.cls ≠ "java/lang/invoke/VarHandle" ∧ (parseMethodDescriptor yX12_book.desc).map (fun d => d.parameters.length) = some 2 := by decide +kernel
theorem hdV_X12_clue : yX12_clue.cls = RX12 ∧ yX12_clue.cls ≠ "java/lang/invoke/MethodHandle" ∧ yX12_clue.cls ≠ "java/lang/invoke/VarHandle" ∧ (parseMethodDescriptor yX12_clue.desc).map (fun d => d.parameters.length) = some 2 := by decide +kernel
theorem hdV_X12_end : yX12_end.cls = RX12 ∧ yX12_end.cls ≠ "java/lang/invoke/MethodHandle" ∧ yX12_end.cls ≠ "java/lang/invoke/VarHandle" ∧ (parseMethodDescriptor yX12_end.desc).map (fun d => d.parameters.length) = some 1 := by decide +kernel
theorem hdV_X12_far : yX12_far.cls = RX12 ∧ yX12_far.cls ≠ "java/lang/invoke/MethodHandle" ∧ yX12_far.cls ≠ "java/lang/invoke/VarHandle" ∧ (parseMethodDescriptor yX12_far.desc).map (fun d => d.parameters.length) = some 2 := by decide +kernel
theorem hdV_X12_fault : yX12_fault.cls = RX12 ∧ yX12_fault.cls ≠ "java/lang/invoke/MethodHandle" ∧ yX12_fault.cls ≠ "java/lang/invoke/VarHandle" ∧ (parseMethodDescriptor yX12_fault.desc).map (fun d => d.parameters.length) = some 1 := by decide +kernel
theorem hdV_X12_feed : yX12_feed.cls = RX12 ∧ yX12_feed.cls ≠ "java/lang/invoke/MethodHandle" ∧ yX12_feed.cls ≠ "java/lang/invoke/VarHandle" ∧ (parseMethodDescriptor yX12_feed.desc).map (fun d => d.parameters.length) = some 5 := by decide +kernel
theorem hdV_X12_friends : yX12_friends.cls = RX12 ∧ yX12_friends.cls ≠ "java/lang/invoke/MethodHandle" ∧ yX12_friends.cls ≠ "java/lang/invoke/VarHandle" ∧ (parseMethodDescriptor yX12_friends.desc).map (fun d => d.parameters.length) = some 3 := by decide +kernel
theorem hdV_X12_house : yX12_house.cls = RX12 ∧ yX12_house.cls ≠ "java/lang/invoke/MethodHandle" ∧ yX12_house.cls ≠ "java/lang/invoke/VarHandle" ∧ (parseMethodDescriptor yX12_house.desc).map (fun d => d.parameters.length) = some 3 := by decide +kernel
theorem hdV_X12_image : yX12_image.cls = RX12 ∧ yX12_image.cls ≠ "java/lang/invoke/MethodHandle" ∧ yX12_image.cls ≠ "java/lang/invoke/VarHandle" ∧ (parseMethodDescriptor yX12_image.desc).map (fun d => d.parameters.length) = some 1 := by decide +kernel
theorem hdI_X12_init : yX12_init.cls ≠ "java/lang/invoke/MethodHandle" ∧ yX12_init.cls ≠ "java/lang/invoke/VarHandle" ∧ (parseMethodDescriptor yX12_init.desc).map (fun d => d.parameters.length) = some 0 := by decide +kernel
theorem hdV_X12_liars : yX12_liars.cls = RX12 ∧ yX12_liars.cls ≠ "java/lang/invoke/MethodHandle" ∧ yX12_liars.cls ≠ "java/lang/invoke/VarHandle" ∧ (parseMethodDescriptor yX12_liars.desc).map (fun d => d.parameters.length) = some 0 := by decide +kernel
theorem hdV_X12_look : yX12_look.cls = RX12 ∧ yX12_look.cls ≠ "java/lang/invoke/MethodHandle" ∧ yX12_look.cls ≠ "java/lang/invoke/VarHandle" ∧ (parseMethodDescriptor yX12_look.desc).map (fun d => d.parameters.length) = some 1 := by decide +kernel
theorem hdV_X12_mend : yX12_mend.cls = RX12 ∧ yX12_mend.cls ≠ "java/lang/invoke/MethodHandle" ∧ yX12_mend.cls ≠ "java/lang/invoke/VarHandle" ∧ (parseMethodDescriptor yX12_mend.desc).map (fun d => d.parameters.length) = some 1 := by decide +kernel
theorem hdV_X12_need : yX12_need.cls = RX12 ∧ yX12_need.cls ≠ "java/lang/invoke/MethodHandle" ∧ yX12_need.cls ≠ "java/lang/invoke/VarHandle" ∧ (parseMethodDescriptor yX12_need.desc).map (fun d => d.parameters.length) = some 2 := by decide +kernel
theorem hdV_X12_nights : yX12_nights.cls = RX12 ∧ yX12_nights.cls ≠ "java/lang/invoke/MethodHandle" ∧ yX12_nights.cls ≠ "java/lang/invoke/VarHandle" ∧ (parseMethodDescriptor yX12_nights.desc).map (fun d => d.parameters.length) = some 1 := by decide +kernel
theorem hdV_X12_of : yX12_of.cls = RX12 ∧ yX12_of.cls ≠ "java/lang/invoke/MethodHandle" ∧ yX12_of.cls ≠ "java/lang/invoke/VarHandle" ∧ (parseMethodDescriptor yX12_of.desc).map (fun d => d.parameters.length) = some 2 := by decide +kernel
theorem hdV_X12_plan : yX12_plan.cls = RX12 ∧ yX12_plan.cls ≠ "java/lang/invoke/MethodHandle" ∧ yX12_plan.cls ≠ "java/lang/invoke/VarHandle" ∧ (parseMethodDescriptor yX12_plan.desc).map (fun d => d.parameters.length) = some 2 := by decide +kernel
theorem hdV_X12_rooms : yX12_rooms.cls = RX12 ∧ yX12_rooms.cls ≠ "java/lang/invoke/MethodHandle" ∧ yX12_rooms.cls ≠ "java/lang/invoke/VarHandle" ∧ (parseMethodDescriptor yX12_rooms.desc).map (fun d => d.parameters.length) = some 1 := by decide +kernel
theorem hdV_X12_run : yX12_run.cls = RX12 ∧ yX12_run.cls ≠ "java/lang/invoke/MethodHandle" ∧ yX12_run.cls ≠ "java/lang/invoke/VarHandle" ∧ (parseMethodDescriptor yX12_run.desc).map (fun d => d.parameters.length) = some 2 := by decide +kernel
theorem hdV_X12_sale : yX12_sale.cls = RX12 ∧ yX12_sale.cls ≠ "java/lang/invoke/MethodHandle" ∧ yX12_sale.cls ≠ "java/lang/invoke/VarHandle" ∧ (parseMethodDescriptor yX12_sale.desc).map (fun d => d.parameters.length) = some 1 := by decide +kernel
theorem hdV_X12_set : yX12_set.cls = RX12 ∧ yX12_set.cls ≠ "java/lang/invoke/MethodHandle" ∧ yX12_set.cls ≠ "java/lang/invoke/VarHandle" ∧ (parseMethodDescriptor yX12_set.desc).map (fun d => d.parameters.length) = some 3 := by decide +kernel
theorem hdV_X12_state : yX12_state.cls = RX12 ∧ yX12_state.cls ≠ "java/lang/invoke/MethodHandle" ∧ yX12_state.cls ≠ "java/lang/invoke/VarHandle" ∧ (parseMethodDescriptor yX12_state.desc).map (fun d => d.parameters.length) = some 1 := by decide +kernel
theorem hdV_X12_sure : yX12_sure.cls = RX12 ∧ yX12_sure.cls ≠ "java/lang/invoke/MethodHandle" ∧ yX12_sure.cls ≠ "java/lang/invoke/VarHandle" ∧ (parseMethodDescriptor yX12_sure.desc).map (fun d => d.parameters.length) = some 3 := by decide +kernel
theorem hdV_X12_text : yX12_text.cls = RX12 ∧ yX12_text.cls ≠ "java/lang/invoke/MethodHandle" ∧ yX12_text.cls ≠ "java/lang/invoke/VarHandle" ∧ (parseMethodDescriptor yX12_text.desc).map (fun d => d.parameters.length) = some 1 := by decide +kernel
theorem hdV_X12_undo : yX12_undo.cls = RX12 ∧ yX12_undo.cls ≠ "java/lang/invoke/MethodHandle" ∧ yX12_undo.cls ≠ "java/lang/invoke/VarHandle" ∧ (parseMethodDescriptor yX12_undo.desc).map (fun d => d.parameters.length) = some 0 := by decide +kernel
theorem hdV_X12_ways : yX12_ways.cls = RX12 ∧ yX12_ways.cls ≠ "java/lang/invoke/MethodHandle" ∧ yX12_ways.cls ≠ "java/lang/invoke/VarHandle" ∧ (parseMethodDescriptor yX12_ways.desc).map (fun d => d.parameters.length) = some 1 := by decide +kernel
set_option maxRecDepth 100000 in
theorem q_1396_t : Cond.code yX12_init cX12_init 1 none ∈ k2_sels lw_privs ++ (tables_1_1 ++ (tables_1_2 ++ (tables_1_3 ++ (tables_1_4 ++ (tables_1_5 ++ (tables_1_6 ++ (tables_1_7 ++ (tables_1_8 ++ (tables_1_9))))))))) := List.mem_append_right _ (List.mem_append_right _ (List.mem_append_right _ (List.mem_append_right _ (List.mem_append_right _ (List.mem_append_right _ (List.mem_append_left _ (List.mem_of_getElem? (i := 46) rfl)))))))
theorem q_1396 : Cond.code yX12_init cX12_init 1 none ∈ GW := List.mem_filter.mpr ⟨q_1396_t, rfl⟩
