theorem q_1100 : Cond.methodLink RL 55 yX11_of ∈ GW := inG 1100 (by decide +kernel) (by decide +kernel)
theorem q_1101 : Cond.instanceMethod yX11_of ∈ GW := inG 1101 (by decide +kernel) (by decide +kernel)
theorem q_1102 : Cond.selects RX11 yX11_of yX11_of ∈ GW := inG 1102 (by decide +kernel) (by decide +kernel)
theorem q_1103 : Cond.code yX11_of cX11_of 4 (some .int) ∈ GW := inG 1103 (by decide +kernel) (by decide +kernel)
theorem q_1129 : Cond.methodLink RL 60 yX11_far ∈ GW := inG 1129 (by decide +kernel) (by decide +kernel)
theorem q_1130 : Cond.instanceMethod yX11_far ∈ GW := inG 1130 (by decide +kernel) (by decide +kernel)
theorem q_1131 : Cond.selects RX11 yX11_far yX11_far ∈ GW := inG 1131 (by decide +kernel) (by decide +kernel)
theorem q_1132 : Cond.code yX11_far cX11_far 3 (some .int) ∈ GW := inG 1132 (by decide +kernel) (by decide +kernel)
theorem q_1134 : Cond.methodLink RL 64 yX11_need ∈ GW := inG 1134 (by decide +kernel) (by decide +kernel)
theorem q_1135 : Cond.instanceMethod yX11_need ∈ GW := inG 1135 (by decide +kernel) (by decide +kernel)
theorem q_1136 : Cond.selects RX11 yX11_need yX11_need ∈ GW := inG 1136 (by decide +kernel) (by decide +kernel)
theorem q_1137 : Cond.code yX11_need cX11_need 4 (some .int) ∈ GW := inG 1137 (by decide +kernel) (by decide +kernel)
theorem q_1139 : Cond.methodLink RL 68 yX11_book ∈ GW := inG 1139 (by decide +kernel) (by decide +kernel)
theorem q_1140 : Cond.instanceMethod yX11_book ∈ GW := inG 1140 (by decide +kernel) (by decide +kernel)
theorem q_1141 : Cond.selects RX11 yX11_book yX11_book ∈ GW := inG 1141 (by decide +kernel) (by decide +kernel)
theorem q_1142 : Cond.code yX11_book cX11_book 3 (some .int) ∈ GW := inG 1142 (by decide +kernel) (by decide +kernel)
theorem q_1143 : Cond.methodLink RL 72 yX11_run ∈ GW := inG 1143 (by decide +kernel) (by decide +kernel)
theorem q_1144 : Cond.instanceMethod yX11_run ∈ GW := inG 1144 (by decide +kernel) (by decide +kernel)
theorem q_1145 : Cond.selects RX11 yX11_run yX11_run ∈ GW := inG 1145 (by decide +kernel) (by decide +kernel)
theorem q_1146 : Cond.code yX11_run cX11_run 7 (some .int) ∈ GW := inG 1146 (by decide +kernel) (by decide +kernel)
theorem q_1150 : Cond.methodLink RL 76 yX11_plan ∈ GW := inG 1150 (by decide +kernel) (by decide +kernel)
theorem q_1151 : Cond.instanceMethod yX11_plan ∈ GW := inG 1151 (by decide +kernel) (by decide +kernel)
theorem q_1152 : Cond.selects RX11 yX11_plan yX11_plan ∈ GW := inG 1152 (by decide +kernel) (by decide +kernel)
theorem q_1153 : Cond.code yX11_plan cX11_plan 4 (some .int) ∈ GW := inG 1153 (by decide +kernel) (by decide +kernel)
theorem q_1246 : Cond.methodLink RL 80 yX11_mend ∈ GW := inG 1246 (by decide +kernel) (by decide +kernel)
theorem q_1247 : Cond.instanceMethod yX11_mend ∈ GW := inG 1247 (by decide +kernel) (by decide +kernel)
theorem q_1248 : Cond.selects RX11 yX11_mend yX11_mend ∈ GW := inG 1248 (by decide +kernel) (by decide +kernel)
theorem q_1249 : Cond.code yX11_mend cX11_mend 5 (some .int) ∈ GW := inG 1249 (by decide +kernel) (by decide +kernel)
theorem q_1260 : Cond.methodLink RL 84 yX11_rooms ∈ GW := inG 1260 (by decide +kernel) (by decide +kernel)
theorem q_1261 : Cond.instanceMethod yX11_rooms ∈ GW := inG 1261 (by decide +kernel) (by decide +kernel)
theorem q_1262 : Cond.selects RX11 yX11_rooms yX11_rooms ∈ GW := inG 1262 (by decide +kernel) (by decide +kernel)
theorem q_1263 : Cond.code yX11_rooms cX11_rooms 3 (some .int) ∈ GW := inG 1263 (by decide +kernel) (by decide +kernel)
theorem q_1288 : Cond.methodLink RL 88 yX11_sale ∈ GW := inG 1288 (by decide +kernel) (by decide +kernel)
theorem q_1289 : Cond.instanceMethod yX11_sale ∈ GW := inG 1289 (by decide +kernel) (by decide +kernel)
theorem q_1290 : Cond.selects RX11 yX11_sale yX11_sale ∈ GW := inG 1290 (by decide +kernel) (by decide +kernel)
theorem q_1291 : Cond.code yX11_sale cX11_sale 4 (some .int) ∈ GW := inG 1291 (by decide +kernel) (by decide +kernel)
theorem q_1296 : Cond.methodLink RL 92 yX11_liars ∈ GW := inG 1296 (by decide +kernel) (by decide +kernel)
theorem q_1297 : Cond.instanceMethod yX11_liars ∈ GW := inG 1297 (by decide +kernel) (by decide +kernel)
theorem q_1298 : Cond.selects RX11 yX11_liars yX11_liars ∈ GW := inG 1298 (by decide +kernel) (by decide +kernel)
theorem q_1299 : Cond.code yX11_liars cX11_liars 3 (some .int) ∈ GW := inG 1299 (by decide +kernel) (by decide +kernel)
theorem q_1300 : Cond.methodLink RL 97 yX11_sure ∈ GW := inG 1300 (by decide +kernel) (by decide +kernel)
theorem q_1301 : Cond.instanceMethod yX11_sure ∈ GW := inG 1301 (by decide +kernel) (by decide +kernel)
theorem q_1302 : Cond.selects RX11 yX11_sure yX11_sure ∈ GW := inG 1302 (by decide +kernel) (by decide +kernel)
theorem q_1303 : Cond.code yX11_sure cX11_sure 4 (some .int) ∈ GW := inG 1303 (by decide +kernel) (by decide +kernel)
theorem q_1314 : Cond.methodLink RL 101 yX11_best ∈ GW := inG 1314 (by decide +kernel) (by decide +kernel)
theorem q_1315 : Cond.instanceMethod yX11_best ∈ GW := inG 1315 (by decide +kernel) (by decide +kernel)
theorem q_1316 : Cond.selects RX11 yX11_best yX11_best ∈ GW := inG 1316 (by decide +kernel) (by decide +kernel)
theorem q_1317 : Cond.code yX11_best cX11_best 7 (some .int) ∈ GW := inG 1317 (by decide +kernel) (by decide +kernel)
theorem q_1318 : Cond.methodLink RL 105 yX11_clue ∈ GW := inG 1318 (by decide +kernel) (by decide +kernel)
theorem q_1319 : Cond.instanceMethod yX11_clue ∈ GW := inG 1319 (by decide +kernel) (by decide +kernel)
theorem q_1320 : Cond.selects RX11 yX11_clue yX11_clue ∈ GW := inG 1320 (by decide +kernel) (by decide +kernel)
theorem q_1321 : Cond.code yX11_clue cX11_clue 5 (some .int) ∈ GW := inG 1321 (by decide +kernel) (by decide +kernel)
theorem q_1323 : Cond.methodLink RL 109 yX11_ways ∈ GW := inG 1323 (by decide +kernel) (by decide +kernel)
theorem q_1324 : Cond.instanceMethod yX11_ways ∈ GW := inG 1324 (by decide +kernel) (by decide +kernel)
theorem q_1325 : Cond.selects RX11 yX11_ways yX11_ways ∈ GW := inG 1325 (by decide +kernel) (by decide +kernel)
theorem q_1326 : Cond.code yX11_ways cX11_ways 2 (some .long) ∈ GW := inG 1326 (by decide +kernel) (by decide +kernel)
theorem q_1342 : Cond.methodLink RL 114 yX11_been ∈ GW := inG 1342 (by decide +kernel) (by decide +kernel)
theorem q_1343 : Cond.instanceMethod yX11_been ∈ GW := inG 1343 (by decide +kernel) (by decide +kernel)
theorem q_1344 : Cond.selects RX11 yX11_been yX11_been ∈ GW := inG 1344 (by decide +kernel) (by decide +kernel)
theorem q_1345 : Cond.code yX11_been cX11_been 5 (some .int) ∈ GW := inG 1345 (by decide +kernel) (by decide +kernel)
theorem q_1350 : Cond.methodLink RL 118 yX11_ask ∈ GW := inG 1350 (by decide +kernel) (by decide +kernel)
theorem q_1351 : Cond.instanceMethod yX11_ask ∈ GW := inG 1351 (by decide +kernel) (by decide +kernel)
theorem q_1352 : Cond.selects RX11 yX11_ask yX11_ask ∈ GW := inG 1352 (by decide +kernel) (by decide +kernel)
theorem q_1353 : Cond.code yX11_ask cX11_ask 6 (some .int) ∈ GW := inG 1353 (by decide +kernel) (by decide +kernel)
theorem q_1362 : Cond.methodLink RL 122 yX11_undo ∈ GW := inG 1362 (by decide +kernel) (by decide +kernel)
theorem q_1363 : Cond.instanceMethod yX11_undo ∈ GW := inG 1363 (by decide +kernel) (by decide +kernel)
theorem q_1364 : Cond.selects RX11 yX11_undo yX11_undo ∈ GW := inG 1364 (by decide +kernel) (by decide +kernel)
theorem q_1365 : Cond.code yX11_undo cX11_undo 2 (some .boolean) ∈ GW := inG 1365 (by decide +kernel) (by decide +kernel)
theorem q_1366 : Cond.methodLink RL 127 yX11_image ∈ GW := inG 1366 (by decide +kernel) (by decide +kernel)
theorem q_1367 : Cond.instanceMethod yX11_image ∈ GW := inG 1367 (by decide +kernel) (by decide +kernel)
theorem q_1368 : Cond.selects RX11 yX11_image yX11_image ∈ GW := inG 1368 (by decide +kernel) (by decide +kernel)
theorem q_1369 : Cond.code yX11_image cX11_image 2 (some .boolean) ∈ GW := inG 1369 (by decide +kernel) (by decide +kernel)
theorem q_1388 : Cond.methodLink RL 132 yX11_look ∈ GW := inG 1388 (by decide +kernel) (by decide +kernel)
theorem q_1389 : Cond.instanceMethod yX11_look ∈ GW := inG 1389 (by decide +kernel) (by decide +kernel)
theorem q_1390 : Cond.selects RX11 yX11_look yX11_look ∈ GW := inG 1390 (by decide +kernel) (by decide +kernel)
theorem q_1391 : Cond.code yX11_look cX11_look 3 (some .int) ∈ GW := inG 1391 (by decide +kernel) (by decide +kernel)
theorem q_1392 : Cond.classLink RL 10 RX12 ∈ GW := inG 1392 (by decide +kernel) (by decide +kernel)
theorem q_1393 : Cond.instantiable RX12 70 ∈ GW := inG 1393 (by decide +kernel) (by decide +kernel)
theorem q_1394 : Cond.methodLink RL 12 yX12_init ∈ GW := inG 1394 (by decide +kernel) (by decide +kernel)
theorem q_1395 : Cond.instanceMethod yX12_init ∈ GW := inG 1395 (by decide +kernel) (by decide +kernel)
theorem q_1610 : Cond.methodLink RL 126 yX12_undo ∈ GW := inG 1610 (by decide +kernel) (by decide +kernel)
theorem q_1611 : Cond.instanceMethod yX12_undo ∈ GW := inG 1611 (by decide +kernel) (by decide +kernel)
theorem q_1612 : Cond.selects RX12 yX12_undo yX12_undo ∈ GW := inG 1612 (by decide +kernel) (by decide +kernel)
theorem q_1613 : Cond.code yX12_undo cX12_undo 2 (some .boolean) ∈ GW := inG 1613 (by decide +kernel) (by decide +kernel)
theorem q_1614 : Cond.methodLink RL 17 yX12_state ∈ GW := inG 1614 (by decide +kernel) (by decide +kernel)
theorem q_1615 : Cond.instanceMethod yX12_state ∈ GW := inG 1615 (by decide +kernel) (by decide +kernel)
theorem q_1616 : Cond.selects RX12 yX12_state yX12_state ∈ GW := inG 1616 (by decide +kernel) (by decide +kernel)
theorem q_1617 : Cond.code yX12_state cX12_state 3 (some .int) ∈ GW := inG 1617 (by decide +kernel) (by decide +kernel)
theorem q_1618 : Cond.methodLink RL 22 yX12_house ∈ GW := inG 1618 (by decide +kernel) (by decide +kernel)
theorem q_1619 : Cond.instanceMethod yX12_house ∈ GW := inG 1619 (by decide +kernel) (by decide +kernel)
theorem q_1620 : Cond.selects RX12 yX12_house yX12_house ∈ GW := inG 1620 (by decide +kernel) (by decide +kernel)
theorem q_1621 : Cond.code yX12_house cX12_house 5 (some .int) ∈ GW := inG 1621 (by decide +kernel) (by decide +kernel)
theorem q_1626 : Cond.methodLink RL 27 yX12_set ∈ GW := inG 1626 (by decide +kernel) (by decide +kernel)
theorem q_1627 : Cond.instanceMethod yX12_set ∈ GW := inG 1627 (by decide +kernel) (by decide +kernel)
theorem q_1628 : Cond.selects RX12 yX12_set yX12_set ∈ GW := inG 1628 (by decide +kernel) (by decide +kernel)
theorem q_1629 : Cond.code yX12_set cX12_set 4 (some .boolean) ∈ GW := inG 1629 (by decide +kernel) (by decide +kernel)
theorem q_1642 : Cond.methodLink RL 32 yX12_friends ∈ GW := inG 1642 (by decide +kernel) (by decide +kernel)
theorem q_1643 : Cond.instanceMethod yX12_friends ∈ GW := inG 1643 (by decide +kernel) (by decide +kernel)
theorem q_1644 : Cond.selects RX12 yX12_friends yX12_friends ∈ GW := inG 1644 (by decide +kernel) (by decide +kernel)
theorem q_1645 : Cond.code yX12_friends cX12_friends 4 (some .boolean) ∈ GW := inG 1645 (by decide +kernel) (by decide +kernel)
theorem q_1646 : Cond.methodLink RL 37 yX12_feed ∈ GW := inG 1646 (by decide +kernel) (by decide +kernel)
theorem q_1647 : Cond.instanceMethod yX12_feed ∈ GW := inG 1647 (by decide +kernel) (by decide +kernel)
theorem q_1648 : Cond.selects RX12 yX12_feed yX12_feed ∈ GW := inG 1648 (by decide +kernel) (by decide +kernel)
theorem q_1649 : Cond.code yX12_feed cX12_feed 6 (some .int) ∈ GW := inG 1649 (by decide +kernel) (by decide +kernel)
theorem q_1654 : Cond.methodLink RL 42 yX12_end ∈ GW := inG 1654 (by decide +kernel) (by decide +kernel)
theorem q_1655 : Cond.instanceMethod yX12_end ∈ GW := inG 1655 (by decide +kernel) (by decide +kernel)
theorem q_1656 : Cond.selects RX12 yX12_end yX12_end ∈ GW := inG 1656 (by decide +kernel) (by decide +kernel)
theorem q_1657 : Cond.code yX12_end cX12_end 2 (some .boolean) ∈ GW := inG 1657 (by decide +kernel) (by decide +kernel)
theorem q_1658 : Cond.methodLink RL 46 yX12_text ∈ GW := inG 1658 (by decide +kernel) (by decide +kernel)
theorem q_1659 : Cond.instanceMethod yX12_text ∈ GW := inG 1659 (by decide +kernel) (by decide +kernel)
theorem q_1660 : Cond.selects RX12 yX12_text yX12_text ∈ GW := inG 1660 (by decide +kernel) (by decide +kernel)
theorem q_1661 : Cond.code yX12_text cX12_text 3 (some .int) ∈ GW := inG 1661 (by decide +kernel) (by decide +kernel)
theorem q_171 : Cond.classLink RL 7 RX11 ∈ GW := inG 171 (by decide +kernel) (by decide +kernel)
theorem q_172 : Cond.instantiable RX11 13 ∈ GW := inG 172 (by decide +kernel) (by decide +kernel)
theorem q_173 : Cond.methodLink RL 9 yX11_init ∈ GW := inG 173 (by decide +kernel) (by decide +kernel)
theorem q_174 : Cond.instanceMethod yX11_init ∈ GW := inG 174 (by decide +kernel) (by decide +kernel)
theorem q_175 : Cond.code yX11_init cX11_init 2 none ∈ GW := inG 175 (by decide +kernel) (by decide +kernel)
theorem q_1814 : Cond.methodLink RL 50 yX12_fault ∈ GW := inG 1814 (by decide +kernel) (by decide +kernel)
theorem q_1815 : Cond.instanceMethod yX12_fault ∈ GW := inG 1815 (by decide +kernel) (by decide +kernel)
theorem q_1816 : Cond.selects RX12 yX12_fault yX12_fault ∈ GW := inG 1816 (by decide +kernel) (by decide +kernel)
theorem q_1817 : Cond.code yX12_fault cX12_fault 2 (some .int) ∈ GW := inG 1817 (by decide +kernel) (by decide +kernel)
theorem q_1818 : Cond.methodLink RL 63 yX12_far ∈ GW := inG 1818 (by decide +kernel) (by decide +kernel)
theorem q_1819 : Cond.instanceMethod yX12_far ∈ GW := inG 1819 (by decide +kernel) (by decide +kernel)
theorem q_1820 : Cond.selects RX12 yX12_far yX12_far ∈ GW := inG 1820 (by decide +kernel) (by decide +kernel)
theorem q_1821 : Cond.code yX12_far cX12_far 3 (some .int) ∈ GW := inG 1821 (by decide +kernel) (by decide +kernel)
theorem q_1827 : Cond.methodLink RL 54 yX12_nights ∈ GW := inG 1827 (by decide +kernel) (by decide +kernel)
theorem q_1828 : Cond.instanceMethod yX12_nights ∈ GW := inG 1828 (by decide +kernel) (by decide +kernel)
theorem q_1829 : Cond.selects RX12 yX12_nights yX12_nights ∈ GW := inG 1829 (by decide +kernel) (by decide +kernel)
theorem q_1830 : Cond.code yX12_nights cX12_nights 4 (some .int) ∈ GW := inG 1830 (by decide +kernel) (by decide +kernel)
theorem q_1929 : Cond.methodLink RL 59 yX12_of ∈ GW := inG 1929 (by decide +kernel) (by decide +kernel)
theorem q_1930 : Cond.instanceMethod yX12_of ∈ GW := inG 1930 (by decide +kernel) (by decide +kernel)
theorem q_1931 : Cond.selects RX12 yX12_of yX12_of ∈ GW := inG 1931 (by decide +kernel) (by decide +kernel)
theorem q_1932 : Cond.code yX12_of cX12_of 3 (some .int) ∈ GW := inG 1932 (by decide +kernel) (by decide +kernel)
theorem q_1962 : Cond.methodLink RL 67 yX12_need ∈ GW := inG 1962 (by decide +kernel) (by decide +kernel)
theorem q_1963 : Cond.instanceMethod yX12_need ∈ GW := inG 1963 (by decide +kernel) (by decide +kernel)
theorem q_1964 : Cond.selects RX12 yX12_need yX12_need ∈ GW := inG 1964 (by decide +kernel) (by decide +kernel)
theorem q_1965 : Cond.code yX12_need cX12_need 3 (some .int) ∈ GW := inG 1965 (by decide +kernel) (by decide +kernel)
theorem q_1966 : Cond.methodLink RL 71 yX12_book ∈ GW := inG 1966 (by decide +kernel) (by decide +kernel)
theorem q_1967 : Cond.instanceMethod yX12_book ∈ GW := inG 1967 (by decide +kernel) (by decide +kernel)
theorem q_1968 : Cond.selects RX12 yX12_book yX12_book ∈ GW := inG 1968 (by decide +kernel) (by decide +kernel)
theorem q_1969 : Cond.code yX12_book cX12_book 3 (some .int) ∈ GW := inG 1969 (by decide +kernel) (by decide +kernel)
theorem q_1970 : Cond.methodLink RL 75 yX12_run ∈ GW := inG 1970 (by decide +kernel) (by decide +kernel)
theorem q_1971 : Cond.instanceMethod yX12_run ∈ GW := inG 1971 (by decide +kernel) (by decide +kernel)
theorem q_1972 : Cond.selects RX12 yX12_run yX12_run ∈ GW := inG 1972 (by decide +kernel) (by decide +kernel)
theorem q_1973 : Cond.code yX12_run cX12_run 4 (some .int) ∈ GW := inG 1973 (by decide +kernel) (by decide +kernel)
theorem q_1986 : Cond.methodLink RL 79 yX12_plan ∈ GW := inG 1986 (by decide +kernel) (by decide +kernel)
theorem q_1987 : Cond.instanceMethod yX12_plan ∈ GW := inG 1987 (by decide +kernel) (by decide +kernel)
theorem q_1988 : Cond.selects RX12 yX12_plan yX12_plan ∈ GW := inG 1988 (by decide +kernel) (by decide +kernel)
theorem q_1989 : Cond.code yX12_plan cX12_plan 8 (some .int) ∈ GW := inG 1989 (by decide +kernel) (by decide +kernel)
theorem q_2014 : Cond.methodLink RL 83 yX12_mend ∈ GW := inG 2014 (by decide +kernel) (by decide +kernel)
theorem q_2015 : Cond.instanceMethod yX12_mend ∈ GW := inG 2015 (by decide +kernel) (by decide +kernel)
theorem q_2016 : Cond.selects RX12 yX12_mend yX12_mend ∈ GW := inG 2016 (by decide +kernel) (by decide +kernel)
theorem q_2017 : Cond.code yX12_mend cX12_mend 4 (some .int) ∈ GW := inG 2017 (by decide +kernel) (by decide +kernel)
theorem q_2022 : Cond.methodLink RL 87 yX12_rooms ∈ GW := inG 2022 (by decide +kernel) (by decide +kernel)
theorem q_2023 : Cond.instanceMethod yX12_rooms ∈ GW := inG 2023 (by decide +kernel) (by decide +kernel)
theorem q_2024 : Cond.selects RX12 yX12_rooms yX12_rooms ∈ GW := inG 2024 (by decide +kernel) (by decide +kernel)
theorem q_2025 : Cond.code yX12_rooms cX12_rooms 2 (some .int) ∈ GW := inG 2025 (by decide +kernel) (by decide +kernel)
theorem q_2050 : Cond.methodLink RL 91 yX12_sale ∈ GW := inG 2050 (by decide +kernel) (by decide +kernel)
theorem q_2051 : Cond.instanceMethod yX12_sale ∈ GW := inG 2051 (by decide +kernel) (by decide +kernel)
theorem q_2052 : Cond.selects RX12 yX12_sale yX12_sale ∈ GW := inG 2052 (by decide +kernel) (by decide +kernel)
theorem q_2053 : Cond.code yX12_sale cX12_sale 4 (some .int) ∈ GW := inG 2053 (by decide +kernel) (by decide +kernel)
theorem q_2058 : Cond.methodLink RL 96 yX12_liars ∈ GW := inG 2058 (by decide +kernel) (by decide +kernel)
theorem q_2059 : Cond.instanceMethod yX12_liars ∈ GW := inG 2059 (by decide +kernel) (by decide +kernel)
theorem q_2060 : Cond.selects RX12 yX12_liars yX12_liars ∈ GW := inG 2060 (by decide +kernel) (by decide +kernel)
theorem q_2061 : Cond.code yX12_liars cX12_liars 3 (some .int) ∈ GW := inG 2061 (by decide +kernel) (by decide +kernel)
theorem q_2062 : Cond.methodLink RL 100 yX12_sure ∈ GW := inG 2062 (by decide +kernel) (by decide +kernel)
theorem q_2063 : Cond.instanceMethod yX12_sure ∈ GW := inG 2063 (by decide +kernel) (by decide +kernel)
theorem q_2064 : Cond.selects RX12 yX12_sure yX12_sure ∈ GW := inG 2064 (by decide +kernel) (by decide +kernel)
theorem q_2065 : Cond.code yX12_sure cX12_sure 4 (some .int) ∈ GW := inG 2065 (by decide +kernel) (by decide +kernel)
theorem q_2080 : Cond.methodLink RL 104 yX12_best ∈ GW := inG 2080 (by decide +kernel) (by decide +kernel)
theorem q_2081 : Cond.instanceMethod yX12_best ∈ GW := inG 2081 (by decide +kernel) (by decide +kernel)
theorem q_2082 : Cond.selects RX12 yX12_best yX12_best ∈ GW := inG 2082 (by decide +kernel) (by decide +kernel)
theorem q_2083 : Cond.code yX12_best cX12_best 8 (some .int) ∈ GW := inG 2083 (by decide +kernel) (by decide +kernel)
theorem q_2084 : Cond.methodLink RL 108 yX12_clue ∈ GW := inG 2084 (by decide +kernel) (by decide +kernel)
theorem q_2085 : Cond.instanceMethod yX12_clue ∈ GW := inG 2085 (by decide +kernel) (by decide +kernel)
theorem q_2086 : Cond.selects RX12 yX12_clue yX12_clue ∈ GW := inG 2086 (by decide +kernel) (by decide +kernel)
theorem q_2087 : Cond.code yX12_clue cX12_clue 3 (some .int) ∈ GW := inG 2087 (by decide +kernel) (by decide +kernel)
theorem q_2088 : Cond.methodLink RL 113 yX12_ways ∈ GW := inG 2088 (by decide +kernel) (by decide +kernel)
theorem q_2089 : Cond.instanceMethod yX12_ways ∈ GW := inG 2089 (by decide +kernel) (by decide +kernel)
theorem q_2090 : Cond.selects RX12 yX12_ways yX12_ways ∈ GW := inG 2090 (by decide +kernel) (by decide +kernel)
theorem q_2091 : Cond.code yX12_ways cX12_ways 2 (some .long) ∈ GW := inG 2091 (by decide +kernel) (by decide +kernel)
theorem q_2109 : Cond.methodLink RL 117 yX12_been ∈ GW := inG 2109 (by decide +kernel) (by decide +kernel)
theorem q_2110 : Cond.instanceMethod yX12_been ∈ GW := inG 2110 (by decide +kernel) (by decide +kernel)
theorem q_2111 : Cond.selects RX12 yX12_been yX12_been ∈ GW := inG 2111 (by decide +kernel) (by decide +kernel)
theorem q_2112 : Cond.code yX12_been cX12_been 5 (some .int) ∈ GW := inG 2112 (by decide +kernel) (by decide +kernel)
theorem q_2117 : Cond.methodLink RL 121 yX12_ask ∈ GW := inG 2117 (by decide +kernel) (by decide +kernel)
theorem q_2118 : Cond.instanceMethod yX12_ask ∈ GW := inG 2118 (by decide +kernel) (by decide +kernel)
theorem q_2119 : Cond.selects RX12 yX12_ask yX12_ask ∈ GW := inG 2119 (by decide +kernel) (by decide +kernel)
theorem q_2120 : Cond.code yX12_ask cX12_ask 14 (some .int) ∈ GW := inG 2120 (by decide +kernel) (by decide +kernel)
theorem q_2121 : Cond.methodLink RL 131 yX12_image ∈ GW := inG 2121 (by decide +kernel) (by decide +kernel)
theorem q_2122 : Cond.instanceMethod yX12_image ∈ GW := inG 2122 (by decide +kernel) (by decide +kernel)
theorem q_2123 : Cond.selects RX12 yX12_image yX12_image ∈ GW := inG 2123 (by decide +kernel) (by decide +kernel)
theorem q_2124 : Cond.code yX12_image cX12_image 3 (some .boolean) ∈ GW := inG 2124 (by decide +kernel) (by decide +kernel)
theorem q_2141 : Cond.methodLink RL 135 yX12_look ∈ GW := inG 2141 (by decide +kernel) (by decide +kernel)
theorem q_2142 : Cond.instanceMethod yX12_look ∈ GW := inG 2142 (by decide +kernel) (by decide +kernel)
theorem q_2143 : Cond.selects RX12 yX12_look yX12_look ∈ GW := inG 2143 (by decide +kernel) (by decide +kernel)
theorem q_2144 : Cond.code yX12_look cX12_look 2 (some .int) ∈ GW := inG 2144 (by decide +kernel) (by decide +kernel)
theorem q_646 : Cond.methodLink RL 13 yX11_state ∈ GW := inG 646 (by decide +kernel) (by decide +kernel)
theorem q_647 : Cond.instanceMethod yX11_state ∈ GW := inG 647 (by decide +kernel) (by decide +kernel)
theorem q_648 : Cond.selects RX11 yX11_state yX11_state ∈ GW := inG 648 (by decide +kernel) (by decide +kernel)
theorem q_649 : Cond.code yX11_state cX11_state 3 (some .int) ∈ GW := inG 649 (by decide +kernel) (by decide +kernel)
theorem q_658 : Cond.methodLink RL 18 yX11_house ∈ GW := inG 658 (by decide +kernel) (by decide +kernel)
theorem q_659 : Cond.instanceMethod yX11_house ∈ GW := inG 659 (by decide +kernel) (by decide +kernel)
theorem q_660 : Cond.selects RX11 yX11_house yX11_house ∈ GW := inG 660 (by decide +kernel) (by decide +kernel)
theorem q_661 : Cond.code yX11_house cX11_house 6 (some .int) ∈ GW := inG 661 (by decide +kernel) (by decide +kernel)
theorem q_666 : Cond.methodLink RL 23 yX11_set ∈ GW := inG 666 (by decide +kernel) (by decide +kernel)
theorem q_667 : Cond.instanceMethod yX11_set ∈ GW := inG 667 (by decide +kernel) (by decide +kernel)
theorem q_668 : Cond.selects RX11 yX11_set yX11_set ∈ GW := inG 668 (by decide +kernel) (by decide +kernel)
theorem q_669 : Cond.code yX11_set cX11_set 4 (some .boolean) ∈ GW := inG 669 (by decide +kernel) (by decide +kernel)
theorem q_686 : Cond.methodLink RL 28 yX11_friends ∈ GW := inG 686 (by decide +kernel) (by decide +kernel)
theorem q_687 : Cond.instanceMethod yX11_friends ∈ GW := inG 687 (by decide +kernel) (by decide +kernel)
theorem q_688 : Cond.selects RX11 yX11_friends yX11_friends ∈ GW := inG 688 (by decide +kernel) (by decide +kernel)
theorem q_689 : Cond.code yX11_friends cX11_friends 5 (some .boolean) ∈ GW := inG 689 (by decide +kernel) (by decide +kernel)
theorem q_694 : Cond.methodLink RL 33 yX11_feed ∈ GW := inG 694 (by decide +kernel) (by decide +kernel)
theorem q_695 : Cond.instanceMethod yX11_feed ∈ GW := inG 695 (by decide +kernel) (by decide +kernel)
theorem q_696 : Cond.selects RX11 yX11_feed yX11_feed ∈ GW := inG 696 (by decide +kernel) (by decide +kernel)
theorem q_697 : Cond.code yX11_feed cX11_feed 6 (some .int) ∈ GW := inG 697 (by decide +kernel) (by decide +kernel)
theorem q_702 : Cond.methodLink RL 38 yX11_end ∈ GW := inG 702 (by decide +kernel) (by decide +kernel)
theorem q_703 : Cond.instanceMethod yX11_end ∈ GW := inG 703 (by decide +kernel) (by decide +kernel)
theorem q_704 : Cond.selects RX11 yX11_end yX11_end ∈ GW := inG 704 (by decide +kernel) (by decide +kernel)
theorem q_705 : Cond.code yX11_end cX11_end 2 (some .boolean) ∈ GW := inG 705 (by decide +kernel) (by decide +kernel)
theorem q_706 : Cond.methodLink RL 43 yX11_text ∈ GW := inG 706 (by decide +kernel) (by decide +kernel)
theorem q_707 : Cond.instanceMethod yX11_text ∈ GW := inG 707 (by decide +kernel) (by decide +kernel)
theorem q_708 : Cond.selects RX11 yX11_text yX11_text ∈ GW := inG 708 (by decide +kernel) (by decide +kernel)
theorem q_709 : Cond.code yX11_text cX11_text 3 (some .int) ∈ GW := inG 709 (by decide +kernel) (by decide +kernel)
theorem q_987 : Cond.methodLink RL 47 yX11_fault ∈ GW := inG 987 (by decide +kernel) (by decide +kernel)
theorem q_988 : Cond.instanceMethod yX11_fault ∈ GW := inG 988 (by decide +kernel) (by decide +kernel)
theorem q_989 : Cond.selects RX11 yX11_fault yX11_fault ∈ GW := inG 989 (by decide +kernel) (by decide +kernel)
theorem q_990 : Cond.code yX11_fault cX11_fault 2 (some .int) ∈ GW := inG 990 (by decide +kernel) (by decide +kernel)
theorem q_991 : Cond.methodLink RL 51 yX11_nights ∈ GW := inG 991 (by decide +kernel) (by decide +kernel)
theorem q_992 : Cond.instanceMethod yX11_nights ∈ GW := inG 992 (by decide +kernel) (by decide +kernel)
theorem q_993 : Cond.selects RX11 yX11_nights yX11_nights ∈ GW := inG 993 (by decide +kernel) (by decide +kernel)
theorem q_994 : Cond.code yX11_nights cX11_nights 4 (some .int) ∈ GW := inG 994 (by decide +kernel) (by decide +kernel)
theorem hdV_X11_ask : yX11_ask.cls = RX11 ∧ yX11_ask.cls ≠ "java/lang/invoke/MethodHandle" ∧ yX11_ask.cls ≠ "java/lang/invoke/VarHandle" ∧ (parseMethodDescriptor yX11_ask.desc).map (fun d => d.parameters.length) = some 2 := by decide +kernel
theorem hdV_X11_been : yX11_been.cls = RX11 ∧ yX11_been.cls ≠ "java/lang/invoke/MethodHandle" ∧ yX11_been.cls ≠ "java/lang/invoke/VarHandle" ∧ (parseMethodDescriptor yX11_been.desc).map (fun d => d.parameters.length) = some 2 := by decide +kernel
theorem hdV_X11_best : yX11_best.cls = RX11 ∧ yX11_best.cls ≠ "java/lang/invoke/MethodHandle" ∧ yX11_best.cls ≠ "java/lang/invoke/VarHandle" ∧ (parseMethodDescriptor yX11_best.desc).map (fun d => d.parameters.length) = some 2 := by decide +kernel
theorem hdV_X11_book : yX11_book.cls = RX11 ∧ yX11_book.cls ≠ "java/lang/invoke/MethodHandle" ∧ yX11_book.cls ≠ "java/lang/invoke/VarHandle" ∧ (parseMethodDescriptor yX11_book.desc).map (fun d => d.parameters.length) = some 2 := by decide +kernel
theorem hdV_X11_clue : yX11_clue.cls = RX11 ∧ yX11_clue.cls ≠ "java/lang/invoke/MethodHandle" ∧ yX11_clue.cls ≠ "java/lang/invoke/VarHandle" ∧ (parseMethodDescriptor yX11_clue.desc).map (fun d => d.parameters.length) = some 2 := by decide +kernel
theorem hdV_X11_end : yX11_end.cls = RX11 ∧ yX11_end.cls ≠ "java/lang/invoke/MethodHandle" ∧ yX11_end.cls ≠ "java/lang/invoke/VarHandle" ∧ (parseMethodDescriptor yX11_end.desc).map (fun d => d.parameters.length) = some 1 := by decide +kernel
theorem hdV_X11_far : yX11_far.cls = RX11 ∧ yX11_far.cls ≠ "java/lang/invoke/MethodHandle" ∧ yX11_far.cls ≠ "java/lang/invoke/VarHandle" ∧ (parseMethodDescriptor yX11_far.desc).map (fun d => d.parameters.length) = some 2 := by decide +kernel
theorem hdV_X11_fault : yX11_fault.cls = RX11 ∧ yX11_fault.cls ≠ "java/lang/invoke/MethodHandle" ∧ yX11_fault.cls ≠ "java/lang/invoke/VarHandle" ∧ (parseMethodDescriptor yX11_fault.desc).map (fun d => d.parameters.length) = some 1 := by decide +kernel
theorem hdV_X11_feed : yX11_feed.cls = RX11 ∧ yX11_feed.cls ≠ "java/lang/invoke/MethodHandle" ∧ yX11_feed.cls ≠ "java/lang/invoke/VarHandle" ∧ (parseMethodDescriptor yX11_feed.desc).map (fun d => d.parameters.length) = some 5 := by decide +kernel
theorem hdV_X11_friends : yX11_friends.cls = RX11 ∧ yX11_friends.cls ≠ "java/lang/invoke/MethodHandle" ∧ yX11_friends.cls ≠ "java/lang/invoke/VarHandle" ∧ (parseMethodDescriptor yX11_friends.desc).map (fun d => d.parameters.length) = some 3 := by decide +kernel
theorem hdV_X11_house : yX11_house.cls = RX11 ∧ yX11_house.cls ≠ "java/lang/invoke/MethodHandle" ∧ yX11_house.cls ≠ "java/lang/invoke/VarHandle" ∧ (parseMethodDescriptor yX11_house.desc).map (fun d => d.parameters.length) = some 3 := by decide +kernel
theorem hdV_X11_image : yX11_image.cls = RX11 ∧ yX11_image.cls ≠ "java/lang/invoke/MethodHandle" ∧ yX11_image.cls ≠ "java/lang/invoke/VarHandle" ∧ (parseMethodDescriptor yX11_image.desc).map (fun d => d.parameters.length) = some 1 := by decide +kernel
theorem hdI_X11_init : yX11_init.cls ≠ "java/lang/invoke/MethodHandle" ∧ yX11_init.cls ≠ "java/lang/invoke/VarHandle" ∧ (parseMethodDescriptor yX11_init.desc).map (fun d => d.parameters.length) = some 0 := by decide +kernel
theorem hdV_X11_liars : yX11_liars.cls = RX11 ∧ yX11_liars.cls ≠ "java/lang/invoke/MethodHandle" ∧ yX11_liars.cls ≠ "java/lang/invoke/VarHandle" ∧ (parseMethodDescriptor yX11_liars.desc).map (fun d => d.parameters.length) = some 0 := by decide +kernel
theorem hdV_X11_look : yX11_look.cls = RX11 ∧ yX11_look.cls ≠ "java/lang/invoke/MethodHandle" ∧ yX11_look.cls ≠ "java/lang/invoke/VarHandle" ∧ (parseMethodDescriptor yX11_look.desc).map (fun d => d.parameters.length) = some 1 := by decide +kernel
theorem hdV_X11_mend : yX11_mend.cls = RX11 ∧ yX11_mend.cls ≠ "java/lang/invoke/MethodHandle" ∧ yX11_mend.cls ≠ "java/lang/invoke/VarHandle" ∧ (parseMethodDescriptor yX11_mend.desc).map (fun d => d.parameters.length) = some 1 := by decide +kernel
theorem hdV_X11_need : yX11_need.cls = RX11 ∧ yX11_need.cls ≠ "java/lang/invoke/MethodHandle" ∧ yX11_need.cls ≠ "java/lang/invoke/VarHandle" ∧ (parseMethodDescriptor yX11_need.desc).map (fun d => d.parameters.length) = some 2 := by decide +kernel
theorem hdV_X11_nights : yX11_nights.cls = RX11 ∧ yX11_nights.cls ≠ "java/lang/invoke/MethodHandle" ∧ yX11_nights.cls ≠ "java/lang/invoke/VarHandle" ∧ (parseMethodDescriptor yX11_nights.desc).map (fun d => d.parameters.length) = some 1 := by decide +kernel
theorem hdV_X11_of : yX11_of.cls = RX11 ∧ yX11_of.cls ≠ "java/lang/invoke/MethodHandle" ∧ yX11_of.cls ≠ "java/lang/invoke/VarHandle" ∧ (parseMethodDescriptor yX11_of.desc).map (fun d => d.parameters.length) = some 2 := by decide +kernel
theorem hdV_X11_plan : yX11_plan.cls = RX11 ∧ yX11_plan.cls ≠ "java/lang/invoke/MethodHandle" ∧ yX11_plan.cls ≠ "java/lang/invoke/VarHandle" ∧ (parseMethodDescriptor yX11_plan.desc).map (fun d => d.parameters.length) = some 2 := by decide +kernel
theorem hdV_X11_rooms : yX11_rooms.cls = RX11 ∧ yX11_rooms.cls ≠ "java/lang/invoke/MethodHandle" ∧ yX11_rooms.cls ≠ "java/lang/invoke/VarHandle" ∧ (parseMethodDescriptor yX11_rooms.desc).map (fun d => d.parameters.length) = some 1 := by decide +kernel
theorem hdV_X11_run : yX11_run.cls = RX11 ∧ yX11_run.cls ≠ "java/lang/invoke/MethodHandle" ∧ yX11_run.cls ≠ "java/lang/invoke/VarHandle" ∧ (parseMethodDescriptor yX11_run.desc).map (fun d => d.parameters.length) = some 2 := by decide +kernel
theorem hdV_X11_sale : yX11_sale.cls = RX11 ∧ yX11_sale.cls ≠ "java/lang/invoke/MethodHandle" ∧ yX11_sale.cls ≠ "java/lang/invoke/VarHandle" ∧ (parseMethodDescriptor yX11_sale.desc).map (fun d => d.parameters.length) = some 1 := by decide +kernel
theorem hdV_X11_set : yX11_set.cls = RX11 ∧ yX11_set.cls ≠ "java/lang/invoke/MethodHandle" ∧ yX11_set.cls ≠ "java/lang/invoke/VarHandle" ∧ (parseMethodDescriptor yX11_set.desc).map (fun d => d.parameters.length) = some 3 := by decide +kernel
theorem hdV_X11_state : yX11_state.cls = RX11 ∧ yX11_state.cls ≠ "java/lang/invoke/MethodHandle" ∧ yX11_state.cls ≠ "java/lang/invoke/VarHandle" ∧ (parseMethodDescriptor yX11_state.desc).map (fun d => d.parameters.length) = some 1 := by decide +kernel
theorem hdV_X11_sure : yX11_sure.cls = RX11 ∧ yX11_sure.cls ≠ "java/lang/invoke/MethodHandle" ∧ yX11_sure.cls ≠ "java/lang/invoke/VarHandle" ∧ (parseMethodDescriptor yX11_sure.desc).map (fun d => d.parameters.length) = some 3 := by decide +kernel
theorem hdV_X11_text : yX11_text.cls = RX11 ∧ yX11_text.cls ≠ "java/lang/invoke/MethodHandle" ∧ yX11_text.cls ≠ "java/lang/invoke/VarHandle" ∧ (parseMethodDescriptor yX11_text.desc).map (fun d => d.parameters.length) = some 1 := by decide +kernel
theorem hdV_X11_undo : yX11_undo.cls = RX11 ∧ yX11_undo.cls ≠ "java/lang/invoke/MethodHandle" ∧ yX11_undo.cls ≠ "java/lang/invoke/VarHandle" ∧ (parseMethodDescriptor yX11_undo.desc).map (fun d => d.parameters.length) = some 0 := by decide +kernel
theorem hdV_X11_ways : yX11_ways.cls = RX11 ∧ yX11_ways.cls ≠ "java/lang/invoke/MethodHandle" ∧ yX11_ways.cls ≠ "java/lang/invoke/VarHandle" ∧ (parseMethodDescriptor yX11_ways.desc).map (fun d => d.parameters.length) = some 1 := by decide +kernel
theorem hdV_X12_ask : yX12_ask.cls = RX12 ∧ yX12_ask.cls ≠ "java/lang/invoke/MethodHandle" ∧ yX12_ask.cls ≠ "java/lang/invoke/VarHandle" ∧ (parseMethodDescriptor yX12_ask.desc).map (fun d => d.parameters.length) = some 2 := by decide +kernel
theorem hdV_X12_been : yX12_been.cls = RX12 ∧ yX12_been.cls ≠ "java/lang/invoke/MethodHandle" ∧ yX12_been.cls ≠ "java/lang/invoke/VarHandle" ∧ (parseMethodDescriptor yX12_been.desc).map (fun d => d.parameters.length) = some 2 := by decide +kernel
theorem hdV_X12_best : yX12_best.cls = RX12 ∧ yX12_best.cls ≠ "java/lang/invoke/MethodHandle" ∧ yX12_best.cls ≠ "java/lang/invoke/VarHandle" ∧ (parseMethodDescriptor yX12_best.desc).map (fun d => d.parameters.length) = some 2 := by decide +kernel
theorem hdV_X12_book : yX12_book.cls = RX12 ∧ yX12_book.cls ≠ "java/lang/invoke/MethodHandle" ∧ yX12_book.cls ≠ "java/lang/invoke/VarHandle" ∧ (parseMethodDescriptor yX12_book.desc).map (fun d => d.parameters.length) = some 2 := by decide +kernel
theorem hdV_X12_clue : yX12_clue.cls = RX12 ∧ yX12_clue.cls ≠ "java/lang/invoke/MethodHandle" ∧ yX12_clue.cls ≠ "java/lang/invoke/VarHandle" ∧ (parseMethodDescriptor yX12_clue.desc).map (fun d => d.parameters.length) = some 2 := by decide +kernel
theorem hdV_X12_end : yX12_end.cls = RX12 ∧ yX12_end.cls ≠ "java/lang/invoke/MethodHandle" ∧ yX12_end.cls ≠ "java/lang/invoke/VarHandle" ∧ (parseMethodDescriptor yX12_end.desc).map (fun d => d.parameters.length) = some 1 := by decide +kernel
theorem hdV_X12_far : yX12_far.cls = RX12 ∧ yX12_far.cls ≠ "java/lang/invoke/MethodHandle" ∧ yX12_far.cls ≠ "java/lang/invoke/VarHandle" ∧ (parseMethodDescriptor yX12_far.desc).map (fun d => d.parameters.length) = some 2 := by decide +kernel
theorem hdV_X12_fault : yX12_fault.cls = RX12 ∧ yX12_fault.cls ≠ "java/lang/invoke/MethodHandle" ∧ yX12_fault.cls ≠ "java/lang/invoke/VarHandle" ∧ (parseMethodDescriptor yX12_fault.desc).map (fun d => d.parameters.length) = some 1 := by decide +kernel
theorem hdV_X12_feed : yX12_feed.cls = RX12 ∧ yX12_feed.cls ≠ "java/lang/invoke/MethodHandle" ∧ yX12_feed.cls ≠ "java/lang/invoke/VarHandle" ∧ (parseMethodDescriptor yX12_feed.desc).map (fun d => d.parameters.length) = some 5 := by decide +kernel
theorem hdV_X12_friends : yX12_friends.cls = RX12 ∧ yX12_friends.cls ≠ "java/lang/invoke/MethodHandle" ∧ yX12_friends.cls ≠ "java/lang/invoke/VarHandle" ∧ (parseMethodDescriptor yX12_friends.desc).map (fun d => d.parameters.length) = some 3 := by decide +kernel
theorem hdV_X12_house : yX12_house.cls = RX12 ∧ yX12_house.cls ≠ "java/lang/invoke/MethodHandle" ∧ yX12_house.cls ≠ "java/lang/invoke/VarHandle" ∧ (parseMethodDescriptor yX12_house.desc).map (fun d => d.parameters.length) = some 3 := by decide +kernel
theorem hdV_X12_image : yX12_image.cls = RX12 ∧ yX12_image.cls ≠ "java/lang/invoke/MethodHandle" ∧ yX12_image.cls ≠ "java/lang/invoke/VarHandle" ∧ (parseMethodDescriptor yX12_image.desc).map (fun d => d.parameters.length) = some 1 := by decide +kernel
theorem hdI_X12_init : yX12_init.cls ≠ "java/lang/invoke/MethodHandle" ∧ yX12_init.cls ≠ "java/lang/invoke/VarHandle" ∧ (parseMethodDescriptor yX12_init.desc).map (fun d => d.parameters.length) = some 0 := by decide +kernel
theorem hdV_X12_liars : yX12_liars.cls = RX12 ∧ yX12_liars.cls ≠ "java/lang/invoke/MethodHandle" ∧ yX12_liars.cls ≠ "java/lang/invoke/VarHandle" ∧ (parseMethodDescriptor yX12_liars.desc).map (fun d => d.parameters.length) = some 0 := by decide +kernel
theorem hdV_X12_look : yX12_look.cls = RX12 ∧ yX12_look.cls ≠ "java/lang/invoke/MethodHandle" ∧ yX12_look.cls ≠ "java/lang/invoke/VarHandle" ∧ (parseMethodDescriptor yX12_look.desc).map (fun d => d.parameters.length) = some 1 := by decide +kernel
theorem hdV_X12_mend : yX12_mend.cls = RX12 ∧ yX12_mend.cls ≠ "java/lang/invoke/MethodHandle" ∧ yX12_mend.cls ≠ "java/lang/invoke/VarHandle" ∧ (parseMethodDescriptor yX12_mend.desc).map (fun d => d.parameters.length) = some 1 := by decide +kernel
theorem hdV_X12_need : yX12_need.cls = RX12 ∧ yX12_need.cls ≠ "java/lang/invoke/MethodHandle" ∧ yX12_need.cls ≠ "java/lang/invoke/VarHandle" ∧ (parseMethodDescriptor yX12_need.desc).map (fun d => d.parameters.length) = some 2 := by decide +kernel
theorem hdV_X12_nights : yX12_nights.cls = RX12 ∧ yX12_nights.cls ≠ "java/lang/invoke/MethodHandle" ∧ yX12_nights.cls ≠ "java/lang/invoke/VarHandle" ∧ (parseMethodDescriptor yX12_nights.desc).map (fun d => d.parameters.length) = some 1 := by decide +kernel
theorem hdV_X12_of : yX12_of.cls = RX12 ∧ yX12_of.cls ≠ "java/lang/invoke/MethodHandle" ∧ yX12_of.cls ≠ "java/lang/invoke/VarHandle" ∧ (parseMethodDescriptor yX12_of.desc).map (fun d => d.parameters.length) = some 2 := by decide +kernel
theorem hdV_X12_plan : yX12_plan.cls = RX12 ∧ yX12_plan.cls ≠ "java/lang/invoke/MethodHandle" ∧ yX12_plan.cls ≠ "java/lang/invoke/VarHandle" ∧ (parseMethodDescriptor yX12_plan.desc).map (fun d => d.parameters.length) = some 2 := by decide +kernel
theorem hdV_X12_rooms : yX12_rooms.cls = RX12 ∧ yX12_rooms.cls ≠ "java/lang/invoke/MethodHandle" ∧ yX12_rooms.cls ≠ "java/lang/invoke/VarHandle" ∧ (parseMethodDescriptor yX12_rooms.desc).map (fun d => d.parameters.length) = some 1 := by decide +kernel
theorem hdV_X12_run : yX12_run.cls = RX12 ∧ yX12_run.cls ≠ "java/lang/invoke/MethodHandle" ∧ yX12_run.cls ≠ "java/lang/invoke/VarHandle" ∧ (parseMethodDescriptor yX12_run.desc).map (fun d => d.parameters.length) = some 2 := by decide +kernel
theorem hdV_X12_sale : yX12_sale.cls = RX12 ∧ yX12_sale.cls ≠ "java/lang/invoke/MethodHandle" ∧ yX12_sale.cls ≠ "java/lang/invoke/VarHandle" ∧ (parseMethodDescriptor yX12_sale.desc).map (fun d => d.parameters.length) = some 1 := by decide +kernel
theorem hdV_X12_set : yX12_set.cls = RX12 ∧ yX12_set.cls ≠ "java/lang/invoke/MethodHandle" ∧ yX12_set.cls ≠ "java/lang/invoke/VarHandle" ∧ (parseMethodDescriptor yX12_set.desc).map (fun d => d.parameters.length) = some 3 := by decide +kernel
theorem hdV_X12_state : yX12_state.cls = RX12 ∧ yX12_state.cls ≠ "java/lang/invoke/MethodHandle" ∧ yX12_state.cls ≠ "java/lang/invoke/VarHandle" ∧ (parseMethodDescriptor yX12_state.desc).map (fun d => d.parameters.length) = some 1 := by decide +kernel
theorem hdV_X12_sure : yX12_sure.cls = RX12 ∧ yX12_sure.cls ≠ "java/lang/invoke/MethodHandle" ∧ yX12_sure.cls ≠ "java/lang/invoke/VarHandle" ∧ (parseMethodDescriptor yX12_sure.desc).map (fun d => d.parameters.length) = some 3 := by decide +kernel
theorem hdV_X12_text : yX12_text.cls = RX12 ∧ yX12_text.cls ≠ "java/lang/invoke/MethodHandle" ∧ yX12_text.cls ≠ "java/lang/invoke/VarHandle" ∧ (parseMethodDescriptor yX12_text.desc).map (fun d => d.parameters.length) = some 1 := by decide +kernel
theorem hdV_X12_undo : yX12_undo.cls = RX12 ∧ yX12_undo.cls ≠ "java/lang/invoke/MethodHandle" ∧ yX12_undo.cls ≠ "java/lang/invoke/VarHandle" ∧ (parseMethodDescriptor yX12_undo.desc).map (fun d => d.parameters.length) = some 0 := by decide +kernel
theorem hdV_X12_ways : yX12_ways.cls = RX12 ∧ yX12_ways.cls ≠ "java/lang/invoke/MethodHandle" ∧ yX12_ways.cls ≠ "java/lang/invoke/VarHandle" ∧ (parseMethodDescriptor yX12_ways.desc).map (fun d => d.parameters.length) = some 1 := by decide +kernel
set_option maxRecDepth 100000 in
theorem q_1396_t : Cond.code yX12_init cX12_init 1 none ∈ k2_sels lw_privs ++ (tables_1_1 ++ (tables_1_2 ++ (tables_1_3 ++ (tables_1_4 ++ (tables_1_5 ++ (tables_1_6 ++ (tables_1_7 ++ (tables_1_8 ++ (tables_1_9))))))))) := List.mem_append_right _ (List.mem_append_right _ (List.mem_append_right _ (List.mem_append_right _ (List.mem_append_right _ (List.mem_append_right _ (List.mem_append_left _ (List.mem_of_getElem? (i := 46) rfl)))))))
theorem q_1396 : Cond.code yX12_init cX12_init 1 none ∈ GW := List.mem_filter.mpr ⟨q_1396_t, rfl⟩
