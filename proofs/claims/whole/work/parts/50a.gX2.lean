set_option maxRecDepth 100000 in
set_option maxHeartbeats 4000000 in
theorem ggX2_readInto_X2_stepToToken : GoodIn wsX2_readInto wsX2_stepToToken := goodIn_r _ [10, 1, 4, 5, 3, 11, 12, 9, 13, 170, 171, 172, 173, 174] rfl (by decide +kernel)
set_option maxRecDepth 20000 in
theorem gX2_readInto_X2_stepToToken : GoodIn wsX2_readInto (wsV RX2 27 RX2 yX2_stepToToken wsX2_stepToToken) := goodIn_app (goodIn_of _ (by decide +kernel)) ggX2_readInto_X2_stepToToken
set_option maxRecDepth 100000 in
set_option maxHeartbeats 4000000 in
theorem ggX2_readInto_X2_readLine : GoodIn wsX2_readInto wsX2_readLine := goodIn_r _ [17, 18, 19, 20, 9, 21, 1, 3, 5, 22, 23, 24, 25, 26, 27, 28, 29, 30, 31, 32, 33, 34, 35, 36, 37, 38, 39, 40, 41, 42, 43, 44, 45, 46, 47, 48, 49, 50, 51, 52, 53, 54, 55, 56, 57, 58, 59, 60, 61, 62, 63, 64, 65, 66, 67, 68, 69, 70, 71, 72, 73, 74, 75, 76, 77, 78, 6, 7, 8, 10, 4, 11, 12, 13, 79, 80, 81, 82, 83, 84, 85, 86, 87, 88, 89, 90, 91, 92, 93, 94, 95, 96, 97, 98, 99, 100, 101, 102, 103, 104, 105, 106, 107, 108, 109, 110, 111, 112, 113, 114, 115, 116, 117, 118, 119, 120, 121, 122, 123, 124, 125, 126, 127, 128, 129, 130, 131, 132, 133, 134, 135, 136, 137, 138, 139, 140, 141, 142, 143, 144, 145, 146, 147, 148, 149, 150, 151, 152, 153, 154, 155, 156, 157, 158, 159, 160, 161, 162, 163, 164, 165, 166, 167, 168, 169, 170, 171, 172, 173, 174, 175, 176, 177, 178, 179, 180, 181, 182, 183, 184, 185, 186, 187, 188] rfl (by decide +kernel)
set_option maxRecDepth 20000 in
theorem gX2_readInto_X2_readLine : GoodIn wsX2_readInto (wsV RX2 30 RX2 yX2_readLine wsX2_readLine) := goodIn_app (goodIn_of _ (by decide +kernel)) ggX2_readInto_X2_readLine
set_option maxRecDepth 100000 in
set_option maxHeartbeats 4000000 in
theorem ggX2_readLine_X2_isWord : GoodIn wsX2_readLine wsX2_isWord := goodIn_r _ [5, 6, 7, 8, 9, 10, 11, 12, 13, 14, 15, 16, 17, 18, 19, 20, 21, 22, 23, 24, 25, 26, 27, 28, 29, 30, 31, 32, 33, 34, 35, 36, 37, 38, 39, 40, 41, 42, 43, 44, 45, 46, 47, 48, 49, 50, 51, 52, 53, 54, 55, 56, 57, 165, 166, 167, 168, 169] rfl (by decide +kernel)
set_option maxRecDepth 20000 in
theorem gX2_readLine_X2_isWord : GoodIn wsX2_readLine (wsV RX2 39 RX2 yX2_isWord wsX2_isWord) := goodIn_app (goodIn_of _ (by decide +kernel)) ggX2_readLine_X2_isWord
set_option maxRecDepth 100000 in
set_option maxHeartbeats 4000000 in
theorem ggX2_readLine_X2_readGreen : GoodIn wsX2_readLine wsX2_readGreen := goodIn_r _ [61, 62, 63, 64, 4, 65, 6, 7, 8, 66, 67, 68, 69, 70, 71, 72, 73, 74, 75, 76, 77, 78, 79, 80, 81, 82, 83, 84, 85, 86, 87, 88, 89, 90, 91, 92, 93, 94, 165, 166, 167, 168, 169, 170, 171, 172, 173, 174, 175, 176, 177, 178, 179, 180, 181, 182, 183] rfl (by decide +kernel)
set_option maxRecDepth 20000 in
theorem gX2_readLine_X2_readGreen : GoodIn wsX2_readLine (wsV RX2 43 RX2 yX2_readGreen wsX2_readGreen) := goodIn_app (goodIn_of _ (by decide +kernel)) ggX2_readLine_X2_readGreen
set_option maxRecDepth 100000 in
set_option maxHeartbeats 4000000 in
theorem ggX2_readLine_X2_readCrop : GoodIn wsX2_readLine wsX2_readCrop := goodIn_r _ [98, 99, 100, 62, 63, 64, 4, 65, 6, 7, 8, 66, 67, 68, 69, 70, 71, 72, 73, 170, 171, 172, 173, 174, 175, 176, 177, 178, 179, 180, 181, 182, 183, 165, 166, 167, 168, 169] rfl (by decide +kernel)
set_option maxRecDepth 20000 in
theorem gX2_readLine_X2_readCrop : GoodIn wsX2_readLine (wsV RX2 48 RX2 yX2_readCrop wsX2_readCrop) := goodIn_app (goodIn_of _ (by decide +kernel)) ggX2_readLine_X2_readCrop
set_option maxRecDepth 100000 in
set_option maxHeartbeats 4000000 in
theorem ggX2_readLine_X2_kindHere : GoodIn wsX2_readLine wsX2_kindHere := goodIn_r _ [104, 1, 2, 3, 4, 5, 6, 7, 8, 9, 10, 11, 12, 13, 14, 15, 16, 17, 18, 19, 20, 21, 22, 23, 24, 25, 26, 27, 28, 29, 30, 31, 32, 33, 34, 35, 36, 37, 38, 39, 40, 41, 42, 43, 44, 45, 46, 47, 48, 49, 50, 51, 52, 53, 54, 55, 56, 57, 165, 166, 167, 168, 169] rfl (by decide +kernel)
set_option maxRecDepth 20000 in
theorem gX2_readLine_X2_kindHere : GoodIn wsX2_readLine (wsV RX2 51 RX2 yX2_kindHere wsX2_kindHere) := goodIn_app (goodIn_of _ (by decide +kernel)) ggX2_readLine_X2_kindHere
set_option maxRecDepth 100000 in
set_option maxHeartbeats 4000000 in
theorem ggX2_readLine_X2_readHouse : GoodIn wsX2_readLine wsX2_readHouse := goodIn_r _ [108, 109, 99, 62, 63, 64, 4, 65, 6, 7, 8, 66, 67, 68, 69, 70, 71, 72, 73, 110, 111, 112, 77, 113, 92, 94, 114, 115, 116, 117, 118, 119, 120, 121, 122, 123, 79, 124, 125, 126, 127, 170, 171, 172, 173, 174, 175, 176, 177, 178, 179, 180, 181, 182, 183, 165, 166, 167, 168, 169] rfl (by decide +kernel)
set_option maxRecDepth 20000 in
theorem gX2_readLine_X2_readHouse : GoodIn wsX2_readLine (wsV RX2 55 RX2 yX2_readHouse wsX2_readHouse) := goodIn_app (goodIn_of _ (by decide +kernel)) ggX2_readLine_X2_readHouse
set_option maxRecDepth 100000 in
set_option maxHeartbeats 4000000 in
theorem ggX2_readLine_X2_readPath : GoodIn wsX2_readLine wsX2_readPath := goodIn_r _ [131, 132, 99, 62, 63, 64, 4, 65, 6, 7, 8, 66, 67, 68, 69, 70, 71, 72, 73, 133, 134, 135, 77, 136, 80, 137, 138, 170, 171, 172, 173, 174, 175, 176, 177, 178, 179, 180, 181, 182, 183, 165, 166, 167, 168, 169] rfl (by decide +kernel)
set_option maxRecDepth 20000 in
theorem gX2_readLine_X2_readPath : GoodIn wsX2_readLine (wsV RX2 61 RX2 yX2_readPath wsX2_readPath) := goodIn_app (goodIn_of _ (by decide +kernel)) ggX2_readLine_X2_readPath
set_option maxRecDepth 100000 in
set_option maxHeartbeats 4000000 in
theorem ggX2_readLine_X2_readFeud : GoodIn wsX2_readLine wsX2_readFeud := goodIn_r _ [142, 143, 109, 62, 63, 64, 4, 65, 6, 7, 8, 66, 67, 68, 69, 70, 71, 72, 73, 144, 145, 146, 77, 147, 93, 148, 149, 170, 171, 172, 173, 174, 175, 176, 177, 178, 179, 180, 181, 182, 183, 165, 166, 167, 168, 169] rfl (by decide +kernel)
set_option maxRecDepth 20000 in
theorem gX2_readLine_X2_readFeud : GoodIn wsX2_readLine (wsV RX2 66 RX2 yX2_readFeud wsX2_readFeud) := goodIn_app (goodIn_of _ (by decide +kernel)) ggX2_readLine_X2_readFeud
set_option maxRecDepth 100000 in
set_option maxHeartbeats 4000000 in
theorem ggX2_readLine_X2_readLot : GoodIn wsX2_readLine wsX2_readLot := goodIn_r _ [153, 154, 155, 62, 63, 64, 4, 65, 6, 7, 8, 66, 67, 68, 69, 70, 71, 72, 73, 170, 171, 172, 173, 174, 175, 176, 177, 178, 179, 180, 181, 182, 183, 165, 166, 167, 168, 169] rfl (by decide +kernel)
set_option maxRecDepth 20000 in
theorem gX2_readLine_X2_readLot : GoodIn wsX2_readLine (wsV RX2 71 RX2 yX2_readLot wsX2_readLot) := goodIn_app (goodIn_of _ (by decide +kernel)) ggX2_readLine_X2_readLot
set_option maxRecDepth 100000 in
set_option maxHeartbeats 4000000 in
theorem ggX2_readLine_X3_removeHouses : GoodIn wsX2_readLine wsX3_removeHouses := goodIn_r _ [91, 92, 93, 94, 170, 171, 172, 173, 174, 175, 176, 177, 178, 179, 180, 181, 182, 183] rfl (by decide +kernel)
set_option maxRecDepth 20000 in
theorem gX2_readLine_X3_removeHouses : GoodIn wsX2_readLine (wsV RX2 76 RX3 yX3_removeHouses wsX3_removeHouses) := goodIn_app (goodIn_of _ (by decide +kernel)) ggX2_readLine_X3_removeHouses
set_option maxRecDepth 100000 in
set_option maxHeartbeats 4000000 in
theorem ggX2_readLine_X2_readPlainLaw : GoodIn wsX2_readLine wsX2_readPlainLaw := goodIn_r _ [160, 154, 161, 162, 163, 4, 164, 1, 2, 3, 5, 6, 7, 8, 9, 10, 11, 12, 13, 14, 15, 16, 17, 18, 19, 20, 21, 22, 23, 24, 25, 26, 27, 28, 29, 30, 31, 32, 33, 34, 35, 36, 37, 38, 39, 40, 41, 42, 43, 44, 45, 46, 47, 48, 49, 50, 51, 52, 53, 54, 55, 56, 57, 170, 171, 172, 173, 174, 175, 176, 177, 178, 179, 180, 181, 182, 183, 165, 166, 167, 168, 169] rfl (by decide +kernel)
set_option maxRecDepth 20000 in
theorem gX2_readLine_X2_readPlainLaw : GoodIn wsX2_readLine (wsV RX2 81 RX2 yX2_readPlainLaw wsX2_readPlainLaw) := goodIn_app (goodIn_of _ (by decide +kernel)) ggX2_readLine_X2_readPlainLaw
set_option maxRecDepth 100000 in
set_option maxHeartbeats 4000000 in
theorem ggX2_readGreen_X2_readNumber : GoodIn wsX2_readGreen wsX2_readNumber := goodIn_r _ [5, 6, 7, 8, 9, 10, 11, 4, 12, 13, 14, 15, 16, 38, 39, 40, 41, 42] rfl (by decide +kernel)
set_option maxRecDepth 20000 in
theorem gX2_readGreen_X2_readNumber : GoodIn wsX2_readGreen (wsV RX2 84 RX2 yX2_readNumber wsX2_readNumber) := goodIn_app (goodIn_of _ (by decide +kernel)) ggX2_readGreen_X2_readNumber
set_option maxRecDepth 100000 in
set_option maxHeartbeats 4000000 in
theorem ggX2_readGreen_X3_layOut : GoodIn wsX2_readGreen wsX3_layOut := goodIn_r _ [21, 22, 23, 24, 25, 26, 27, 28, 29, 30, 31, 32, 33, 20, 34, 35, 36, 37, 43, 44, 45, 46, 47, 48, 49, 50, 51, 52, 53, 54, 55, 56] rfl (by decide +kernel)
set_option maxRecDepth 20000 in
theorem gX2_readGreen_X3_layOut : GoodIn wsX2_readGreen (wsV RX2 88 RX3 yX3_layOut wsX3_layOut) := goodIn_app (goodIn_of _ (by decide +kernel)) ggX2_readGreen_X3_layOut
set_option maxRecDepth 100000 in
set_option maxHeartbeats 4000000 in
theorem ggX2_readCrop_X2_readNumber : GoodIn wsX2_readCrop wsX2_readNumber := goodIn_r _ [7, 8, 9, 10, 11, 12, 13, 6, 14, 15, 16, 17, 18, 33, 34, 35, 36, 37] rfl (by decide +kernel)
set_option maxRecDepth 20000 in
theorem gX2_readCrop_X2_readNumber : GoodIn wsX2_readCrop (wsV RX2 84 RX2 yX2_readNumber wsX2_readNumber) := goodIn_app (goodIn_of _ (by decide +kernel)) ggX2_readCrop_X2_readNumber
set_option maxRecDepth 100000 in
set_option maxHeartbeats 4000000 in
theorem ggX2_readHouse_X2_readNumber : GoodIn wsX2_readHouse wsX2_readNumber := goodIn_r _ [7, 8, 9, 10, 11, 12, 13, 6, 14, 15, 16, 17, 18, 55, 56, 57, 58, 59] rfl (by decide +kernel)
set_option maxRecDepth 20000 in
theorem gX2_readHouse_X2_readNumber : GoodIn wsX2_readHouse (wsV RX2 84 RX2 yX2_readNumber wsX2_readNumber) := goodIn_app (goodIn_of _ (by decide +kernel)) ggX2_readHouse_X2_readNumber
set_option maxRecDepth 100000 in
set_option maxHeartbeats 4000000 in
theorem ggX2_readHouse_X3_settle : GoodIn wsX2_readHouse wsX3_settle := goodIn_r _ [23, 24, 25, 26, 27, 28, 29, 30, 22, 31, 32, 33, 34, 35, 36, 37, 38, 39, 40, 41, 42, 43, 44, 45, 46, 47, 48, 49, 50, 51, 52, 53, 54] rfl (by decide +kernel)
set_option maxRecDepth 20000 in
theorem gX2_readHouse_X3_settle : GoodIn wsX2_readHouse (wsV RX2 100 RX3 yX3_settle wsX3_settle) := goodIn_app (goodIn_of _ (by decide +kernel)) ggX2_readHouse_X3_settle
set_option maxRecDepth 100000 in
set_option maxHeartbeats 4000000 in
theorem ggX2_readPath_X2_readNumber : GoodIn wsX2_readPath wsX2_readNumber := goodIn_r _ [7, 8, 9, 10, 11, 12, 13, 6, 14, 15, 16, 17, 18, 41, 42, 43, 44, 45] rfl (by decide +kernel)
set_option maxRecDepth 20000 in
theorem gX2_readPath_X2_readNumber : GoodIn wsX2_readPath (wsV RX2 84 RX2 yX2_readNumber wsX2_readNumber) := goodIn_app (goodIn_of _ (by decide +kernel)) ggX2_readPath_X2_readNumber
set_option maxRecDepth 100000 in
set_option maxHeartbeats 4000000 in
theorem ggX2_readPath_X3_addPath : GoodIn wsX2_readPath wsX3_addPath := goodIn_r _ [23, 24, 25, 26, 27, 28, 29, 30, 31, 32, 33, 34, 35, 36, 37, 38, 39, 40] rfl (by decide +kernel)
set_option maxRecDepth 20000 in
theorem gX2_readPath_X3_addPath : GoodIn wsX2_readPath (wsV RX2 107 RX3 yX3_addPath wsX3_addPath) := goodIn_app (goodIn_of _ (by decide +kernel)) ggX2_readPath_X3_addPath
set_option maxRecDepth 100000 in
set_option maxHeartbeats 4000000 in
theorem ggX2_readFeud_X2_readNumber : GoodIn wsX2_readFeud wsX2_readNumber := goodIn_r _ [7, 8, 9, 10, 11, 12, 13, 6, 14, 15, 16, 17, 18, 41, 42, 43, 44, 45] rfl (by decide +kernel)
set_option maxRecDepth 20000 in
theorem gX2_readFeud_X2_readNumber : GoodIn wsX2_readFeud (wsV RX2 84 RX2 yX2_readNumber wsX2_readNumber) := goodIn_app (goodIn_of _ (by decide +kernel)) ggX2_readFeud_X2_readNumber
set_option maxRecDepth 100000 in
set_option maxHeartbeats 4000000 in
theorem ggX2_readFeud_X3_addFeud : GoodIn wsX2_readFeud wsX3_addFeud := goodIn_r _ [23, 24, 25, 26, 27, 28, 29, 30, 31, 32, 33, 34, 35, 36, 37, 38, 39, 40] rfl (by decide +kernel)
set_option maxRecDepth 20000 in
theorem gX2_readFeud_X3_addFeud : GoodIn wsX2_readFeud (wsV RX2 113 RX3 yX3_addFeud wsX3_addFeud) := goodIn_app (goodIn_of _ (by decide +kernel)) ggX2_readFeud_X3_addFeud
set_option maxRecDepth 100000 in
set_option maxHeartbeats 4000000 in
theorem ggX2_readLot_X2_readNumber : GoodIn wsX2_readLot wsX2_readNumber := goodIn_r _ [7, 8, 9, 10, 11, 12, 13, 6, 14, 15, 16, 17, 18, 33, 34, 35, 36, 37] rfl (by decide +kernel)
set_option maxRecDepth 20000 in
theorem gX2_readLot_X2_readNumber : GoodIn wsX2_readLot (wsV RX2 84 RX2 yX2_readNumber wsX2_readNumber) := goodIn_app (goodIn_of _ (by decide +kernel)) ggX2_readLot_X2_readNumber
set_option maxRecDepth 100000 in
set_option maxHeartbeats 4000000 in
theorem ggX2_readPlainLaw_X2_plainLawHere : GoodIn wsX2_readPlainLaw wsX2_plainLawHere := goodIn_r _ [6, 7, 8, 9, 5, 10, 11, 12, 13, 14, 15, 16, 17, 18, 19, 20, 21, 22, 23, 24, 25, 26, 27, 28, 29, 30, 31, 32, 33, 34, 35, 36, 37, 38, 39, 40, 41, 42, 43, 44, 45, 46, 47, 48, 49, 50, 51, 52, 53, 54, 55, 56, 57, 58, 59, 60, 61, 62, 77, 78, 79, 80, 81] rfl (by decide +kernel)
set_option maxRecDepth 20000 in
theorem gX2_readPlainLaw_X2_plainLawHere : GoodIn wsX2_readPlainLaw (wsV RX2 122 RX2 yX2_plainLawHere wsX2_plainLawHere) := goodIn_app (goodIn_of _ (by decide +kernel)) ggX2_readPlainLaw_X2_plainLawHere
set_option maxRecDepth 100000 in
set_option maxHeartbeats 4000000 in
theorem ggX2_kindHere_X2_isWord : GoodIn wsX2_kindHere wsX2_isWord := goodIn_r _ [5, 6, 7, 8, 9, 10, 11, 12, 13, 14, 15, 16, 17, 18, 19, 20, 21, 22, 23, 24, 25, 26, 27, 28, 29, 30, 31, 32, 33, 34, 35, 36, 37, 38, 39, 40, 41, 42, 43, 44, 45, 46, 47, 48, 49, 50, 51, 52, 53, 54, 55, 56, 57, 58, 59, 60, 61, 62] rfl (by decide +kernel)
set_option maxRecDepth 20000 in
theorem gX2_kindHere_X2_isWord : GoodIn wsX2_kindHere (wsV RX2 39 RX2 yX2_isWord wsX2_isWord) := goodIn_app (goodIn_of _ (by decide +kernel)) ggX2_kindHere_X2_isWord
set_option maxRecDepth 100000 in
set_option maxHeartbeats 4000000 in
theorem ggX2_plainLawHere_X2_isWord : GoodIn wsX2_plainLawHere wsX2_isWord := goodIn_r _ [5, 6, 7, 8, 9, 10, 11, 12, 13, 14, 15, 16, 17, 18, 19, 20, 21, 22, 23, 24, 25, 26, 27, 28, 29, 30, 31, 32, 33, 34, 35, 36, 37, 38, 39, 40, 41, 42, 43, 44, 45, 46, 47, 48, 49, 50, 51, 52, 53, 54, 55, 56, 57, 58, 59, 60, 61, 62] rfl (by decide +kernel)
set_option maxRecDepth 20000 in
theorem gX2_plainLawHere_X2_isWord : GoodIn wsX2_plainLawHere (wsV RX2 39 RX2 yX2_isWord wsX2_isWord) := goodIn_app (goodIn_of _ (by decide +kernel)) ggX2_plainLawHere_X2_isWord
set_option maxRecDepth 100000 in
set_option maxHeartbeats 4000000 in
theorem ggX2_stepToToken_X2_sortOf : GoodIn wsX2_stepToToken wsX2_sortOf := goodIn_r _ [8] rfl (by decide +kernel)
set_option maxRecDepth 20000 in
theorem gX2_stepToToken_X2_sortOf : GoodIn wsX2_stepToToken (va_wsS RX2 139 yX2_sortOf wsX2_sortOf) := goodIn_app (goodIn_of _ (by decide +kernel)) ggX2_stepToToken_X2_sortOf
set_option maxRecDepth 100000 in
set_option maxHeartbeats 4000000 in
theorem ggX2_isWord_J0_length_8abf5 : GoodIn wsX2_isWord wsJ0_length_8abf5 := goodIn_r _ [8, 9, 10, 11, 12, 7, 13, 14, 15] rfl (by decide +kernel)
set_option maxRecDepth 20000 in
theorem gX2_isWord_J0_length_8abf5 : GoodIn wsX2_isWord (wsV RX2 143 RJ0 yJ0_length_8abf5 wsJ0_length_8abf5) := goodIn_app (goodIn_of _ (by decide +kernel)) ggX2_isWord_J0_length_8abf5
set_option maxRecDepth 100000 in
set_option maxHeartbeats 4000000 in
theorem ggX2_isWord_J0_charAt_5068e : GoodIn wsX2_isWord wsJ0_charAt_5068e := goodIn_r _ [19, 9, 20, 21, 22, 7, 23, 14, 15, 24, 25, 26, 27, 28, 29, 30, 31, 32, 33, 34, 35, 36, 37, 38, 39, 40, 41, 42, 43, 44, 45, 46, 47, 48, 49, 50, 51, 52] rfl (by decide +kernel)
set_option maxRecDepth 20000 in
theorem gX2_isWord_J0_charAt_5068e : GoodIn wsX2_isWord (wsV RX2 147 RJ0 yJ0_charAt_5068e wsJ0_charAt_5068e) := goodIn_app (goodIn_of _ (by decide +kernel)) ggX2_isWord_J0_charAt_5068e
set_option maxRecDepth 100000 in
set_option maxHeartbeats 4000000 in
theorem ggX2_readNumber_X2_stepToToken : GoodIn wsX2_readNumber wsX2_stepToToken := goodIn_r _ [8, 1, 9, 3, 2, 10, 11, 7, 12, 13, 14, 15, 16, 17] rfl (by decide +kernel)
set_option maxRecDepth 20000 in
theorem gX2_readNumber_X2_stepToToken : GoodIn wsX2_readNumber (wsV RX2 27 RX2 yX2_stepToToken wsX2_stepToToken) := goodIn_app (goodIn_of _ (by decide +kernel)) ggX2_readNumber_X2_stepToToken
set_option maxRecDepth 100000 in
set_option maxHeartbeats 4000000 in
theorem ggX2_readNumber_X2_sortOf : GoodIn wsX2_readNumber wsX2_sortOf := goodIn_r _ [12] rfl (by decide +kernel)
set_option maxRecDepth 20000 in
theorem gX2_readNumber_X2_sortOf : GoodIn wsX2_readNumber (va_wsS RX2 139 yX2_sortOf wsX2_sortOf) := goodIn_app (goodIn_of _ (by decide +kernel)) ggX2_readNumber_X2_sortOf
