set_option maxRecDepth 20000 in
theorem ggL_law_X8_init : GoodIn wsL_law wsX8_init := goodIn_r _ [9, 10, 11, 12, 13, 14, 15, 16, 17, 18, 19, 20, 21, 22, 23, 24, 25, 26, 27, 28, 29, 30, 31, 32, 33, 34, 35, 36, 37, 38, 39, 40, 41, 42, 43, 44, 45, 46, 47, 48, 49, 50, 51, 52, 53, 54, 55, 56, 57, 58, 59, 60, 61, 62, 63, 64, 65, 66, 67, 68, 69, 70, 71, 72, 73, 74, 75, 76, 77, 78, 79, 80, 81, 82, 83, 84, 85, 86, 87, 88, 89, 90, 91, 92, 93, 94, 95, 1431, 1432, 1433, 1434, 1435, 1436, 1437, 1438, 1361, 1362, 1363, 1364, 1365, 1366, 1367, 1368, 1369, 1370, 1439, 1440, 1441, 1442, 1443, 1444, 1445, 1446, 1447, 1448, 1449, 1450, 1451, 1452, 1453, 1454, 1455, 1456, 1457, 1458, 1459, 1460, 1461, 1462, 1463, 1464, 1465, 1466, 1467, 1468, 1469, 1470, 1471, 1472, 1473, 1474, 1475, 1476, 1477, 1478, 1479] (by decide +kernel) (by decide +kernel)
set_option maxRecDepth 20000 in
theorem gL_law_X8_init : GoodIn wsL_law (wsX8_init) := ggL_law_X8_init
set_option maxRecDepth 20000 in
theorem ggL_law_X9_init : GoodIn wsL_law wsX9_init := goodIn_r _ [98, 99, 11, 12, 55, 100, 101, 87, 102, 103, 48, 104, 105, 106, 107, 108, 109, 110, 111, 112, 113, 114, 115, 116, 117, 118, 119, 120, 121, 122, 123, 124, 125, 126, 127, 128, 129, 130, 131, 132, 133, 134, 135, 136, 137, 1371, 1372, 1373, 1374, 1375, 1376, 1377, 1378, 1379, 1380, 1381, 1382, 1383, 1384, 1385, 1386, 1387, 1388, 1389, 1390, 1391, 1392, 1393, 1394, 1395, 1396, 1397, 1398, 1399, 1400, 1401, 1402, 1403, 1404, 1405, 1406, 1407, 1408, 1409, 1410, 1411, 1412, 1413, 1414, 1415, 1416, 1417, 1418, 1419, 1420, 1421, 1422, 1423, 1424, 1425, 1426, 1427, 1428, 1429, 1430] (by decide +kernel) (by decide +kernel)
set_option maxRecDepth 20000 in
theorem gL_law_X9_init : GoodIn wsL_law (wsX9_init) := ggL_law_X9_init
set_option maxRecDepth 20000 in
theorem ggL_law_X8_feed : GoodIn wsL_law wsX8_feed := goodIn_r _ [141, 16, 142, 143, 144, 145, 15, 146, 147, 49, 1361, 1362, 1363, 1364, 1365, 1366, 1367, 1368, 1369, 1370, 1431, 1432, 1433, 1434, 1435, 1436, 1437, 1438] (by decide +kernel) (by decide +kernel)
set_option maxRecDepth 20000 in
theorem gL_law_X8_feed : GoodIn wsL_law (wsV RL 13 RX8 yX8_feed wsX8_feed) := goodIn_app (goodIn_of _ (by decide +kernel)) ggL_law_X8_feed
set_option maxRecDepth 20000 in
theorem ggL_law_X9_feed : GoodIn wsL_law wsX9_feed := goodIn_r _ [151, 152, 153, 154, 155, 156, 5, 157, 104, 1371, 1372, 1373, 1374, 1375, 1376, 1377, 1378, 1379, 1380, 1381, 1382, 1383, 1384, 1385, 1386, 1387, 1388, 1389, 1390, 1391, 1392, 1393, 1394, 1395, 1396, 1397, 1398, 1399, 1400, 1401, 1402, 1403, 1404, 1405, 1406, 1407, 1408, 1409, 1410, 1411, 1412, 1413, 1414, 1415, 1416, 1417, 1418, 1419, 1420, 1421, 1422, 1423, 1424, 1425, 1426, 1427, 1428, 1429, 1430] (by decide +kernel) (by decide +kernel)
set_option maxRecDepth 20000 in
theorem gL_law_X9_feed : GoodIn wsL_law (wsV RL 17 RX9 yX9_feed wsX9_feed) := goodIn_app (goodIn_of _ (by decide +kernel)) ggL_law_X9_feed
set_option maxRecDepth 20000 in
theorem ggL_law_X8_end : GoodIn wsL_law wsX8_end := goodIn_r _ [161, 16, 142, 1361, 1362, 1363, 1364, 1365, 1366, 1367, 1368, 1369, 1370, 1431, 1432, 1433, 1434, 1435, 1436, 1437, 1438] (by decide +kernel) (by decide +kernel)
set_option maxRecDepth 20000 in
theorem gL_law_X8_end : GoodIn wsL_law (wsV RL 18 RX8 yX8_end wsX8_end) := goodIn_app (goodIn_of _ (by decide +kernel)) ggL_law_X8_end
set_option maxRecDepth 20000 in
theorem ggL_law_X9_end : GoodIn wsL_law wsX9_end := goodIn_r _ [165, 152, 153, 166, 167, 5, 168, 1371, 1372, 1373, 1374, 1375, 1376, 1377, 1378, 1379, 1380, 1381, 1382, 1383, 1384, 1385, 1386, 1387, 1388, 1389, 1390, 1391, 1392, 1393, 1394, 1395, 1396, 1397, 1398, 1399, 1400, 1401, 1402, 1403, 1404, 1405, 1406, 1407, 1408, 1409, 1410, 1411, 1412, 1413, 1414, 1415, 1416, 1417, 1418, 1419, 1420, 1421, 1422, 1423, 1424, 1425, 1426, 1427, 1428, 1429, 1430] (by decide +kernel) (by decide +kernel)
set_option maxRecDepth 20000 in
theorem gL_law_X9_end : GoodIn wsL_law (wsV RL 22 RX9 yX9_end wsX9_end) := goodIn_app (goodIn_of _ (by decide +kernel)) ggL_law_X9_end
set_option maxRecDepth 20000 in
theorem ggL_law_X8_land : GoodIn wsL_law wsX8_land := goodIn_r _ [172, 16, 21, 173, 142, 20, 174, 175, 176, 177, 15, 178, 179, 50, 180, 181, 182, 183, 184, 185, 19, 186, 187, 188, 189, 190, 191, 192, 193, 62, 65, 66, 67, 68, 194, 195, 196, 197, 147, 49, 198, 199, 200, 201, 202, 203, 204, 205, 206, 207, 208, 209, 210, 211, 212, 213, 214, 215, 216, 217, 218, 219, 220, 221, 222, 223, 224, 225, 226, 227, 228, 229, 230, 231, 232, 233, 234, 235, 236, 237, 238, 239, 240, 241, 242, 243, 244, 245, 246, 247, 248, 249, 250, 251, 252, 253, 254, 255, 256, 257, 258, 259, 260, 261, 262, 263, 264, 265, 266, 267, 268, 269, 270, 271, 272, 273, 274, 275, 276, 277, 278, 279, 280, 281, 282, 283, 284, 285, 286, 287, 288, 289, 290, 291, 292, 56, 57, 293, 294, 295, 296, 297, 298, 299, 300, 301, 58, 59, 60, 61, 302, 303, 304, 305, 306, 307, 308, 309, 310, 311, 2, 312, 313, 314, 315, 316, 317, 318, 319, 320, 321, 322, 323, 324, 325, 326, 327, 328, 329, 330, 331, 332, 63, 64, 333, 334, 335, 336, 337, 338, 339, 340, 341, 342, 343, 344, 345, 346, 1361, 1362, 1363, 1364, 1365, 1366, 1367, 1368, 1369, 1370, 1431, 1432, 1433, 1434, 1435, 1436, 1437, 1438, 1439, 1440, 1441, 1442, 1443, 1444, 1445, 1446, 1447, 1448, 1449, 1450, 1451, 1452, 1453, 1454] (by decide +kernel) (by decide +kernel)
set_option maxRecDepth 20000 in
theorem gL_law_X8_land : GoodIn wsL_law (wsV RL 23 RX8 yX8_land wsX8_land) := goodIn_app (goodIn_of _ (by decide +kernel)) ggL_law_X8_land
set_option maxRecDepth 20000 in
theorem ggL_law_X9_land : GoodIn wsL_law wsX9_land := goodIn_r _ [350, 152, 106, 107, 110, 121, 122, 120, 118, 119, 116, 117, 351, 352, 353, 354, 355, 5, 356, 357, 358, 359, 360, 361, 362, 363, 364, 365, 153, 366, 367, 104, 368, 369, 370, 371, 372, 373, 374, 375, 376, 377, 378, 379, 380, 381, 382, 383, 384, 385, 386, 387, 388, 389, 390, 391, 392, 393, 394, 395, 396, 397, 398, 399, 108, 400, 109, 401, 402, 403, 404, 405, 406, 407, 408, 409, 410, 411, 412, 413, 414, 415, 416, 417, 166, 167, 168, 418, 419, 420, 421, 111, 422, 112, 423, 113, 424, 114, 425, 426, 427, 428, 429, 430, 431, 432, 433, 434, 435, 436, 437, 438, 439, 440, 441, 442, 443, 444, 445, 446, 447, 448, 449, 450, 451, 452, 453, 454, 455, 123, 456, 457, 458, 459, 460, 461, 462, 463, 464, 105, 465, 466, 467, 468, 1371, 1372, 1373, 1374, 1375, 1376, 1377, 1378, 1379, 1380, 1381, 1382, 1383, 1384, 1385, 1386, 1387, 1388, 1389, 1390, 1391, 1392, 1393, 1394, 1395, 1396, 1397, 1398, 1399, 1400, 1401, 1402, 1403, 1404, 1405, 1406, 1407, 1408, 1409, 1410, 1411, 1412, 1413, 1414, 1415, 1416, 1417, 1418, 1419, 1420, 1421, 1422, 1423, 1424, 1425, 1426, 1427, 1428, 1429, 1430] (by decide +kernel) (by decide +kernel)
set_option maxRecDepth 20000 in
theorem gL_law_X9_land : GoodIn wsL_law (wsV RL 27 RX9 yX9_land wsX9_land) := goodIn_app (goodIn_of _ (by decide +kernel)) ggL_law_X9_land
set_option maxRecDepth 20000 in
theorem ggL_law_X8_fault : GoodIn wsL_law wsX8_fault := goodIn_r _ [472, 16, 173, 473, 1361, 1362, 1363, 1364, 1365, 1366, 1367, 1368, 1369, 1370, 1431, 1432, 1433, 1434, 1435, 1436, 1437, 1438] (by decide +kernel) (by decide +kernel)
set_option maxRecDepth 20000 in
theorem gL_law_X8_fault : GoodIn wsL_law (wsV RL 28 RX8 yX8_fault wsX8_fault) := goodIn_app (goodIn_of _ (by decide +kernel)) ggL_law_X8_fault
set_option maxRecDepth 20000 in
theorem ggL_law_X9_fault : GoodIn wsL_law wsX9_fault := goodIn_r _ [477, 152, 464, 105, 1371, 1372, 1373, 1374, 1375, 1376, 1377, 1378, 1379, 1380, 1381, 1382, 1383, 1384, 1385, 1386, 1387, 1388, 1389, 1390, 1391, 1392, 1393, 1394, 1395, 1396, 1397, 1398, 1399, 1400, 1401, 1402, 1403, 1404, 1405, 1406, 1407, 1408, 1409, 1410, 1411, 1412, 1413, 1414, 1415, 1416, 1417, 1418, 1419, 1420, 1421, 1422, 1423, 1424, 1425, 1426, 1427, 1428, 1429, 1430] (by decide +kernel) (by decide +kernel)
set_option maxRecDepth 20000 in
theorem gL_law_X9_fault : GoodIn wsL_law (wsV RL 31 RX9 yX9_fault wsX9_fault) := goodIn_app (goodIn_of _ (by decide +kernel)) ggL_law_X9_fault
set_option maxRecDepth 20000 in
theorem ggL_law_X8_forced : GoodIn wsL_law wsX8_forced := goodIn_r _ [481, 20, 482, 483, 484, 19, 485, 188, 486, 311, 2, 312, 313, 314, 315, 487, 488, 489, 490, 57, 491, 492, 493, 494, 56, 1361, 1362, 1363, 1364, 1365, 1366, 1367, 1368, 1369, 1370, 1439, 1440, 1441, 1442, 1443, 1444, 1445, 1446, 1447, 1448, 1449, 1450, 1451, 1452, 1453, 1454] (by decide +kernel) (by decide +kernel)
set_option maxRecDepth 20000 in
theorem gL_law_X8_forced : GoodIn wsL_law (wsV RL 32 RX8 yX8_forced wsX8_forced) := goodIn_app (goodIn_of _ (by decide +kernel)) ggL_law_X8_forced
set_option maxRecDepth 20000 in
theorem ggL_law_X9_forced : GoodIn wsL_law wsX9_forced := goodIn_r _ [498, 152, 499, 500, 501, 5, 502, 107, 166, 167, 168, 503, 504, 505, 430, 506, 507, 508, 509, 109, 510, 511, 512, 513, 108, 1371, 1372, 1373, 1374, 1375, 1376, 1377, 1378, 1379, 1380, 1381, 1382, 1383, 1384, 1385, 1386, 1387, 1388, 1389, 1390, 1391, 1392, 1393, 1394, 1395, 1396, 1397, 1398, 1399, 1400, 1401, 1402, 1403, 1404, 1405, 1406, 1407, 1408, 1409, 1410, 1411, 1412, 1413, 1414, 1415, 1416, 1417, 1418, 1419, 1420, 1421, 1422, 1423, 1424, 1425, 1426, 1427, 1428, 1429, 1430] (by decide +kernel) (by decide +kernel)
set_option maxRecDepth 20000 in
theorem gL_law_X9_forced : GoodIn wsL_law (wsV RL 36 RX9 yX9_forced wsX9_forced) := goodIn_app (goodIn_of _ (by decide +kernel)) ggL_law_X9_forced
set_option maxRecDepth 20000 in
theorem ggL_law_X8_old : GoodIn wsL_law wsX8_old := goodIn_r _ [517, 20, 482, 483, 484, 19, 485, 188, 486, 311, 2, 312, 313, 314, 315, 518, 492, 493, 494, 56, 1361, 1362, 1363, 1364, 1365, 1366, 1367, 1368, 1369, 1370, 1439, 1440, 1441, 1442, 1443, 1444, 1445, 1446, 1447, 1448, 1449, 1450, 1451, 1452, 1453, 1454] (by decide +kernel) (by decide +kernel)
set_option maxRecDepth 20000 in
theorem gL_law_X8_old : GoodIn wsL_law (wsV RL 37 RX8 yX8_old wsX8_old) := goodIn_app (goodIn_of _ (by decide +kernel)) ggL_law_X8_old
set_option maxRecDepth 20000 in
theorem ggL_law_X9_old : GoodIn wsL_law wsX9_old := goodIn_r _ [522, 152, 499, 500, 501, 5, 502, 107, 166, 167, 168, 503, 504, 505, 430, 510, 511, 512, 513, 108, 1371, 1372, 1373, 1374, 1375, 1376, 1377, 1378, 1379, 1380, 1381, 1382, 1383, 1384, 1385, 1386, 1387, 1388, 1389, 1390, 1391, 1392, 1393, 1394, 1395, 1396, 1397, 1398, 1399, 1400, 1401, 1402, 1403, 1404, 1405, 1406, 1407, 1408, 1409, 1410, 1411, 1412, 1413, 1414, 1415, 1416, 1417, 1418, 1419, 1420, 1421, 1422, 1423, 1424, 1425, 1426, 1427, 1428, 1429, 1430] (by decide +kernel) (by decide +kernel)
set_option maxRecDepth 20000 in
theorem gL_law_X9_old : GoodIn wsL_law (wsV RL 40 RX9 yX9_old wsX9_old) := goodIn_app (goodIn_of _ (by decide +kernel)) ggL_law_X9_old
set_option maxRecDepth 20000 in
theorem ggL_law_X8_wage : GoodIn wsL_law wsX8_wage := goodIn_r _ [526, 20, 313, 314, 2, 315, 486, 311, 312, 482, 483, 484, 19, 485, 188, 527, 528, 529, 530, 191, 64, 63, 531, 532, 533, 534, 491, 492, 493, 494, 56, 535, 488, 489, 490, 57, 536, 537, 538, 539, 540, 541, 542, 543, 544, 545, 203, 546, 547, 548, 549, 1361, 1362, 1363, 1364, 1365, 1366, 1367, 1368, 1369, 1370, 1439, 1440, 1441, 1442, 1443, 1444, 1445, 1446, 1447, 1448, 1449, 1450, 1451, 1452, 1453, 1454] (by decide +kernel) (by decide +kernel)
set_option maxRecDepth 20000 in
theorem gL_law_X8_wage : GoodIn wsL_law (wsV RL 41 RX8 yX8_wage wsX8_wage) := goodIn_app (goodIn_of _ (by decide +kernel)) ggL_law_X8_wage
set_option maxRecDepth 20000 in
theorem ggL_law_X9_wage : GoodIn wsL_law wsX9_wage := goodIn_r _ [553, 152, 554, 555, 166, 167, 5, 168, 503, 504, 505, 430, 499, 500, 501, 502, 107, 556, 557, 558, 559, 118, 122, 123, 125, 560, 561, 510, 511, 512, 513, 108, 506, 507, 508, 509, 109, 562, 563, 564, 565, 1371, 1372, 1373, 1374, 1375, 1376, 1377, 1378, 1379, 1380, 1381, 1382, 1383, 1384, 1385, 1386, 1387, 1388, 1389, 1390, 1391, 1392, 1393, 1394, 1395, 1396, 1397, 1398, 1399, 1400, 1401, 1402, 1403, 1404, 1405, 1406, 1407, 1408, 1409, 1410, 1411, 1412, 1413, 1414, 1415, 1416, 1417, 1418, 1419, 1420, 1421, 1422, 1423, 1424, 1425, 1426, 1427, 1428, 1429, 1430] (by decide +kernel) (by decide +kernel)
set_option maxRecDepth 20000 in
theorem gL_law_X9_wage : GoodIn wsL_law (wsV RL 45 RX9 yX9_wage wsX9_wage) := goodIn_app (goodIn_of _ (by decide +kernel)) ggL_law_X9_wage
set_option maxRecDepth 20000 in
theorem ggL_law_X8_draw : GoodIn wsL_law wsX8_draw := goodIn_r _ [569, 20, 25, 570, 571, 2, 572, 573, 313, 314, 315, 574, 575, 576, 19, 577, 188, 189, 578, 579, 580, 581, 30, 582, 583, 584, 585, 29, 586, 587, 588, 589, 590, 591, 592, 593, 594, 595, 596, 597, 598, 599, 203, 600, 601, 202, 204, 602, 603, 604, 605, 606, 607, 608, 609, 610, 611, 612, 613, 58, 614, 615, 616, 617, 62, 618, 308, 309, 310, 311, 312, 487, 488, 489, 490, 57, 491, 492, 493, 494, 56, 527, 528, 529, 530, 191, 64, 63, 531, 532, 533, 534, 535, 536, 537, 538, 539, 540, 541, 542, 543, 544, 545, 546, 547, 548, 549, 619, 620, 621, 622, 24, 623, 624, 72, 73, 74, 75, 76, 77, 1361, 1362, 1363, 1364, 1365, 1366, 1367, 1368, 1369, 1370, 1439, 1440, 1441, 1442, 1443, 1444, 1445, 1446, 1447, 1448, 1449, 1450, 1451, 1452, 1453, 1454, 1455, 1456, 1457, 1458, 1459, 1460, 1461, 1462] (by decide +kernel) (by decide +kernel)
set_option maxRecDepth 20000 in
theorem gL_law_X8_draw : GoodIn wsL_law (wsV RL 46 RX8 yX8_draw wsX8_draw) := goodIn_app (goodIn_of _ (by decide +kernel)) ggL_law_X8_draw
set_option maxRecDepth 20000 in
theorem ggL_law_X9_draw : GoodIn wsL_law wsX9_draw := goodIn_r _ [628, 152, 629, 107, 110, 630, 631, 5, 632, 633, 166, 167, 168, 634, 635, 636, 637, 638, 111, 127, 128, 132, 113, 114, 131, 112, 117, 129, 130, 120, 126, 639, 640, 641, 642, 643, 644, 645, 646, 647, 648, 649, 650, 506, 507, 508, 509, 109, 510, 511, 512, 513, 108, 556, 557, 558, 559, 118, 122, 123, 125, 560, 561, 562, 563, 564, 565, 1371, 1372, 1373, 1374, 1375, 1376, 1377, 1378, 1379, 1380, 1381, 1382, 1383, 1384, 1385, 1386, 1387, 1388, 1389, 1390, 1391, 1392, 1393, 1394, 1395, 1396, 1397, 1398, 1399, 1400, 1401, 1402, 1403, 1404, 1405, 1406, 1407, 1408, 1409, 1410, 1411, 1412, 1413, 1414, 1415, 1416, 1417, 1418, 1419, 1420, 1421, 1422, 1423, 1424, 1425, 1426, 1427, 1428, 1429, 1430] (by decide +kernel) (by decide +kernel)
set_option maxRecDepth 20000 in
theorem gL_law_X9_draw : GoodIn wsL_law (wsV RL 49 RX9 yX9_draw wsX9_draw) := goodIn_app (goodIn_of _ (by decide +kernel)) ggL_law_X9_draw
set_option maxRecDepth 20000 in
theorem ggL_law_X8_sheet : GoodIn wsL_law wsX8_sheet := goodIn_r _ [654, 655, 656, 657, 2, 658, 20, 592, 659, 660, 543, 25, 582, 620, 621, 622, 24, 623, 624, 72, 73, 74, 75, 76, 77, 1361, 1362, 1363, 1364, 1365, 1366, 1367, 1368, 1369, 1370, 1439, 1440, 1441, 1442, 1443, 1444, 1445, 1446, 1447, 1448, 1449, 1450, 1451, 1452, 1453, 1454, 1455, 1456, 1457, 1458, 1459, 1460, 1461] (by decide +kernel) (by decide +kernel)
set_option maxRecDepth 20000 in
theorem gL_law_X8_sheet : GoodIn wsL_law (wsV RL 50 RX8 yX8_sheet wsX8_sheet) := goodIn_app (goodIn_of _ (by decide +kernel)) ggL_law_X8_sheet
set_option maxRecDepth 20000 in
theorem ggL_law_X9_sheet : GoodIn wsL_law wsX9_sheet := goodIn_r _ [664, 152, 665, 666, 667, 5, 668, 107, 430, 554, 565, 126, 127, 128, 129, 130, 131, 132, 166, 167, 168, 1371, 1372, 1373, 1374, 1375, 1376, 1377, 1378, 1379, 1380, 1381, 1382, 1383, 1384, 1385, 1386, 1387, 1388, 1389, 1390, 1391, 1392, 1393, 1394, 1395, 1396, 1397, 1398, 1399, 1400, 1401, 1402, 1403, 1404, 1405, 1406, 1407, 1408, 1409, 1410, 1411, 1412, 1413, 1414, 1415, 1416, 1417, 1418, 1419, 1420, 1421, 1422, 1423, 1424, 1425, 1426, 1427, 1428, 1429, 1430] (by decide +kernel) (by decide +kernel)
set_option maxRecDepth 20000 in
theorem gL_law_X9_sheet : GoodIn wsL_law (wsV RL 53 RX9 yX9_sheet wsX9_sheet) := goodIn_app (goodIn_of _ (by decide +kernel)) ggL_law_X9_sheet
set_option maxRecDepth 20000 in
theorem ggL_law_X8_told : GoodIn wsL_law wsX8_told := goodIn_r _ [672, 25, 673, 674, 675, 676, 677, 678, 679, 680, 681, 24, 682, 624, 1361, 1362, 1363, 1364, 1365, 1366, 1367, 1368, 1369, 1370, 1455, 1456, 1457, 1458, 1459, 1460, 1461] (by decide +kernel) (by decide +kernel)
set_option maxRecDepth 20000 in
theorem gL_law_X8_told : GoodIn wsL_law (wsV RL 54 RX8 yX8_told wsX8_told) := goodIn_app (goodIn_of _ (by decide +kernel)) ggL_law_X8_told
set_option maxRecDepth 20000 in
theorem ggL_law_X9_told : GoodIn wsL_law wsX9_told := goodIn_r _ [686, 152, 127, 128, 129, 130, 131, 132, 687, 688, 689, 5, 690, 126, 166, 167, 168, 1371, 1372, 1373, 1374, 1375, 1376, 1377, 1378, 1379, 1380, 1381, 1382, 1383, 1384, 1385, 1386, 1387, 1388, 1389, 1390, 1391, 1392, 1393, 1394, 1395, 1396, 1397, 1398, 1399, 1400, 1401, 1402, 1403, 1404, 1405, 1406, 1407, 1408, 1409, 1410, 1411, 1412, 1413, 1414, 1415, 1416, 1417, 1418, 1419, 1420, 1421, 1422, 1423, 1424, 1425, 1426, 1427, 1428, 1429, 1430] (by decide +kernel) (by decide +kernel)
set_option maxRecDepth 20000 in
theorem gL_law_X9_told : GoodIn wsL_law (wsV RL 57 RX9 yX9_told wsX9_told) := goodIn_app (goodIn_of _ (by decide +kernel)) ggL_law_X9_told
set_option maxRecDepth 20000 in
theorem ggL_law_X8_would : GoodIn wsL_law wsX8_would := goodIn_r _ [694, 25, 20, 673, 678, 598, 599, 203, 600, 695, 696, 697, 2, 698, 679, 680, 681, 24, 682, 624, 482, 483, 484, 19, 485, 188, 486, 311, 312, 313, 314, 315, 487, 488, 489, 490, 57, 491, 492, 493, 494, 56, 1361, 1362, 1363, 1364, 1365, 1366, 1367, 1368, 1369, 1370, 1455, 1456, 1457, 1458, 1459, 1460, 1461, 1439, 1440, 1441, 1442, 1443, 1444, 1445, 1446, 1447, 1448, 1449, 1450, 1451, 1452, 1453, 1454] (by decide +kernel) (by decide +kernel)
set_option maxRecDepth 20000 in
theorem gL_law_X8_would : GoodIn wsL_law (wsV RL 58 RX8 yX8_would wsX8_would) := goodIn_app (goodIn_of _ (by decide +kernel)) ggL_law_X8_would
set_option maxRecDepth 20000 in
theorem ggL_law_X9_would : GoodIn wsL_law wsX9_would := goodIn_r _ [702, 152, 127, 132, 703, 704, 705, 5, 706, 687, 688, 689, 690, 126, 166, 167, 168, 499, 500, 501, 502, 107, 503, 504, 505, 430, 506, 507, 508, 509, 109, 510, 511, 512, 513, 108, 1371, 1372, 1373, 1374, 1375, 1376, 1377, 1378, 1379, 1380, 1381, 1382, 1383, 1384, 1385, 1386, 1387, 1388, 1389, 1390, 1391, 1392, 1393, 1394, 1395, 1396, 1397, 1398, 1399, 1400, 1401, 1402, 1403, 1404, 1405, 1406, 1407, 1408, 1409, 1410, 1411, 1412, 1413, 1414, 1415, 1416, 1417, 1418, 1419, 1420, 1421, 1422, 1423, 1424, 1425, 1426, 1427, 1428, 1429, 1430] (by decide +kernel) (by decide +kernel)
set_option maxRecDepth 20000 in
theorem gL_law_X9_would : GoodIn wsL_law (wsV RL 61 RX9 yX9_would wsX9_would) := goodIn_app (goodIn_of _ (by decide +kernel)) ggL_law_X9_would
set_option maxRecDepth 20000 in
theorem ggL_law_X8_worth : GoodIn wsL_law wsX8_worth := goodIn_r _ [710, 25, 711, 695, 696, 697, 2, 698, 20, 673, 679, 680, 681, 24, 682, 624, 482, 483, 484, 19, 485, 188, 712, 713, 714, 715, 677, 674, 675, 601, 202, 203, 204, 527, 528, 529, 530, 191, 64, 63, 531, 532, 533, 534, 491, 492, 493, 494, 56, 535, 488, 489, 490, 57, 536, 537, 538, 539, 540, 541, 542, 543, 544, 545, 546, 547, 548, 549, 1361, 1362, 1363, 1364, 1365, 1366, 1367, 1368, 1369, 1370, 1455, 1456, 1457, 1458, 1459, 1460, 1461, 1439, 1440, 1441, 1442, 1443, 1444, 1445, 1446, 1447, 1448, 1449, 1450, 1451, 1452, 1453, 1454] (by decide +kernel) (by decide +kernel)
set_option maxRecDepth 20000 in
theorem gL_law_X8_worth : GoodIn wsL_law (wsV RL 62 RX8 yX8_worth wsX8_worth) := goodIn_app (goodIn_of _ (by decide +kernel)) ggL_law_X8_worth
set_option maxRecDepth 20000 in
theorem ggL_law_X9_worth : GoodIn wsL_law wsX9_worth := goodIn_r _ [719, 152, 720, 703, 704, 705, 5, 706, 127, 687, 688, 689, 690, 126, 166, 167, 168, 499, 500, 501, 502, 107, 721, 722, 723, 724, 129, 131, 128, 556, 557, 558, 559, 118, 122, 123, 125, 560, 561, 510, 511, 512, 513, 108, 506, 507, 508, 509, 109, 562, 563, 564, 565, 1371, 1372, 1373, 1374, 1375, 1376, 1377, 1378, 1379, 1380, 1381, 1382, 1383, 1384, 1385, 1386, 1387, 1388, 1389, 1390, 1391, 1392, 1393, 1394, 1395, 1396, 1397, 1398, 1399, 1400, 1401, 1402, 1403, 1404, 1405, 1406, 1407, 1408, 1409, 1410, 1411, 1412, 1413, 1414, 1415, 1416, 1417, 1418, 1419, 1420, 1421, 1422, 1423, 1424, 1425, 1426, 1427, 1428, 1429, 1430] (by decide +kernel) (by decide +kernel)
set_option maxRecDepth 20000 in
theorem gL_law_X9_worth : GoodIn wsL_law (wsV RL 65 RX9 yX9_worth wsX9_worth) := goodIn_app (goodIn_of _ (by decide +kernel)) ggL_law_X9_worth
set_option maxRecDepth 20000 in
theorem ggL_law_X8_month : GoodIn wsL_law wsX8_month := goodIn_r _ [728, 25, 582, 674, 313, 314, 2, 315, 729, 730, 731, 732, 675, 676, 733, 734, 735, 736, 20, 673, 678, 695, 696, 697, 698, 679, 680, 681, 24, 682, 624, 482, 483, 484, 19, 485, 188, 487, 488, 489, 490, 57, 491, 492, 493, 494, 56, 1361, 1362, 1363, 1364, 1365, 1366, 1367, 1368, 1369, 1370, 1455, 1456, 1457, 1458, 1459, 1460, 1461, 1439, 1440, 1441, 1442, 1443, 1444, 1445, 1446, 1447, 1448, 1449, 1450, 1451, 1452, 1453, 1454] (by decide +kernel) (by decide +kernel)
set_option maxRecDepth 20000 in
theorem gL_law_X8_month : GoodIn wsL_law (wsV RL 66 RX8 yX8_month wsX8_month) := goodIn_app (goodIn_of _ (by decide +kernel)) ggL_law_X8_month
set_option maxRecDepth 20000 in
theorem ggL_law_X9_month : GoodIn wsL_law wsX9_month := goodIn_r _ [740, 152, 430, 741, 126, 128, 129, 130, 166, 167, 5, 168, 742, 743, 744, 745, 127, 132, 703, 704, 705, 706, 687, 688, 689, 690, 499, 500, 501, 502, 107, 506, 507, 508, 509, 109, 510, 511, 512, 513, 108, 1371, 1372, 1373, 1374, 1375, 1376, 1377, 1378, 1379, 1380, 1381, 1382, 1383, 1384, 1385, 1386, 1387, 1388, 1389, 1390, 1391, 1392, 1393, 1394, 1395, 1396, 1397, 1398, 1399, 1400, 1401, 1402, 1403, 1404, 1405, 1406, 1407, 1408, 1409, 1410, 1411, 1412, 1413, 1414, 1415, 1416, 1417, 1418, 1419, 1420, 1421, 1422, 1423, 1424, 1425, 1426, 1427, 1428, 1429, 1430] (by decide +kernel) (by decide +kernel)
set_option maxRecDepth 20000 in
theorem gL_law_X9_month : GoodIn wsL_law (wsV RL 69 RX9 yX9_month wsX9_month) := goodIn_app (goodIn_of _ (by decide +kernel)) ggL_law_X9_month
set_option maxRecDepth 20000 in
theorem ggL_law_X8_plain : GoodIn wsL_law wsX8_plain := goodIn_r _ [749, 750, 751, 752, 2, 753, 34, 25, 582, 754, 755, 756, 757, 758, 759, 760, 761, 33, 762, 763, 764, 765, 766, 767, 768, 769, 770, 771, 772, 773, 774, 775, 776, 777, 778, 779, 780, 781, 782, 783, 784, 785, 786, 787, 788, 789, 1361, 1362, 1363, 1364, 1365, 1366, 1367, 1368, 1369, 1370, 1455, 1456, 1457, 1458, 1459, 1460, 1461, 1463, 1464, 1465, 1466, 1467, 1468, 1469, 1470, 1471, 1472, 1473] (by decide +kernel) (by decide +kernel)
set_option maxRecDepth 20000 in
theorem gL_law_X8_plain : GoodIn wsL_law (wsV RL 70 RX8 yX8_plain wsX8_plain) := goodIn_app (goodIn_of _ (by decide +kernel)) ggL_law_X8_plain
set_option maxRecDepth 20000 in
theorem ggL_law_X9_plain : GoodIn wsL_law wsX9_plain := goodIn_r _ [793, 152, 794, 795, 796, 5, 797, 798, 799, 800, 801, 802, 803, 804, 805, 806, 126, 133, 128, 807, 808, 809, 810, 811, 812, 813, 814, 129, 130, 815, 816, 817, 818, 819, 820, 821, 1371, 1372, 1373, 1374, 1375, 1376, 1377, 1378, 1379, 1380, 1381, 1382, 1383, 1384, 1385, 1386, 1387, 1388, 1389, 1390, 1391, 1392, 1393, 1394, 1395, 1396, 1397, 1398, 1399, 1400, 1401, 1402, 1403, 1404, 1405, 1406, 1407, 1408, 1409, 1410, 1411, 1412, 1413, 1414, 1415, 1416, 1417, 1418, 1419, 1420, 1421, 1422, 1423, 1424, 1425, 1426, 1427, 1428, 1429, 1430] (by decide +kernel) (by decide +kernel)
set_option maxRecDepth 20000 in
theorem gL_law_X9_plain : GoodIn wsL_law (wsV RL 74 RX9 yX9_plain wsX9_plain) := goodIn_app (goodIn_of _ (by decide +kernel)) ggL_law_X9_plain
