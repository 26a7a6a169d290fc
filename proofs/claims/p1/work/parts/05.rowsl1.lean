set_option maxRecDepth 20000 in
theorem ggL_law_X10_init : GoodIn wsL_law wsX10_init := goodIn_r _ [9, 10, 11, 12, 13, 14, 15, 16, 17, 18, 19, 20, 21, 22, 23, 24, 25, 26, 27, 28, 29, 30, 31, 32, 33, 34, 35, 36, 37, 38, 39, 40, 41, 42, 43, 44, 45, 46, 47, 48, 49, 50, 51, 52, 53, 54, 55, 56, 57, 58, 59, 60, 61, 62, 63, 64, 65, 66, 67, 68, 69, 70, 71, 72, 73, 74, 75, 76, 77, 78, 79, 80, 81, 82, 83, 84, 85, 86, 87, 88, 89, 90, 91, 92, 93, 94, 95, 1439, 1440, 1441, 1442, 1443, 1444, 1445, 1493, 1494, 1495, 1496, 1497, 1498, 1499, 1500, 1501, 1502, 1503, 1504, 1505, 1506, 1507, 1508, 1509, 1510, 1511, 1512, 1513, 1514, 1515, 1516, 1517, 1518, 1519, 1520, 1521, 1522, 1523, 1524, 1525, 1526, 1527, 1528, 1529, 1530, 1531, 1532, 1533, 1534, 1535, 1536, 1537, 1538, 1539, 1540, 1541, 1542, 1543, 1544, 1545, 1546, 1547, 1548] (by decide +kernel) (by decide +kernel)
set_option maxRecDepth 20000 in
theorem gL_law_X10_init : GoodIn wsL_law (wsX10_init) := ggL_law_X10_init
set_option maxRecDepth 20000 in
theorem ggL_law_X11_init : GoodIn wsL_law wsX11_init := goodIn_r _ [98, 99, 11, 12, 100, 101, 102, 103, 15, 104, 105, 106, 107, 108, 109, 110, 111, 112, 113, 114, 115, 116, 117, 118, 119, 120, 121, 1446, 1447, 1448, 1449, 1450, 1451, 1452, 1453, 1454, 1455, 1456, 1457, 1458, 1459, 1460, 1461, 1462, 1463, 1464, 1465, 1466, 1467, 1468, 1469, 1470, 1471, 1472, 1473, 1474, 1475, 1476, 1477, 1478, 1479, 1480, 1481, 1482, 1483, 1484, 1485, 1486, 1487, 1488, 1489, 1490, 1491, 1492] (by decide +kernel) (by decide +kernel)
set_option maxRecDepth 20000 in
theorem gL_law_X11_init : GoodIn wsL_law (wsX11_init) := ggL_law_X11_init
set_option maxRecDepth 20000 in
theorem ggL_law_X10_feed : GoodIn wsL_law wsX10_feed := goodIn_r _ [125, 17, 16, 126, 127, 2, 128, 1439, 1440, 1441, 1442, 1443, 1444, 1445] (by decide +kernel) (by decide +kernel)
set_option maxRecDepth 20000 in
theorem gL_law_X10_feed : GoodIn wsL_law (wsV RL 13 RX10 yX10_feed wsX10_feed) := goodIn_app (goodIn_of _ (by decide +kernel)) ggL_law_X10_feed
set_option maxRecDepth 20000 in
theorem ggL_law_X11_feed : GoodIn wsL_law wsX11_feed := goodIn_r _ [132, 133, 134, 135, 136, 137, 5, 138, 101, 1446, 1447, 1448, 1449, 1450, 1451, 1452, 1453, 1454, 1455, 1456, 1457, 1458, 1459, 1460, 1461, 1462, 1463, 1464, 1465, 1466, 1467, 1468, 1469, 1470, 1471, 1472, 1473, 1474, 1475, 1476, 1477, 1478, 1479, 1480, 1481, 1482, 1483, 1484, 1485, 1486, 1487, 1488, 1489, 1490, 1491, 1492] (by decide +kernel) (by decide +kernel)
set_option maxRecDepth 20000 in
theorem gL_law_X11_feed : GoodIn wsL_law (wsV RL 17 RX11 yX11_feed wsX11_feed) := goodIn_app (goodIn_of _ (by decide +kernel)) ggL_law_X11_feed
set_option maxRecDepth 20000 in
theorem ggL_law_X10_end : GoodIn wsL_law wsX10_end := goodIn_r _ [142, 17, 1439, 1440, 1441, 1442, 1443, 1444, 1445] (by decide +kernel) (by decide +kernel)
set_option maxRecDepth 20000 in
theorem gL_law_X10_end : GoodIn wsL_law (wsV RL 18 RX10 yX10_end wsX10_end) := goodIn_app (goodIn_of _ (by decide +kernel)) ggL_law_X10_end
set_option maxRecDepth 20000 in
theorem ggL_law_X11_end : GoodIn wsL_law wsX11_end := goodIn_r _ [146, 133, 134, 147, 148, 5, 149, 1446, 1447, 1448, 1449, 1450, 1451, 1452, 1453, 1454, 1455, 1456, 1457, 1458, 1459, 1460, 1461, 1462, 1463, 1464, 1465, 1466, 1467, 1468, 1469, 1470, 1471, 1472, 1473, 1474, 1475, 1476, 1477, 1478, 1479, 1480, 1481, 1482, 1483, 1484, 1485, 1486, 1487, 1488, 1489, 1490, 1491, 1492] (by decide +kernel) (by decide +kernel)
set_option maxRecDepth 20000 in
theorem gL_law_X11_end : GoodIn wsL_law (wsV RL 22 RX11 yX11_end wsX11_end) := goodIn_app (goodIn_of _ (by decide +kernel)) ggL_law_X11_end
set_option maxRecDepth 20000 in
theorem ggL_law_X10_make : GoodIn wsL_law wsX10_make := goodIn_r _ [153, 154, 155, 2, 156, 157, 158, 159, 160, 161, 162, 163, 14, 13, 164, 165, 166, 167, 168, 169, 11, 12, 170, 39, 40, 171, 172, 173, 174, 175, 176, 43, 44, 177, 46, 47, 48, 178, 179, 180, 181, 15, 182, 183, 184, 50, 51, 52, 53, 54, 55, 56, 57, 58, 59, 60, 185, 186, 187, 188, 189, 190, 191, 192, 193, 194, 195, 196, 197, 198, 199, 200, 201, 202, 203, 204, 205, 206, 207, 208, 209, 210, 211, 212, 213, 214, 215, 216, 217, 218, 219, 220, 221, 222, 223, 224, 225, 226, 227, 228, 229, 230, 231, 232, 233, 234, 235, 236, 237, 238, 239, 240, 241, 242, 243, 244, 245, 246, 247, 248, 249, 250, 251, 252, 253, 254, 255, 256, 257, 258, 259, 260, 261, 262, 263, 264, 265, 266, 267, 268, 269, 1439, 1440, 1441, 1442, 1443, 1444, 1445, 1549, 1550, 1551, 1552, 1553, 1554, 1555, 1556, 1557, 1558, 1559, 1560, 1521, 1522, 1523, 1524, 1561, 1562, 1563, 1525, 1526, 1527, 1528, 1529, 1530, 1531, 1532, 1533, 1534, 1535, 1536, 1537] (by decide +kernel) (by decide +kernel)
set_option maxRecDepth 20000 in
theorem gL_law_X10_make : GoodIn wsL_law (wsV RL 25 RX10 yX10_make wsX10_make) := goodIn_app (goodIn_of _ (by decide +kernel)) ggL_law_X10_make
set_option maxRecDepth 20000 in
theorem ggL_law_X11_make : GoodIn wsL_law wsX11_make := goodIn_r _ [273, 133, 274, 275, 276, 277, 278, 279, 147, 148, 5, 149, 280, 281, 282, 283, 284, 285, 286, 287, 103, 288, 289, 290, 291, 292, 293, 294, 295, 296, 297, 298, 299, 300, 301, 302, 303, 304, 305, 306, 307, 308, 309, 310, 311, 312, 313, 314, 315, 316, 317, 318, 319, 320, 321, 322, 323, 324, 325, 326, 109, 106, 104, 108, 327, 328, 329, 330, 331, 332, 333, 334, 335, 336, 337, 338, 339, 340, 341, 342, 343, 344, 345, 110, 111, 107, 346, 347, 348, 349, 350, 351, 352, 353, 354, 355, 356, 357, 358, 359, 360, 361, 1446, 1447, 1448, 1449, 1450, 1451, 1452, 1453, 1454, 1455, 1456, 1457, 1458, 1459, 1460, 1461, 1462, 1463, 1464, 1465, 1466, 1467, 1468, 1469, 1470, 1471, 1472, 1473, 1474, 1475, 1476, 1477, 1478, 1479, 1480, 1481, 1482, 1483, 1484, 1485, 1486, 1487, 1488, 1489, 1490, 1491, 1492] (by decide +kernel) (by decide +kernel)
set_option maxRecDepth 20000 in
theorem gL_law_X11_make : GoodIn wsL_law (wsV RL 29 RX11 yX11_make wsX11_make) := goodIn_app (goodIn_of _ (by decide +kernel)) ggL_law_X11_make
set_option maxRecDepth 20000 in
theorem ggL_law_X10_put : GoodIn wsL_law wsX10_put := goodIn_r _ [365, 366, 367, 368, 2, 369, 14, 154, 155, 156, 370, 371, 372, 373, 374, 375, 376, 165, 377, 175, 196, 378, 379, 380, 174, 381, 382, 182, 383, 384, 385, 386, 387, 388, 389, 390, 192, 177, 391, 392, 393, 44, 394, 237, 238, 236, 246, 247, 248, 395, 266, 267, 268, 54, 396, 397, 398, 399, 400, 208, 194, 401, 171, 193, 195, 402, 403, 404, 405, 406, 207, 407, 408, 409, 410, 411, 412, 413, 414, 415, 416, 55, 56, 265, 417, 418, 419, 420, 240, 58, 59, 421, 422, 423, 424, 249, 250, 251, 252, 189, 425, 426, 427, 428, 429, 430, 431, 432, 433, 53, 434, 435, 436, 437, 438, 439, 183, 440, 204, 205, 206, 191, 190, 209, 210, 211, 212, 213, 214, 215, 216, 217, 218, 219, 220, 221, 222, 40, 223, 201, 224, 225, 226, 227, 228, 229, 202, 230, 231, 232, 233, 234, 235, 239, 241, 242, 243, 244, 245, 253, 254, 255, 256, 257, 57, 60, 258, 259, 260, 261, 262, 263, 264, 269, 441, 442, 443, 444, 445, 446, 447, 448, 449, 1439, 1440, 1441, 1442, 1443, 1444, 1445, 1549, 1550, 1551, 1552, 1553, 1554, 1555, 1556, 1557, 1558, 1559, 1560, 1561, 1562, 1563, 1525, 1526, 1527, 1528, 1529, 1530, 1531, 1532, 1533, 1534, 1535, 1536, 1537, 1521, 1522, 1523, 1524] (by decide +kernel) (by decide +kernel)
set_option maxRecDepth 20000 in
theorem gL_law_X10_put : GoodIn wsL_law (wsV RL 30 RX10 yX10_put wsX10_put) := goodIn_app (goodIn_of _ (by decide +kernel)) ggL_law_X10_put
set_option maxRecDepth 20000 in
theorem ggL_law_X11_put : GoodIn wsL_law wsX11_put := goodIn_r _ [453, 133, 454, 455, 456, 5, 457, 274, 147, 148, 149, 302, 303, 304, 305, 103, 458, 459, 460, 315, 461, 462, 463, 464, 298, 299, 300, 301, 465, 466, 467, 468, 104, 469, 470, 471, 472, 473, 474, 475, 476, 105, 109, 107, 108, 477, 478, 479, 480, 481, 331, 332, 333, 334, 335, 336, 337, 316, 350, 351, 352, 353, 110, 111, 338, 339, 340, 341, 482, 483, 484, 485, 106, 486, 487, 488, 489, 490, 491, 492, 358, 359, 360, 361, 493, 494, 495, 496, 497, 498, 499, 500, 288, 289, 290, 291, 292, 293, 294, 295, 296, 297, 284, 285, 286, 287, 306, 307, 308, 309, 310, 311, 312, 313, 314, 317, 318, 319, 320, 321, 322, 323, 324, 325, 326, 327, 328, 329, 330, 342, 343, 344, 345, 346, 347, 348, 349, 354, 355, 356, 357, 1446, 1447, 1448, 1449, 1450, 1451, 1452, 1453, 1454, 1455, 1456, 1457, 1458, 1459, 1460, 1461, 1462, 1463, 1464, 1465, 1466, 1467, 1468, 1469, 1470, 1471, 1472, 1473, 1474, 1475, 1476, 1477, 1478, 1479, 1480, 1481, 1482, 1483, 1484, 1485, 1486, 1487, 1488, 1489, 1490, 1491, 1492] (by decide +kernel) (by decide +kernel)
set_option maxRecDepth 20000 in
theorem gL_law_X11_put : GoodIn wsL_law (wsV RL 34 RX11 yX11_put wsX11_put) := goodIn_app (goodIn_of _ (by decide +kernel)) ggL_law_X11_put
set_option maxRecDepth 20000 in
theorem ggL_law_X10_get : GoodIn wsL_law wsX10_get := goodIn_r _ [504, 505, 506, 366, 367, 368, 2, 369, 14, 154, 155, 156, 370, 371, 372, 373, 387, 388, 389, 165, 390, 192, 177, 391, 392, 393, 44, 394, 237, 238, 236, 246, 247, 248, 395, 266, 267, 268, 54, 507, 379, 380, 174, 381, 382, 182, 383, 384, 385, 386, 508, 509, 510, 511, 183, 1549, 1550, 1551, 1552, 1553, 1554, 1555, 1556, 1557, 1558, 1559, 1560, 1439, 1440, 1441, 1442, 1443, 1444, 1445, 1525, 1526, 1527, 1528, 1529, 1530, 1531, 1532, 1533, 1534, 1535, 1536, 1537, 1561, 1562, 1563] (by decide +kernel) (by decide +kernel)
set_option maxRecDepth 20000 in
theorem gL_law_X10_get : GoodIn wsL_law (wsV RL 35 RX10 yX10_get wsX10_get) := goodIn_app (goodIn_of _ (by decide +kernel)) ggL_law_X10_get
set_option maxRecDepth 20000 in
theorem ggL_law_X11_get : GoodIn wsL_law wsX11_get := goodIn_r _ [515, 133, 516, 105, 454, 455, 456, 5, 457, 274, 147, 148, 149, 302, 303, 304, 305, 103, 458, 459, 460, 315, 486, 487, 488, 489, 331, 332, 333, 334, 335, 336, 337, 316, 338, 339, 340, 341, 108, 490, 491, 492, 358, 359, 360, 361, 465, 466, 467, 468, 104, 469, 470, 471, 472, 298, 299, 300, 301, 1446, 1447, 1448, 1449, 1450, 1451, 1452, 1453, 1454, 1455, 1456, 1457, 1458, 1459, 1460, 1461, 1462, 1463, 1464, 1465, 1466, 1467, 1468, 1469, 1470, 1471, 1472, 1473, 1474, 1475, 1476, 1477, 1478, 1479, 1480, 1481, 1482, 1483, 1484, 1485, 1486, 1487, 1488, 1489, 1490, 1491, 1492] (by decide +kernel) (by decide +kernel)
set_option maxRecDepth 20000 in
theorem gL_law_X11_get : GoodIn wsL_law (wsV RL 39 RX11 yX11_get wsX11_get) := goodIn_app (goodIn_of _ (by decide +kernel)) ggL_law_X11_get
set_option maxRecDepth 20000 in
theorem ggL_law_X10_drop : GoodIn wsL_law wsX10_drop := goodIn_r _ [520, 366, 367, 368, 2, 369, 14, 154, 155, 156, 370, 371, 372, 373, 387, 388, 389, 165, 390, 192, 177, 391, 392, 393, 44, 394, 237, 238, 236, 246, 247, 248, 395, 266, 267, 268, 54, 521, 522, 523, 524, 175, 208, 207, 194, 378, 379, 380, 174, 381, 382, 182, 383, 384, 385, 386, 525, 526, 527, 528, 240, 53, 58, 430, 431, 432, 433, 59, 529, 530, 531, 532, 439, 183, 440, 204, 205, 206, 196, 191, 195, 190, 209, 210, 211, 212, 171, 213, 214, 215, 216, 217, 218, 219, 220, 221, 222, 40, 223, 201, 224, 225, 226, 227, 228, 229, 202, 230, 231, 232, 233, 234, 235, 239, 241, 242, 243, 244, 245, 249, 250, 251, 252, 189, 253, 254, 255, 256, 257, 57, 60, 258, 259, 260, 261, 262, 55, 263, 56, 264, 265, 269, 1439, 1440, 1441, 1442, 1443, 1444, 1445, 1549, 1550, 1551, 1552, 1553, 1554, 1555, 1556, 1557, 1558, 1559, 1560, 1525, 1526, 1527, 1528, 1529, 1530, 1531, 1532, 1533, 1534, 1535, 1536, 1537, 1561, 1562, 1563, 1521, 1522, 1523, 1524] (by decide +kernel) (by decide +kernel)
set_option maxRecDepth 20000 in
theorem gL_law_X10_drop : GoodIn wsL_law (wsV RL 40 RX10 yX10_drop wsX10_drop) := goodIn_app (goodIn_of _ (by decide +kernel)) ggL_law_X10_drop
set_option maxRecDepth 20000 in
theorem ggL_law_X11_drop : GoodIn wsL_law wsX11_drop := goodIn_r _ [536, 133, 454, 455, 456, 5, 457, 274, 147, 148, 149, 302, 303, 304, 305, 103, 458, 459, 460, 315, 537, 538, 539, 540, 109, 106, 541, 486, 487, 488, 489, 331, 332, 333, 334, 335, 336, 337, 316, 338, 339, 340, 341, 108, 490, 491, 492, 358, 359, 360, 361, 465, 466, 467, 468, 104, 469, 470, 471, 472, 298, 299, 300, 301, 497, 498, 499, 500, 105, 107, 288, 289, 290, 291, 292, 293, 294, 295, 296, 297, 284, 285, 286, 287, 306, 307, 308, 309, 310, 311, 312, 313, 314, 317, 318, 319, 320, 321, 322, 323, 324, 325, 326, 327, 328, 329, 330, 342, 343, 344, 345, 110, 111, 346, 347, 348, 349, 350, 351, 352, 353, 354, 355, 356, 357, 1446, 1447, 1448, 1449, 1450, 1451, 1452, 1453, 1454, 1455, 1456, 1457, 1458, 1459, 1460, 1461, 1462, 1463, 1464, 1465, 1466, 1467, 1468, 1469, 1470, 1471, 1472, 1473, 1474, 1475, 1476, 1477, 1478, 1479, 1480, 1481, 1482, 1483, 1484, 1485, 1486, 1487, 1488, 1489, 1490, 1491, 1492] (by decide +kernel) (by decide +kernel)
set_option maxRecDepth 20000 in
theorem gL_law_X11_drop : GoodIn wsL_law (wsV RL 44 RX11 yX11_drop wsX11_drop) := goodIn_app (goodIn_of _ (by decide +kernel)) ggL_law_X11_drop
set_option maxRecDepth 20000 in
theorem ggL_law_X10_build : GoodIn wsL_law wsX10_build := goodIn_r _ [545, 546, 547, 548, 366, 367, 368, 2, 369, 14, 154, 155, 156, 203, 204, 205, 165, 206, 175, 196, 191, 207, 208, 195, 190, 209, 210, 211, 212, 171, 177, 213, 214, 215, 216, 217, 218, 219, 220, 221, 222, 40, 223, 201, 224, 225, 226, 227, 228, 229, 202, 230, 231, 232, 44, 233, 234, 235, 236, 237, 238, 239, 240, 241, 58, 53, 242, 243, 244, 245, 246, 247, 248, 249, 250, 251, 252, 189, 253, 254, 255, 256, 257, 54, 57, 60, 258, 259, 260, 261, 262, 55, 263, 56, 264, 59, 265, 266, 267, 268, 269, 1549, 1550, 1551, 1552, 1553, 1554, 1555, 1556, 1557, 1558, 1559, 1560, 1521, 1522, 1523, 1524, 1439, 1440, 1441, 1442, 1443, 1444, 1445, 1561, 1562, 1563, 1525, 1526, 1527, 1528, 1529, 1530, 1531, 1532, 1533, 1534, 1535, 1536, 1537] (by decide +kernel) (by decide +kernel)
set_option maxRecDepth 20000 in
theorem gL_law_X10_build : GoodIn wsL_law (wsV RL 45 RX10 yX10_build wsX10_build) := goodIn_app (goodIn_of _ (by decide +kernel)) ggL_law_X10_build
set_option maxRecDepth 20000 in
theorem ggL_law_X11_build : GoodIn wsL_law wsX11_build := goodIn_r _ [552, 133, 296, 454, 455, 456, 5, 457, 274, 147, 148, 149, 302, 303, 304, 305, 103, 358, 359, 360, 361, 288, 289, 290, 291, 292, 293, 294, 295, 297, 298, 299, 300, 301, 284, 285, 286, 287, 306, 307, 308, 309, 310, 311, 312, 313, 314, 315, 316, 317, 318, 319, 320, 321, 322, 323, 324, 325, 326, 109, 106, 104, 108, 327, 328, 329, 330, 331, 332, 333, 334, 335, 336, 337, 338, 339, 340, 341, 342, 343, 344, 345, 110, 111, 107, 346, 347, 348, 349, 350, 351, 352, 353, 354, 355, 356, 357, 1446, 1447, 1448, 1449, 1450, 1451, 1452, 1453, 1454, 1455, 1456, 1457, 1458, 1459, 1460, 1461, 1462, 1463, 1464, 1465, 1466, 1467, 1468, 1469, 1470, 1471, 1472, 1473, 1474, 1475, 1476, 1477, 1478, 1479, 1480, 1481, 1482, 1483, 1484, 1485, 1486, 1487, 1488, 1489, 1490, 1491, 1492] (by decide +kernel) (by decide +kernel)
set_option maxRecDepth 20000 in
theorem gL_law_X11_build : GoodIn wsL_law (wsV RL 49 RX11 yX11_build wsX11_build) := goodIn_app (goodIn_of _ (by decide +kernel)) ggL_law_X11_build
set_option maxRecDepth 20000 in
theorem ggL_law_X10_has : GoodIn wsL_law wsX10_has := goodIn_r _ [556, 505, 506, 557, 558, 559, 560, 561, 562, 563, 564, 565, 546, 547, 566, 548, 567, 568, 569, 570, 571, 366, 367, 368, 2, 369, 14, 154, 155, 156, 572, 250, 251, 165, 252, 189, 207, 1549, 1550, 1551, 1552, 1553, 1554, 1555, 1556, 1557, 1558, 1559, 1560, 1561, 1562, 1563, 1525, 1526, 1527, 1528, 1529, 1530, 1531, 1532, 1533, 1534, 1535, 1536, 1537, 1521, 1522, 1523, 1524, 1439, 1440, 1441, 1442, 1443, 1444, 1445] (by decide +kernel) (by decide +kernel)
set_option maxRecDepth 20000 in
theorem gL_law_X10_has : GoodIn wsL_law (wsV RL 50 RX10 yX10_has wsX10_has) := goodIn_app (goodIn_of _ (by decide +kernel)) ggL_law_X10_has
set_option maxRecDepth 20000 in
theorem ggL_law_X11_has : GoodIn wsL_law wsX11_has := goodIn_r _ [576, 133, 516, 577, 578, 454, 455, 456, 5, 457, 274, 147, 148, 149, 302, 303, 304, 305, 103, 1446, 1447, 1448, 1449, 1450, 1451, 1452, 1453, 1454, 1455, 1456, 1457, 1458, 1459, 1460, 1461, 1462, 1463, 1464, 1465, 1466, 1467, 1468, 1469, 1470, 1471, 1472, 1473, 1474, 1475, 1476, 1477, 1478, 1479, 1480, 1481, 1482, 1483, 1484, 1485, 1486, 1487, 1488, 1489, 1490, 1491, 1492] (by decide +kernel) (by decide +kernel)
set_option maxRecDepth 20000 in
theorem gL_law_X11_has : GoodIn wsL_law (wsV RL 53 RX11 yX11_has wsX11_has) := goodIn_app (goodIn_of _ (by decide +kernel)) ggL_law_X11_has
set_option maxRecDepth 20000 in
theorem ggL_law_X10_bucket : GoodIn wsL_law wsX10_bucket := goodIn_r _ [582, 560, 505, 583, 584, 585, 586, 587, 366, 367, 368, 2, 369, 14, 154, 155, 156, 588, 410, 411, 44, 412, 236, 1549, 1550, 1551, 1552, 1553, 1554, 1555, 1556, 1557, 1558, 1559, 1560, 1525, 1526, 1527, 1528, 1529, 1530, 1531, 1532, 1533, 1534, 1535, 1536, 1537, 1439, 1440, 1441, 1442, 1443, 1444, 1445] (by decide +kernel) (by decide +kernel)
set_option maxRecDepth 20000 in
theorem gL_law_X10_bucket : GoodIn wsL_law (wsV RL 54 RX10 yX10_bucket wsX10_bucket) := goodIn_app (goodIn_of _ (by decide +kernel)) ggL_law_X10_bucket
set_option maxRecDepth 20000 in
theorem ggL_law_X11_bucket : GoodIn wsL_law wsX11_bucket := goodIn_r _ [592, 133, 516, 109, 108, 541, 110, 111, 593, 594, 595, 5, 596, 454, 455, 456, 457, 274, 147, 148, 149, 302, 303, 304, 305, 103, 327, 328, 329, 330, 1446, 1447, 1448, 1449, 1450, 1451, 1452, 1453, 1454, 1455, 1456, 1457, 1458, 1459, 1460, 1461, 1462, 1463, 1464, 1465, 1466, 1467, 1468, 1469, 1470, 1471, 1472, 1473, 1474, 1475, 1476, 1477, 1478, 1479, 1480, 1481, 1482, 1483, 1484, 1485, 1486, 1487, 1488, 1489, 1490, 1491, 1492] (by decide +kernel) (by decide +kernel)
set_option maxRecDepth 20000 in
theorem gL_law_X11_bucket : GoodIn wsL_law (wsV RL 58 RX11 yX11_bucket wsX11_bucket) := goodIn_app (goodIn_of _ (by decide +kernel)) ggL_law_X11_bucket
set_option maxRecDepth 20000 in
theorem ggL_law_X10_room : GoodIn wsL_law wsX10_room := goodIn_r _ [600, 560, 506, 366, 367, 368, 2, 369, 14, 154, 155, 156, 588, 410, 411, 44, 412, 236, 601, 266, 267, 268, 54, 602, 418, 419, 420, 240, 58, 59, 603, 604, 605, 174, 606, 382, 182, 1549, 1550, 1551, 1552, 1553, 1554, 1555, 1556, 1557, 1558, 1559, 1560, 1439, 1440, 1441, 1442, 1443, 1444, 1445, 1525, 1526, 1527, 1528, 1529, 1530, 1531, 1532, 1533, 1534, 1535, 1536, 1537, 1561, 1562, 1563] (by decide +kernel) (by decide +kernel)
set_option maxRecDepth 20000 in
theorem gL_law_X10_room : GoodIn wsL_law (wsV RL 59 RX10 yX10_room wsX10_room) := goodIn_app (goodIn_of _ (by decide +kernel)) ggL_law_X10_room
set_option maxRecDepth 20000 in
theorem ggL_law_X11_room : GoodIn wsL_law wsX11_room := goodIn_r _ [610, 133, 106, 107, 104, 593, 594, 595, 5, 596, 454, 455, 456, 457, 274, 147, 148, 149, 302, 303, 304, 305, 103, 327, 328, 329, 330, 338, 339, 340, 341, 108, 298, 299, 300, 301, 1446, 1447, 1448, 1449, 1450, 1451, 1452, 1453, 1454, 1455, 1456, 1457, 1458, 1459, 1460, 1461, 1462, 1463, 1464, 1465, 1466, 1467, 1468, 1469, 1470, 1471, 1472, 1473, 1474, 1475, 1476, 1477, 1478, 1479, 1480, 1481, 1482, 1483, 1484, 1485, 1486, 1487, 1488, 1489, 1490, 1491, 1492] (by decide +kernel) (by decide +kernel)
set_option maxRecDepth 20000 in
theorem gL_law_X11_room : GoodIn wsL_law (wsV RL 62 RX11 yX11_room wsX11_room) := goodIn_app (goodIn_of _ (by decide +kernel)) ggL_law_X11_room
set_option maxRecDepth 20000 in
theorem ggL_law_X10_place : GoodIn wsL_law wsX10_place := goodIn_r _ [614, 560, 366, 367, 368, 2, 369, 14, 154, 155, 156, 370, 371, 372, 373, 615, 392, 393, 44, 394, 237, 238, 236, 246, 247, 248, 616, 414, 415, 416, 55, 56, 265, 266, 267, 268, 54, 1549, 1550, 1551, 1552, 1553, 1554, 1555, 1556, 1557, 1558, 1559, 1560, 1439, 1440, 1441, 1442, 1443, 1444, 1445, 1525, 1526, 1527, 1528, 1529, 1530, 1531, 1532, 1533, 1534, 1535, 1536, 1537] (by decide +kernel) (by decide +kernel)
set_option maxRecDepth 20000 in
theorem gL_law_X10_place : GoodIn wsL_law (wsV RL 63 RX10 yX10_place wsX10_place) := goodIn_app (goodIn_of _ (by decide +kernel)) ggL_law_X10_place
set_option maxRecDepth 20000 in
theorem ggL_law_X11_place : GoodIn wsL_law wsX11_place := goodIn_r _ [620, 133, 454, 455, 456, 5, 457, 274, 147, 148, 149, 302, 303, 304, 305, 103, 458, 459, 460, 315, 331, 332, 333, 334, 335, 336, 337, 316, 338, 339, 340, 341, 108, 350, 351, 352, 353, 110, 111, 1446, 1447, 1448, 1449, 1450, 1451, 1452, 1453, 1454, 1455, 1456, 1457, 1458, 1459, 1460, 1461, 1462, 1463, 1464, 1465, 1466, 1467, 1468, 1469, 1470, 1471, 1472, 1473, 1474, 1475, 1476, 1477, 1478, 1479, 1480, 1481, 1482, 1483, 1484, 1485, 1486, 1487, 1488, 1489, 1490, 1491, 1492] (by decide +kernel) (by decide +kernel)
set_option maxRecDepth 20000 in
theorem gL_law_X11_place : GoodIn wsL_law (wsV RL 66 RX11 yX11_place wsX11_place) := goodIn_app (goodIn_of _ (by decide +kernel)) ggL_law_X11_place
set_option maxRecDepth 20000 in
theorem ggL_law_X10_key : GoodIn wsL_law wsX10_key := goodIn_r _ [624, 506, 557, 366, 367, 368, 2, 369, 14, 154, 155, 156, 603, 604, 605, 174, 606, 382, 182, 1549, 1550, 1551, 1552, 1553, 1554, 1555, 1556, 1557, 1558, 1559, 1560, 1561, 1562, 1563, 1439, 1440, 1441, 1442, 1443, 1444, 1445] (by decide +kernel) (by decide +kernel)
set_option maxRecDepth 20000 in
theorem gL_law_X10_key : GoodIn wsL_law (wsV RL 67 RX10 yX10_key wsX10_key) := goodIn_app (goodIn_of _ (by decide +kernel)) ggL_law_X10_key
set_option maxRecDepth 20000 in
theorem ggL_law_X11_key : GoodIn wsL_law wsX11_key := goodIn_r _ [628, 133, 104, 454, 455, 456, 5, 457, 274, 147, 148, 149, 302, 303, 304, 305, 103, 298, 299, 300, 301, 1446, 1447, 1448, 1449, 1450, 1451, 1452, 1453, 1454, 1455, 1456, 1457, 1458, 1459, 1460, 1461, 1462, 1463, 1464, 1465, 1466, 1467, 1468, 1469, 1470, 1471, 1472, 1473, 1474, 1475, 1476, 1477, 1478, 1479, 1480, 1481, 1482, 1483, 1484, 1485, 1486, 1487, 1488, 1489, 1490, 1491, 1492] (by decide +kernel) (by decide +kernel)
set_option maxRecDepth 20000 in
theorem gL_law_X11_key : GoodIn wsL_law (wsV RL 70 RX11 yX11_key wsX11_key) := goodIn_app (goodIn_of _ (by decide +kernel)) ggL_law_X11_key
set_option maxRecDepth 20000 in
theorem ggL_law_X10_walk : GoodIn wsL_law wsX10_walk := goodIn_r _ [632, 506, 557, 560, 366, 367, 368, 2, 369, 14, 154, 155, 156, 633, 634, 635, 44, 636, 236, 53, 59, 60, 637, 447, 448, 449, 240, 58, 603, 604, 605, 174, 606, 382, 182, 1549, 1550, 1551, 1552, 1553, 1554, 1555, 1556, 1557, 1558, 1559, 1560, 1561, 1562, 1563, 1439, 1440, 1441, 1442, 1443, 1444, 1445, 1525, 1526, 1527, 1528, 1529, 1530, 1531, 1532, 1533, 1534, 1535, 1536, 1537] (by decide +kernel) (by decide +kernel)
set_option maxRecDepth 20000 in
theorem gL_law_X10_walk : GoodIn wsL_law (wsV RL 71 RX10 yX10_walk wsX10_walk) := goodIn_app (goodIn_of _ (by decide +kernel)) ggL_law_X10_walk
set_option maxRecDepth 20000 in
theorem ggL_law_X11_walk : GoodIn wsL_law wsX11_walk := goodIn_r _ [641, 133, 104, 454, 455, 456, 5, 457, 274, 147, 148, 149, 302, 303, 304, 305, 103, 298, 299, 300, 301, 642, 643, 644, 645, 106, 107, 490, 491, 492, 1446, 1447, 1448, 1449, 1450, 1451, 1452, 1453, 1454, 1455, 1456, 1457, 1458, 1459, 1460, 1461, 1462, 1463, 1464, 1465, 1466, 1467, 1468, 1469, 1470, 1471, 1472, 1473, 1474, 1475, 1476, 1477, 1478, 1479, 1480, 1481, 1482, 1483, 1484, 1485, 1486, 1487, 1488, 1489, 1490, 1491, 1492] (by decide +kernel) (by decide +kernel)
set_option maxRecDepth 20000 in
theorem gL_law_X11_walk : GoodIn wsL_law (wsV RL 74 RX11 yX11_walk wsX11_walk) := goodIn_app (goodIn_of _ (by decide +kernel)) ggL_law_X11_walk
set_option maxRecDepth 20000 in
theorem ggL_law_X10_below : GoodIn wsL_law wsX10_below := goodIn_r _ [649, 506, 366, 367, 368, 2, 369, 14, 154, 155, 156, 650, 384, 385, 174, 386, 382, 182, 1549, 1550, 1551, 1552, 1553, 1554, 1555, 1556, 1557, 1558, 1559, 1560, 1439, 1440, 1441, 1442, 1443, 1444, 1445, 1561, 1562, 1563] (by decide +kernel) (by decide +kernel)
set_option maxRecDepth 20000 in
theorem gL_law_X10_below : GoodIn wsL_law (wsV RL 75 RX10 yX10_below wsX10_below) := goodIn_app (goodIn_of _ (by decide +kernel)) ggL_law_X10_below
set_option maxRecDepth 20000 in
theorem ggL_law_X11_below : GoodIn wsL_law wsX11_below := goodIn_r _ [654, 133, 316, 454, 455, 456, 5, 457, 274, 147, 148, 149, 302, 303, 304, 305, 103, 469, 470, 471, 472, 104, 298, 299, 300, 301, 1446, 1447, 1448, 1449, 1450, 1451, 1452, 1453, 1454, 1455, 1456, 1457, 1458, 1459, 1460, 1461, 1462, 1463, 1464, 1465, 1466, 1467, 1468, 1469, 1470, 1471, 1472, 1473, 1474, 1475, 1476, 1477, 1478, 1479, 1480, 1481, 1482, 1483, 1484, 1485, 1486, 1487, 1488, 1489, 1490, 1491, 1492] (by decide +kernel) (by decide +kernel)
set_option maxRecDepth 20000 in
theorem gL_law_X11_below : GoodIn wsL_law (wsV RL 78 RX11 yX11_below wsX11_below) := goodIn_app (goodIn_of _ (by decide +kernel)) ggL_law_X11_below
set_option maxRecDepth 20000 in
theorem ggL_law_X10_nearest : GoodIn wsL_law wsX10_nearest := goodIn_r _ [658, 506, 366, 367, 368, 2, 369, 14, 154, 155, 156, 370, 371, 372, 373, 659, 660, 661, 174, 662, 382, 182, 383, 384, 385, 386, 663, 604, 605, 606, 1549, 1550, 1551, 1552, 1553, 1554, 1555, 1556, 1557, 1558, 1559, 1560, 1439, 1440, 1441, 1442, 1443, 1444, 1445, 1561, 1562, 1563] (by decide +kernel) (by decide +kernel)
set_option maxRecDepth 20000 in
theorem gL_law_X10_nearest : GoodIn wsL_law (wsV RL 79 RX10 yX10_nearest wsX10_nearest) := goodIn_app (goodIn_of _ (by decide +kernel)) ggL_law_X10_nearest
set_option maxRecDepth 20000 in
theorem ggL_law_X11_nearest : GoodIn wsL_law wsX11_nearest := goodIn_r _ [667, 133, 104, 454, 455, 456, 5, 457, 274, 147, 148, 149, 302, 303, 304, 305, 103, 458, 459, 460, 315, 298, 299, 300, 301, 469, 470, 471, 472, 1446, 1447, 1448, 1449, 1450, 1451, 1452, 1453, 1454, 1455, 1456, 1457, 1458, 1459, 1460, 1461, 1462, 1463, 1464, 1465, 1466, 1467, 1468, 1469, 1470, 1471, 1472, 1473, 1474, 1475, 1476, 1477, 1478, 1479, 1480, 1481, 1482, 1483, 1484, 1485, 1486, 1487, 1488, 1489, 1490, 1491, 1492] (by decide +kernel) (by decide +kernel)
set_option maxRecDepth 20000 in
theorem gL_law_X11_nearest : GoodIn wsL_law (wsV RL 82 RX11 yX11_nearest wsX11_nearest) := goodIn_app (goodIn_of _ (by decide +kernel)) ggL_law_X11_nearest
set_option maxRecDepth 20000 in
theorem ggL_law_X10_many : GoodIn wsL_law wsX10_many := goodIn_r _ [671, 560, 366, 367, 368, 2, 369, 14, 154, 155, 156, 672, 673, 674, 44, 675, 236, 53, 1549, 1550, 1551, 1552, 1553, 1554, 1555, 1556, 1557, 1558, 1559, 1560, 1439, 1440, 1441, 1442, 1443, 1444, 1445, 1525, 1526, 1527, 1528, 1529, 1530, 1531, 1532, 1533, 1534, 1535, 1536, 1537] (by decide +kernel) (by decide +kernel)
set_option maxRecDepth 20000 in
theorem gL_law_X10_many : GoodIn wsL_law (wsV RL 83 RX10 yX10_many wsX10_many) := goodIn_app (goodIn_of _ (by decide +kernel)) ggL_law_X10_many
set_option maxRecDepth 20000 in
theorem ggL_law_X11_many : GoodIn wsL_law wsX11_many := goodIn_r _ [679, 133, 109, 454, 455, 456, 5, 457, 274, 147, 148, 149, 302, 303, 304, 305, 103, 327, 328, 329, 330, 490, 491, 492, 1446, 1447, 1448, 1449, 1450, 1451, 1452, 1453, 1454, 1455, 1456, 1457, 1458, 1459, 1460, 1461, 1462, 1463, 1464, 1465, 1466, 1467, 1468, 1469, 1470, 1471, 1472, 1473, 1474, 1475, 1476, 1477, 1478, 1479, 1480, 1481, 1482, 1483, 1484, 1485, 1486, 1487, 1488, 1489, 1490, 1491, 1492] (by decide +kernel) (by decide +kernel)
set_option maxRecDepth 20000 in
theorem gL_law_X11_many : GoodIn wsL_law (wsV RL 86 RX11 yX11_many wsX11_many) := goodIn_app (goodIn_of _ (by decide +kernel)) ggL_law_X11_many
set_option maxRecDepth 20000 in
theorem ggL_law_X10_crowd : GoodIn wsL_law wsX10_crowd := goodIn_r _ [683, 560, 583, 506, 557, 366, 367, 368, 2, 369, 14, 154, 155, 156, 684, 685, 686, 44, 687, 236, 53, 672, 673, 674, 675, 688, 689, 690, 691, 1549, 1550, 1551, 1552, 1553, 1554, 1555, 1556, 1557, 1558, 1559, 1560, 1525, 1526, 1527, 1528, 1529, 1530, 1531, 1532, 1533, 1534, 1535, 1536, 1537, 1561, 1562, 1563, 1439, 1440, 1441, 1442, 1443, 1444, 1445] (by decide +kernel) (by decide +kernel)
set_option maxRecDepth 20000 in
theorem gL_law_X10_crowd : GoodIn wsL_law (wsV RL 87 RX10 yX10_crowd wsX10_crowd) := goodIn_app (goodIn_of _ (by decide +kernel)) ggL_law_X10_crowd
set_option maxRecDepth 20000 in
theorem ggL_law_X11_crowd : GoodIn wsL_law wsX11_crowd := goodIn_r _ [695, 133, 274, 109, 454, 455, 456, 5, 457, 147, 148, 149, 302, 303, 304, 305, 103, 327, 328, 329, 330, 1446, 1447, 1448, 1449, 1450, 1451, 1452, 1453, 1454, 1455, 1456, 1457, 1458, 1459, 1460, 1461, 1462, 1463, 1464, 1465, 1466, 1467, 1468, 1469, 1470, 1471, 1472, 1473, 1474, 1475, 1476, 1477, 1478, 1479, 1480, 1481, 1482, 1483, 1484, 1485, 1486, 1487, 1488, 1489, 1490, 1491, 1492] (by decide +kernel) (by decide +kernel)
set_option maxRecDepth 20000 in
theorem gL_law_X11_crowd : GoodIn wsL_law (wsV RL 90 RX11 yX11_crowd wsX11_crowd) := goodIn_app (goodIn_of _ (by decide +kernel)) ggL_law_X11_crowd
set_option maxRecDepth 20000 in
theorem ggL_law_X10_empty : GoodIn wsL_law wsX10_empty := goodIn_r _ [699, 560, 562, 506, 557, 366, 367, 368, 2, 369, 14, 154, 155, 156, 1549, 1550, 1551, 1552, 1553, 1554, 1555, 1556, 1557, 1558, 1559, 1560, 1525, 1526, 1527, 1528, 1529, 1530, 1531, 1532, 1533, 1534, 1535, 1536, 1537, 1561, 1562, 1563, 1439, 1440, 1441, 1442, 1443, 1444, 1445] (by decide +kernel) (by decide +kernel)
set_option maxRecDepth 20000 in
theorem gL_law_X10_empty : GoodIn wsL_law (wsV RL 91 RX10 yX10_empty wsX10_empty) := goodIn_app (goodIn_of _ (by decide +kernel)) ggL_law_X10_empty
set_option maxRecDepth 20000 in
theorem ggL_law_X11_empty : GoodIn wsL_law wsX11_empty := goodIn_r _ [703, 133, 454, 455, 456, 5, 457, 274, 147, 148, 149, 302, 303, 304, 305, 103, 298, 299, 300, 301, 1446, 1447, 1448, 1449, 1450, 1451, 1452, 1453, 1454, 1455, 1456, 1457, 1458, 1459, 1460, 1461, 1462, 1463, 1464, 1465, 1466, 1467, 1468, 1469, 1470, 1471, 1472, 1473, 1474, 1475, 1476, 1477, 1478, 1479, 1480, 1481, 1482, 1483, 1484, 1485, 1486, 1487, 1488, 1489, 1490, 1491, 1492] (by decide +kernel) (by decide +kernel)
set_option maxRecDepth 20000 in
theorem gL_law_X11_empty : GoodIn wsL_law (wsV RL 94 RX11 yX11_empty wsX11_empty) := goodIn_app (goodIn_of _ (by decide +kernel)) ggL_law_X11_empty
set_option maxRecDepth 20000 in
theorem ggL_law_X10_left : GoodIn wsL_law wsX10_left := goodIn_r _ [707, 558, 559, 366, 367, 368, 2, 369, 14, 154, 155, 156, 1549, 1550, 1551, 1552, 1553, 1554, 1555, 1556, 1557, 1558, 1559, 1560, 1439, 1440, 1441, 1442, 1443, 1444, 1445] (by decide +kernel) (by decide +kernel)
set_option maxRecDepth 20000 in
theorem gL_law_X10_left : GoodIn wsL_law (wsV RL 95 RX10 yX10_left wsX10_left) := goodIn_app (goodIn_of _ (by decide +kernel)) ggL_law_X10_left
set_option maxRecDepth 20000 in
theorem ggL_law_X11_left : GoodIn wsL_law wsX11_left := goodIn_r _ [711, 133, 454, 455, 456, 5, 457, 274, 147, 148, 149, 302, 303, 304, 305, 103, 1446, 1447, 1448, 1449, 1450, 1451, 1452, 1453, 1454, 1455, 1456, 1457, 1458, 1459, 1460, 1461, 1462, 1463, 1464, 1465, 1466, 1467, 1468, 1469, 1470, 1471, 1472, 1473, 1474, 1475, 1476, 1477, 1478, 1479, 1480, 1481, 1482, 1483, 1484, 1485, 1486, 1487, 1488, 1489, 1490, 1491, 1492] (by decide +kernel) (by decide +kernel)
set_option maxRecDepth 20000 in
theorem gL_law_X11_left : GoodIn wsL_law (wsV RL 98 RX11 yX11_left wsX11_left) := goodIn_app (goodIn_of _ (by decide +kernel)) ggL_law_X11_left
set_option maxRecDepth 20000 in
theorem ggL_law_X10_outer : GoodIn wsL_law wsX10_outer := goodIn_r _ [715, 505, 21, 506, 366, 367, 368, 2, 369, 14, 154, 155, 156, 716, 717, 718, 373, 719, 720, 721, 20, 722, 45, 723, 724, 231, 232, 44, 233, 234, 216, 211, 217, 235, 210, 212, 236, 237, 238, 239, 240, 241, 58, 53, 242, 243, 244, 245, 246, 247, 248, 725, 685, 686, 687, 726, 673, 674, 675, 1439, 1440, 1441, 1442, 1443, 1444, 1445, 1549, 1550, 1551, 1552, 1553, 1554, 1555, 1556, 1557, 1558, 1559, 1560, 1493, 1494, 1495, 1525, 1526, 1527, 1528, 1529, 1530, 1531, 1532, 1533, 1534, 1535, 1536, 1537, 1561, 1562, 1563] (by decide +kernel) (by decide +kernel)
set_option maxRecDepth 20000 in
theorem gL_law_X10_outer : GoodIn wsL_law (wsV RL 99 RX10 yX10_outer wsX10_outer) := goodIn_app (goodIn_of _ (by decide +kernel)) ggL_law_X10_outer
set_option maxRecDepth 20000 in
theorem ggL_law_X11_outer : GoodIn wsL_law wsX11_outer := goodIn_r _ [730, 133, 297, 274, 516, 112, 104, 293, 454, 455, 456, 5, 457, 147, 148, 149, 302, 303, 304, 305, 103, 731, 732, 733, 315, 298, 299, 300, 301, 335, 336, 337, 316, 490, 491, 492, 1446, 1447, 1448, 1449, 1450, 1451, 1452, 1453, 1454, 1455, 1456, 1457, 1458, 1459, 1460, 1461, 1462, 1463, 1464, 1465, 1466, 1467, 1468, 1469, 1470, 1471, 1472, 1473, 1474, 1475, 1476, 1477, 1478, 1479, 1480, 1481, 1482, 1483, 1484, 1485, 1486, 1487, 1488, 1489, 1490, 1491, 1492] (by decide +kernel) (by decide +kernel)
set_option maxRecDepth 20000 in
theorem gL_law_X11_outer : GoodIn wsL_law (wsV RL 103 RX11 yX11_outer wsX11_outer) := goodIn_app (goodIn_of _ (by decide +kernel)) ggL_law_X11_outer
set_option maxRecDepth 20000 in
theorem ggL_law_X10_best : GoodIn wsL_law wsX10_best := goodIn_r _ [737, 505, 21, 366, 367, 368, 2, 369, 14, 154, 155, 156, 738, 739, 740, 20, 741, 41, 45, 742, 743, 744, 745, 746, 747, 198, 199, 40, 200, 201, 202, 748, 221, 222, 223, 224, 225, 226, 227, 228, 229, 724, 231, 232, 44, 233, 234, 216, 211, 217, 235, 210, 212, 236, 237, 238, 239, 240, 241, 58, 53, 242, 243, 244, 245, 246, 247, 248, 749, 250, 251, 165, 252, 189, 207, 1439, 1440, 1441, 1442, 1443, 1444, 1445, 1493, 1494, 1495, 1549, 1550, 1551, 1552, 1553, 1554, 1555, 1556, 1557, 1558, 1559, 1560, 1521, 1522, 1523, 1524, 1525, 1526, 1527, 1528, 1529, 1530, 1531, 1532, 1533, 1534, 1535, 1536, 1537, 1561, 1562, 1563] (by decide +kernel) (by decide +kernel)
set_option maxRecDepth 20000 in
theorem gL_law_X10_best : GoodIn wsL_law (wsV RL 104 RX10 yX10_best wsX10_best) := goodIn_app (goodIn_of _ (by decide +kernel)) ggL_law_X10_best
set_option maxRecDepth 20000 in
theorem ggL_law_X11_best : GoodIn wsL_law wsX11_best := goodIn_r _ [753, 133, 279, 481, 516, 310, 294, 295, 454, 455, 456, 5, 457, 274, 147, 148, 149, 302, 303, 304, 305, 103, 311, 312, 313, 314, 315, 316, 296, 317, 318, 319, 320, 321, 322, 754, 755, 756, 757, 112, 104, 293, 327, 328, 329, 330, 298, 299, 300, 301, 335, 336, 337, 490, 491, 492, 1446, 1447, 1448, 1449, 1450, 1451, 1452, 1453, 1454, 1455, 1456, 1457, 1458, 1459, 1460, 1461, 1462, 1463, 1464, 1465, 1466, 1467, 1468, 1469, 1470, 1471, 1472, 1473, 1474, 1475, 1476, 1477, 1478, 1479, 1480, 1481, 1482, 1483, 1484, 1485, 1486, 1487, 1488, 1489, 1490, 1491, 1492] (by decide +kernel) (by decide +kernel)
set_option maxRecDepth 20000 in
theorem gL_law_X11_best : GoodIn wsL_law (wsV RL 108 RX11 yX11_best wsX11_best) := goodIn_app (goodIn_of _ (by decide +kernel)) ggL_law_X11_best
set_option maxRecDepth 20000 in
theorem ggL_law_X10_inner : GoodIn wsL_law wsX10_inner := goodIn_r _ [761, 560, 21, 366, 367, 368, 2, 369, 14, 154, 155, 156, 601, 266, 267, 44, 268, 236, 54, 716, 717, 718, 373, 762, 763, 764, 20, 765, 745, 766, 447, 448, 449, 240, 58, 60, 767, 768, 769, 770, 771, 742, 772, 45, 773, 774, 604, 605, 174, 606, 382, 182, 246, 247, 248, 1549, 1550, 1551, 1552, 1553, 1554, 1555, 1556, 1557, 1558, 1559, 1560, 1439, 1440, 1441, 1442, 1443, 1444, 1445, 1525, 1526, 1527, 1528, 1529, 1530, 1531, 1532, 1533, 1534, 1535, 1536, 1537, 1493, 1494, 1495, 1561, 1562, 1563] (by decide +kernel) (by decide +kernel)
set_option maxRecDepth 20000 in
theorem gL_law_X10_inner : GoodIn wsL_law (wsV RL 109 RX10 yX10_inner wsX10_inner) := goodIn_app (goodIn_of _ (by decide +kernel)) ggL_law_X10_inner
set_option maxRecDepth 20000 in
theorem ggL_law_X11_inner : GoodIn wsL_law wsX11_inner := goodIn_r _ [778, 133, 593, 594, 595, 5, 596, 454, 455, 456, 457, 274, 147, 148, 149, 302, 303, 304, 305, 103, 327, 328, 329, 330, 731, 732, 733, 315, 338, 339, 340, 341, 108, 346, 347, 348, 349, 106, 104, 298, 299, 300, 301, 335, 336, 337, 316, 1446, 1447, 1448, 1449, 1450, 1451, 1452, 1453, 1454, 1455, 1456, 1457, 1458, 1459, 1460, 1461, 1462, 1463, 1464, 1465, 1466, 1467, 1468, 1469, 1470, 1471, 1472, 1473, 1474, 1475, 1476, 1477, 1478, 1479, 1480, 1481, 1482, 1483, 1484, 1485, 1486, 1487, 1488, 1489, 1490, 1491, 1492] (by decide +kernel) (by decide +kernel)
set_option maxRecDepth 20000 in
theorem gL_law_X11_inner : GoodIn wsL_law (wsV RL 113 RX11 yX11_inner wsX11_inner) := goodIn_app (goodIn_of _ (by decide +kernel)) ggL_law_X11_inner
set_option maxRecDepth 20000 in
theorem ggL_law_X10_tries : GoodIn wsL_law wsX10_tries := goodIn_r _ [782, 560, 21, 366, 367, 368, 2, 369, 14, 154, 155, 156, 601, 266, 267, 44, 268, 236, 54, 783, 784, 785, 20, 786, 745, 41, 743, 744, 766, 447, 448, 449, 240, 58, 60, 767, 747, 198, 199, 40, 200, 201, 202, 748, 221, 222, 223, 224, 225, 226, 227, 228, 229, 768, 769, 770, 771, 742, 772, 45, 773, 774, 604, 605, 174, 606, 382, 182, 246, 247, 248, 1549, 1550, 1551, 1552, 1553, 1554, 1555, 1556, 1557, 1558, 1559, 1560, 1439, 1440, 1441, 1442, 1443, 1444, 1445, 1525, 1526, 1527, 1528, 1529, 1530, 1531, 1532, 1533, 1534, 1535, 1536, 1537, 1493, 1494, 1495, 1521, 1522, 1523, 1524, 1561, 1562, 1563] (by decide +kernel) (by decide +kernel)
set_option maxRecDepth 20000 in
theorem gL_law_X10_tries : GoodIn wsL_law (wsV RL 114 RX10 yX10_tries wsX10_tries) := goodIn_app (goodIn_of _ (by decide +kernel)) ggL_law_X10_tries
set_option maxRecDepth 20000 in
theorem ggL_law_X11_tries : GoodIn wsL_law wsX11_tries := goodIn_r _ [790, 133, 279, 310, 294, 295, 593, 594, 595, 5, 596, 454, 455, 456, 457, 274, 147, 148, 149, 302, 303, 304, 305, 103, 327, 328, 329, 330, 338, 339, 340, 341, 108, 311, 312, 313, 314, 315, 316, 296, 317, 318, 319, 320, 321, 322, 346, 347, 348, 349, 106, 104, 298, 299, 300, 301, 335, 336, 337, 1446, 1447, 1448, 1449, 1450, 1451, 1452, 1453, 1454, 1455, 1456, 1457, 1458, 1459, 1460, 1461, 1462, 1463, 1464, 1465, 1466, 1467, 1468, 1469, 1470, 1471, 1472, 1473, 1474, 1475, 1476, 1477, 1478, 1479, 1480, 1481, 1482, 1483, 1484, 1485, 1486, 1487, 1488, 1489, 1490, 1491, 1492] (by decide +kernel) (by decide +kernel)
set_option maxRecDepth 20000 in
theorem gL_law_X11_tries : GoodIn wsL_law (wsV RL 118 RX11 yX11_tries wsX11_tries) := goodIn_app (goodIn_of _ (by decide +kernel)) ggL_law_X11_tries
set_option maxRecDepth 20000 in
theorem ggL_law_X10_would : GoodIn wsL_law wsX10_would := goodIn_r _ [794, 366, 367, 368, 2, 369, 14, 154, 155, 156, 370, 371, 372, 373, 374, 375, 376, 165, 377, 175, 196, 378, 379, 380, 174, 381, 382, 182, 383, 384, 385, 386, 795, 404, 405, 406, 177, 208, 207, 402, 407, 408, 391, 392, 393, 44, 394, 237, 238, 236, 246, 247, 248, 409, 410, 411, 412, 413, 414, 415, 416, 55, 56, 265, 266, 267, 268, 54, 417, 418, 419, 420, 240, 58, 59, 421, 422, 423, 424, 395, 249, 250, 251, 252, 189, 1439, 1440, 1441, 1442, 1443, 1444, 1445, 1549, 1550, 1551, 1552, 1553, 1554, 1555, 1556, 1557, 1558, 1559, 1560, 1561, 1562, 1563, 1525, 1526, 1527, 1528, 1529, 1530, 1531, 1532, 1533, 1534, 1535, 1536, 1537] (by decide +kernel) (by decide +kernel)
set_option maxRecDepth 20000 in
theorem gL_law_X10_would : GoodIn wsL_law (wsV RL 119 RX10 yX10_would wsX10_would) := goodIn_app (goodIn_of _ (by decide +kernel)) ggL_law_X10_would
set_option maxRecDepth 20000 in
theorem ggL_law_X11_would : GoodIn wsL_law wsX11_would := goodIn_r _ [799, 133, 454, 455, 456, 5, 457, 274, 147, 148, 149, 302, 303, 304, 305, 103, 458, 459, 460, 315, 461, 462, 463, 464, 298, 299, 300, 301, 465, 466, 467, 468, 104, 469, 470, 471, 472, 477, 478, 479, 480, 108, 109, 481, 331, 332, 333, 334, 335, 336, 337, 316, 350, 351, 352, 353, 110, 111, 338, 339, 340, 341, 482, 483, 484, 485, 106, 107, 1446, 1447, 1448, 1449, 1450, 1451, 1452, 1453, 1454, 1455, 1456, 1457, 1458, 1459, 1460, 1461, 1462, 1463, 1464, 1465, 1466, 1467, 1468, 1469, 1470, 1471, 1472, 1473, 1474, 1475, 1476, 1477, 1478, 1479, 1480, 1481, 1482, 1483, 1484, 1485, 1486, 1487, 1488, 1489, 1490, 1491, 1492] (by decide +kernel) (by decide +kernel)
set_option maxRecDepth 20000 in
theorem gL_law_X11_would : GoodIn wsL_law (wsV RL 122 RX11 yX11_would wsX11_would) := goodIn_app (goodIn_of _ (by decide +kernel)) ggL_law_X11_would
set_option maxRecDepth 20000 in
theorem ggL_law_X10_frozen : GoodIn wsL_law wsX10_frozen := goodIn_r _ [803, 505, 21, 506, 804, 805, 562, 806, 807, 547, 366, 367, 368, 2, 369, 14, 154, 155, 156, 808, 809, 810, 20, 811, 812, 813, 210, 211, 212, 41, 45, 743, 744, 814, 815, 816, 747, 198, 199, 40, 200, 201, 202, 748, 221, 222, 223, 224, 225, 226, 227, 228, 229, 724, 231, 232, 44, 233, 234, 216, 217, 235, 236, 237, 238, 239, 240, 241, 58, 53, 242, 243, 244, 245, 246, 247, 248, 817, 254, 255, 256, 257, 54, 57, 60, 818, 259, 260, 261, 262, 55, 263, 56, 264, 59, 265, 266, 267, 268, 269, 819, 820, 821, 822, 823, 824, 825, 826, 827, 1439, 1440, 1441, 1442, 1443, 1444, 1445, 1549, 1550, 1551, 1552, 1553, 1554, 1555, 1556, 1557, 1558, 1559, 1560, 1493, 1494, 1495, 1525, 1526, 1527, 1528, 1529, 1530, 1531, 1532, 1533, 1534, 1535, 1536, 1537, 1521, 1522, 1523, 1524, 1561, 1562, 1563] (by decide +kernel) (by decide +kernel)
set_option maxRecDepth 20000 in
theorem gL_law_X10_frozen : GoodIn wsL_law (wsV RL 123 RX10 yX10_frozen wsX10_frozen) := goodIn_app (goodIn_of _ (by decide +kernel)) ggL_law_X10_frozen
set_option maxRecDepth 20000 in
theorem ggL_law_X11_frozen : GoodIn wsL_law wsX11_frozen := goodIn_r _ [831, 133, 293, 516, 832, 833, 834, 454, 455, 456, 5, 457, 274, 147, 148, 149, 302, 303, 304, 305, 103, 835, 836, 837, 838, 104, 310, 296, 294, 295, 298, 299, 300, 301, 284, 285, 286, 287, 311, 312, 313, 314, 315, 316, 317, 318, 319, 320, 321, 322, 323, 324, 325, 326, 109, 106, 108, 327, 328, 329, 330, 331, 332, 333, 334, 335, 336, 337, 338, 339, 340, 341, 342, 343, 344, 345, 110, 111, 107, 346, 347, 348, 349, 350, 351, 352, 353, 839, 840, 841, 842, 843, 844, 845, 846, 1446, 1447, 1448, 1449, 1450, 1451, 1452, 1453, 1454, 1455, 1456, 1457, 1458, 1459, 1460, 1461, 1462, 1463, 1464, 1465, 1466, 1467, 1468, 1469, 1470, 1471, 1472, 1473, 1474, 1475, 1476, 1477, 1478, 1479, 1480, 1481, 1482, 1483, 1484, 1485, 1486, 1487, 1488, 1489, 1490, 1491, 1492] (by decide +kernel) (by decide +kernel)
set_option maxRecDepth 20000 in
theorem gL_law_X11_frozen : GoodIn wsL_law (wsV RL 127 RX11 yX11_frozen wsX11_frozen) := goodIn_app (goodIn_of _ (by decide +kernel)) ggL_law_X11_frozen
set_option maxRecDepth 20000 in
theorem ggL_law_X10_frozenAt : GoodIn wsL_law wsX10_frozenAt := goodIn_r _ [850, 506, 21, 805, 366, 367, 368, 2, 369, 14, 154, 155, 156, 507, 379, 380, 174, 381, 382, 182, 383, 384, 385, 386, 808, 809, 810, 20, 811, 812, 813, 210, 211, 212, 41, 45, 743, 744, 814, 815, 816, 747, 198, 199, 40, 200, 201, 202, 748, 221, 222, 223, 224, 225, 226, 227, 228, 229, 724, 231, 232, 44, 233, 234, 216, 217, 235, 236, 237, 238, 239, 240, 241, 58, 53, 242, 243, 244, 245, 246, 247, 248, 817, 254, 255, 256, 257, 54, 57, 60, 818, 259, 260, 261, 262, 55, 263, 56, 264, 59, 265, 266, 267, 268, 269, 851, 825, 826, 827, 1549, 1550, 1551, 1552, 1553, 1554, 1555, 1556, 1557, 1558, 1559, 1560, 1439, 1440, 1441, 1442, 1443, 1444, 1445, 1493, 1494, 1495, 1561, 1562, 1563, 1521, 1522, 1523, 1524, 1525, 1526, 1527, 1528, 1529, 1530, 1531, 1532, 1533, 1534, 1535, 1536, 1537] (by decide +kernel) (by decide +kernel)
set_option maxRecDepth 20000 in
theorem gL_law_X10_frozenAt : GoodIn wsL_law (wsV RL 128 RX10 yX10_frozenAt wsX10_frozenAt) := goodIn_app (goodIn_of _ (by decide +kernel)) ggL_law_X10_frozenAt
set_option maxRecDepth 20000 in
theorem ggL_law_X11_frozenAt : GoodIn wsL_law wsX11_frozenAt := goodIn_r _ [855, 133, 454, 455, 456, 5, 457, 274, 147, 148, 149, 302, 303, 304, 305, 103, 835, 836, 837, 838, 104, 310, 296, 294, 295, 833, 834, 298, 299, 300, 301, 284, 285, 286, 287, 311, 312, 313, 314, 315, 316, 317, 318, 319, 320, 321, 322, 323, 324, 325, 326, 109, 106, 108, 327, 328, 329, 330, 331, 332, 333, 334, 335, 336, 337, 338, 339, 340, 341, 342, 343, 344, 345, 110, 111, 107, 346, 347, 348, 349, 350, 351, 352, 353, 458, 459, 460, 465, 466, 467, 468, 469, 470, 471, 472, 839, 840, 841, 842, 843, 844, 845, 846, 1446, 1447, 1448, 1449, 1450, 1451, 1452, 1453, 1454, 1455, 1456, 1457, 1458, 1459, 1460, 1461, 1462, 1463, 1464, 1465, 1466, 1467, 1468, 1469, 1470, 1471, 1472, 1473, 1474, 1475, 1476, 1477, 1478, 1479, 1480, 1481, 1482, 1483, 1484, 1485, 1486, 1487, 1488, 1489, 1490, 1491, 1492] (by decide +kernel) (by decide +kernel)
set_option maxRecDepth 20000 in
theorem gL_law_X11_frozenAt : GoodIn wsL_law (wsV RL 132 RX11 yX11_frozenAt wsX11_frozenAt) := goodIn_app (goodIn_of _ (by decide +kernel)) ggL_law_X11_frozenAt
set_option maxRecDepth 20000 in
theorem ggL_law_X10_shared : GoodIn wsL_law wsX10_shared := goodIn_r _ [859, 506, 557, 366, 367, 368, 2, 369, 14, 154, 155, 156, 860, 861, 862, 174, 863, 382, 182, 183, 864, 379, 380, 381, 383, 384, 385, 386, 1549, 1550, 1551, 1552, 1553, 1554, 1555, 1556, 1557, 1558, 1559, 1560, 1561, 1562, 1563, 1439, 1440, 1441, 1442, 1443, 1444, 1445] (by decide +kernel) (by decide +kernel)
set_option maxRecDepth 20000 in
theorem gL_law_X10_shared : GoodIn wsL_law (wsV RL 133 RX10 yX10_shared wsX10_shared) := goodIn_app (goodIn_of _ (by decide +kernel)) ggL_law_X10_shared
set_option maxRecDepth 20000 in
theorem ggL_law_X11_shared : GoodIn wsL_law wsX11_shared := goodIn_r _ [868, 133, 274, 104, 105, 454, 455, 456, 5, 457, 147, 148, 149, 302, 303, 304, 305, 103, 298, 299, 300, 301, 465, 466, 467, 468, 469, 470, 471, 472, 869, 870, 871, 872, 490, 491, 492, 1446, 1447, 1448, 1449, 1450, 1451, 1452, 1453, 1454, 1455, 1456, 1457, 1458, 1459, 1460, 1461, 1462, 1463, 1464, 1465, 1466, 1467, 1468, 1469, 1470, 1471, 1472, 1473, 1474, 1475, 1476, 1477, 1478, 1479, 1480, 1481, 1482, 1483, 1484, 1485, 1486, 1487, 1488, 1489, 1490, 1491, 1492] (by decide +kernel) (by decide +kernel)
set_option maxRecDepth 20000 in
theorem gL_law_X11_shared : GoodIn wsL_law (wsV RL 136 RX11 yX11_shared wsX11_shared) := goodIn_app (goodIn_of _ (by decide +kernel)) ggL_law_X11_shared
set_option maxRecDepth 20000 in
theorem ggL_law_X10_join : GoodIn wsL_law wsX10_join := goodIn_r _ [876, 506, 557, 366, 367, 368, 2, 369, 14, 154, 155, 156, 603, 604, 605, 174, 606, 382, 182, 374, 375, 376, 165, 377, 175, 196, 378, 379, 380, 381, 383, 384, 385, 386, 508, 509, 510, 511, 183, 396, 397, 398, 399, 400, 177, 208, 194, 401, 171, 193, 195, 402, 403, 404, 405, 406, 207, 407, 408, 391, 392, 393, 44, 394, 237, 238, 236, 246, 247, 248, 409, 410, 411, 412, 413, 414, 415, 416, 55, 56, 265, 266, 267, 268, 54, 417, 418, 419, 420, 240, 58, 59, 421, 422, 423, 424, 395, 249, 250, 251, 252, 189, 425, 426, 427, 428, 429, 430, 431, 432, 433, 53, 434, 435, 436, 437, 438, 439, 440, 204, 205, 206, 191, 190, 209, 210, 211, 212, 213, 214, 215, 216, 217, 218, 219, 220, 221, 222, 40, 223, 201, 224, 225, 226, 227, 228, 229, 202, 230, 231, 232, 233, 234, 235, 239, 241, 242, 243, 244, 245, 253, 254, 255, 256, 257, 57, 60, 258, 259, 260, 261, 262, 263, 264, 269, 441, 442, 443, 444, 445, 446, 447, 448, 449, 1549, 1550, 1551, 1552, 1553, 1554, 1555, 1556, 1557, 1558, 1559, 1560, 1561, 1562, 1563, 1439, 1440, 1441, 1442, 1443, 1444, 1445, 1525, 1526, 1527, 1528, 1529, 1530, 1531, 1532, 1533, 1534, 1535, 1536, 1537, 1521, 1522, 1523, 1524] (by decide +kernel) (by decide +kernel)
set_option maxRecDepth 20000 in
theorem gL_law_X10_join : GoodIn wsL_law (wsV RL 137 RX10 yX10_join wsX10_join) := goodIn_app (goodIn_of _ (by decide +kernel)) ggL_law_X10_join
set_option maxRecDepth 20000 in
theorem ggL_law_X11_join : GoodIn wsL_law wsX11_join := goodIn_r _ [880, 133, 104, 105, 454, 455, 456, 5, 457, 274, 147, 148, 149, 302, 303, 304, 305, 103, 298, 299, 300, 301, 461, 462, 463, 464, 465, 466, 467, 468, 469, 470, 471, 472, 473, 474, 475, 476, 109, 107, 108, 477, 478, 479, 480, 481, 331, 332, 333, 334, 335, 336, 337, 316, 350, 351, 352, 353, 110, 111, 338, 339, 340, 341, 482, 483, 484, 485, 106, 486, 487, 488, 489, 490, 491, 492, 358, 359, 360, 361, 493, 494, 495, 496, 497, 498, 499, 500, 288, 289, 290, 291, 292, 293, 294, 295, 296, 297, 284, 285, 286, 287, 306, 307, 308, 309, 310, 311, 312, 313, 314, 315, 317, 318, 319, 320, 321, 322, 323, 324, 325, 326, 327, 328, 329, 330, 342, 343, 344, 345, 346, 347, 348, 349, 354, 355, 356, 357, 1446, 1447, 1448, 1449, 1450, 1451, 1452, 1453, 1454, 1455, 1456, 1457, 1458, 1459, 1460, 1461, 1462, 1463, 1464, 1465, 1466, 1467, 1468, 1469, 1470, 1471, 1472, 1473, 1474, 1475, 1476, 1477, 1478, 1479, 1480, 1481, 1482, 1483, 1484, 1485, 1486, 1487, 1488, 1489, 1490, 1491, 1492] (by decide +kernel) (by decide +kernel)
set_option maxRecDepth 20000 in
theorem gL_law_X11_join : GoodIn wsL_law (wsV RL 140 RX11 yX11_join wsX11_join) := goodIn_app (goodIn_of _ (by decide +kernel)) ggL_law_X11_join
set_option maxRecDepth 20000 in
theorem ggL_law_X10_cut : GoodIn wsL_law wsX10_cut := goodIn_r _ [884, 506, 557, 366, 367, 368, 2, 369, 14, 154, 155, 156, 603, 604, 605, 174, 606, 382, 182, 507, 379, 380, 381, 383, 384, 385, 386, 521, 522, 523, 165, 524, 175, 177, 208, 207, 194, 378, 525, 526, 527, 44, 528, 240, 53, 58, 430, 431, 432, 433, 59, 529, 530, 531, 532, 439, 183, 440, 204, 205, 206, 196, 191, 195, 190, 209, 210, 211, 212, 171, 213, 214, 215, 216, 217, 218, 219, 220, 221, 222, 40, 223, 201, 224, 225, 226, 227, 228, 229, 202, 230, 231, 232, 233, 234, 235, 236, 237, 238, 239, 241, 242, 243, 244, 245, 246, 247, 248, 249, 250, 251, 252, 189, 253, 254, 255, 256, 257, 54, 57, 60, 258, 259, 260, 261, 262, 55, 263, 56, 264, 265, 266, 267, 268, 269, 1549, 1550, 1551, 1552, 1553, 1554, 1555, 1556, 1557, 1558, 1559, 1560, 1561, 1562, 1563, 1439, 1440, 1441, 1442, 1443, 1444, 1445, 1525, 1526, 1527, 1528, 1529, 1530, 1531, 1532, 1533, 1534, 1535, 1536, 1537, 1521, 1522, 1523, 1524] (by decide +kernel) (by decide +kernel)
set_option maxRecDepth 20000 in
theorem gL_law_X10_cut : GoodIn wsL_law (wsV RL 141 RX10 yX10_cut wsX10_cut) := goodIn_app (goodIn_of _ (by decide +kernel)) ggL_law_X10_cut
set_option maxRecDepth 20000 in
theorem ggL_law_X11_cut : GoodIn wsL_law wsX11_cut := goodIn_r _ [888, 133, 104, 454, 455, 456, 5, 457, 274, 147, 148, 149, 302, 303, 304, 305, 103, 298, 299, 300, 301, 465, 466, 467, 468, 469, 470, 471, 472, 537, 538, 539, 540, 109, 106, 541, 486, 487, 488, 489, 331, 332, 333, 334, 335, 336, 337, 316, 338, 339, 340, 341, 108, 490, 491, 492, 358, 359, 360, 361, 497, 498, 499, 500, 105, 107, 288, 289, 290, 291, 292, 293, 294, 295, 296, 297, 284, 285, 286, 287, 306, 307, 308, 309, 310, 311, 312, 313, 314, 315, 317, 318, 319, 320, 321, 322, 323, 324, 325, 326, 327, 328, 329, 330, 342, 343, 344, 345, 110, 111, 346, 347, 348, 349, 350, 351, 352, 353, 354, 355, 356, 357, 1446, 1447, 1448, 1449, 1450, 1451, 1452, 1453, 1454, 1455, 1456, 1457, 1458, 1459, 1460, 1461, 1462, 1463, 1464, 1465, 1466, 1467, 1468, 1469, 1470, 1471, 1472, 1473, 1474, 1475, 1476, 1477, 1478, 1479, 1480, 1481, 1482, 1483, 1484, 1485, 1486, 1487, 1488, 1489, 1490, 1491, 1492] (by decide +kernel) (by decide +kernel)
set_option maxRecDepth 20000 in
theorem gL_law_X11_cut : GoodIn wsL_law (wsV RL 145 RX11 yX11_cut wsX11_cut) := goodIn_app (goodIn_of _ (by decide +kernel)) ggL_law_X11_cut
set_option maxRecDepth 20000 in
theorem ggL_law_X10_values : GoodIn wsL_law wsX10_values := goodIn_r _ [892, 505, 506, 585, 366, 367, 368, 2, 369, 14, 154, 155, 156, 893, 894, 895, 174, 896, 382, 183, 603, 604, 605, 606, 182, 508, 509, 510, 511, 897, 898, 899, 900, 1549, 1550, 1551, 1552, 1553, 1554, 1555, 1556, 1557, 1558, 1559, 1560, 1439, 1440, 1441, 1442, 1443, 1444, 1445, 1561, 1562, 1563] (by decide +kernel) (by decide +kernel)
set_option maxRecDepth 20000 in
theorem gL_law_X10_values : GoodIn wsL_law (wsV RL 146 RX10 yX10_values wsX10_values) := goodIn_app (goodIn_of _ (by decide +kernel)) ggL_law_X10_values
set_option maxRecDepth 20000 in
theorem ggL_law_X11_values : GoodIn wsL_law wsX11_values := goodIn_r _ [904, 133, 481, 516, 105, 541, 104, 454, 455, 456, 5, 457, 274, 147, 148, 149, 302, 303, 304, 305, 103, 298, 299, 300, 301, 1446, 1447, 1448, 1449, 1450, 1451, 1452, 1453, 1454, 1455, 1456, 1457, 1458, 1459, 1460, 1461, 1462, 1463, 1464, 1465, 1466, 1467, 1468, 1469, 1470, 1471, 1472, 1473, 1474, 1475, 1476, 1477, 1478, 1479, 1480, 1481, 1482, 1483, 1484, 1485, 1486, 1487, 1488, 1489, 1490, 1491, 1492] (by decide +kernel) (by decide +kernel)
set_option maxRecDepth 20000 in
theorem gL_law_X11_values : GoodIn wsL_law (wsV RL 149 RX11 yX11_values wsX11_values) := goodIn_app (goodIn_of _ (by decide +kernel)) ggL_law_X11_values
set_option maxRecDepth 20000 in
theorem ggL_law_X10_run : GoodIn wsL_law wsX10_run := goodIn_r _ [908, 29, 16, 17, 33, 909, 910, 911, 366, 367, 368, 2, 369, 14, 154, 155, 156, 912, 913, 914, 28, 915, 916, 73, 917, 918, 919, 920, 921, 922, 77, 923, 924, 925, 926, 927, 928, 929, 930, 931, 932, 76, 933, 934, 935, 216, 211, 217, 936, 937, 938, 939, 940, 941, 942, 943, 944, 945, 946, 947, 948, 949, 950, 951, 952, 953, 954, 955, 956, 957, 958, 959, 960, 961, 962, 963, 964, 965, 966, 967, 968, 969, 970, 971, 972, 973, 974, 975, 976, 977, 978, 979, 980, 981, 982, 983, 984, 985, 986, 987, 988, 989, 990, 991, 992, 993, 994, 995, 996, 997, 998, 999, 1000, 1001, 1002, 1003, 1004, 1005, 1006, 1007, 1008, 1009, 1010, 1011, 1012, 1013, 1014, 1015, 1016, 1017, 1018, 1019, 1020, 1021, 1022, 1023, 1024, 1025, 1026, 1027, 1028, 1029, 1030, 1031, 1032, 1033, 1034, 1035, 1036, 1037, 1038, 1039, 1040, 1041, 1042, 1043, 78, 1044, 1045, 1046, 72, 1047, 1048, 86, 1049, 1050, 1051, 1052, 84, 1053, 1054, 1055, 1056, 85, 1057, 1058, 1059, 1060, 1061, 1062, 1063, 1064, 1065, 1066, 1067, 1068, 1069, 79, 1070, 1071, 1072, 1073, 1074, 1075, 1076, 1077, 1078, 1079, 1080, 1081, 1082, 1083, 1084, 1085, 1086, 1087, 1088, 1089, 1090, 1091, 1092, 1093, 1094, 1095, 1096, 1097, 1098, 1099, 1100, 1101, 1102, 1103, 1104, 1105, 1106, 1107, 1108, 32, 1109, 1110, 1111, 1112, 1113, 1114, 1115, 1116, 1117, 1118, 1119, 1120, 1121, 1122, 1123, 94, 1124, 1125, 1126, 1127, 1128, 95, 1129, 1130, 1131, 1132, 1133, 1134, 1135, 1136, 1137, 1138, 1139, 1140, 1141, 1142, 1143, 1144, 1145, 1146, 1147, 1148, 1149, 1150, 1151, 1152, 1153, 1154, 371, 372, 373, 1155, 388, 389, 165, 390, 192, 177, 391, 392, 393, 44, 394, 237, 238, 236, 246, 247, 248, 395, 266, 267, 268, 54, 1156, 379, 380, 174, 381, 382, 182, 383, 384, 385, 386, 1157, 509, 510, 511, 183, 1158, 375, 376, 377, 175, 196, 378, 1159, 397, 398, 399, 400, 208, 194, 401, 171, 193, 195, 402, 403, 404, 405, 406, 207, 407, 408, 409, 410, 411, 412, 413, 414, 415, 416, 55, 56, 265, 417, 418, 419, 420, 240, 58, 59, 421, 422, 423, 424, 249, 250, 251, 252, 189, 425, 426, 427, 428, 429, 430, 431, 432, 433, 53, 434, 435, 436, 437, 438, 439, 440, 204, 205, 206, 191, 190, 209, 210, 212, 213, 214, 215, 218, 219, 220, 221, 222, 40, 223, 201, 224, 225, 226, 227, 228, 229, 202, 230, 231, 232, 233, 234, 235, 239, 241, 242, 243, 244, 245, 253, 254, 255, 256, 257, 57, 60, 258, 259, 260, 261, 262, 263, 264, 269, 441, 442, 443, 444, 445, 446, 447, 448, 449, 1160, 522, 523, 524, 525, 526, 527, 528, 529, 530, 531, 532, 1161, 1162, 1163, 1164, 1439, 1440, 1441, 1442, 1443, 1444, 1445, 1498, 1499, 1500, 1501, 1502, 1503, 1504, 1505, 1506, 1507, 1508, 1509, 1510, 1511, 1512, 1513, 1514, 1515, 1516, 1517, 1518, 1519, 1520, 1538, 1539, 1540, 1541, 1542, 1543, 1544, 1545, 1546, 1547, 1548, 1549, 1550, 1551, 1552, 1553, 1554, 1555, 1556, 1557, 1558, 1559, 1560, 1525, 1526, 1527, 1528, 1529, 1530, 1531, 1532, 1533, 1534, 1535, 1536, 1537, 1561, 1562, 1563, 1521, 1522, 1523, 1524] (by decide +kernel) (by decide +kernel)
set_option maxRecDepth 20000 in
theorem gL_law_X10_run : GoodIn wsL_law (wsV RL 150 RX10 yX10_run wsX10_run) := goodIn_app (goodIn_of _ (by decide +kernel)) ggL_law_X10_run
set_option maxRecDepth 20000 in
theorem ggL_law_X11_run : GoodIn wsL_law wsX11_run := goodIn_r _ [1168, 133, 1169, 1170, 1171, 1172, 1173, 454, 455, 456, 5, 457, 274, 147, 148, 149, 302, 303, 304, 305, 103, 1174, 1175, 1176, 1177, 134, 1178, 1179, 1180, 1181, 1182, 1183, 1184, 1185, 116, 117, 1186, 1187, 1188, 1189, 1190, 1191, 1192, 1193, 1194, 1195, 1196, 1197, 101, 1198, 1199, 1200, 1201, 1202, 1203, 1204, 1205, 114, 113, 1206, 1207, 1208, 1209, 1210, 1211, 1212, 1213, 1214, 1215, 1216, 1217, 1218, 1219, 1220, 1221, 1222, 1223, 1224, 1225, 1226, 1227, 1228, 1229, 1230, 1231, 1232, 1233, 1234, 1235, 1236, 1237, 1238, 115, 1239, 1240, 1241, 1242, 1243, 1244, 1245, 1246, 1247, 1248, 1249, 1250, 1251, 1252, 1253, 1254, 1255, 1256, 1257, 1258, 1259, 1260, 1261, 1262, 1263, 1264, 1265, 1266, 1267, 1268, 1269, 1270, 1271, 1272, 1273, 1274, 1275, 1276, 1277, 1278, 1279, 1280, 1281, 1282, 1283, 1284, 118, 1285, 1286, 1287, 1288, 120, 119, 1289, 1290, 1291, 1292, 1293, 1294, 1295, 1296, 1297, 1298, 1299, 1300, 1301, 1302, 1303, 1304, 1305, 1306, 1307, 1308, 1309, 1310, 1311, 458, 459, 460, 315, 486, 487, 488, 489, 331, 332, 333, 334, 335, 336, 337, 316, 338, 339, 340, 341, 108, 490, 491, 492, 358, 359, 360, 361, 465, 466, 467, 468, 104, 469, 470, 471, 472, 298, 299, 300, 301, 869, 870, 871, 872, 105, 537, 538, 539, 540, 109, 106, 541, 497, 498, 499, 500, 107, 288, 289, 290, 291, 292, 293, 294, 295, 296, 297, 284, 285, 286, 287, 306, 307, 308, 309, 310, 311, 312, 313, 314, 317, 318, 319, 320, 321, 322, 323, 324, 325, 326, 327, 328, 329, 330, 342, 343, 344, 345, 110, 111, 346, 347, 348, 349, 350, 351, 352, 353, 354, 355, 356, 357, 461, 462, 463, 464, 473, 474, 475, 476, 477, 478, 479, 480, 481, 482, 483, 484, 485, 493, 494, 495, 496, 1446, 1447, 1448, 1449, 1450, 1451, 1452, 1453, 1454, 1455, 1456, 1457, 1458, 1459, 1460, 1461, 1462, 1463, 1464, 1465, 1466, 1467, 1468, 1469, 1470, 1471, 1472, 1473, 1474, 1475, 1476, 1477, 1478, 1479, 1480, 1481, 1482, 1483, 1484, 1485, 1486, 1487, 1488, 1489, 1490, 1491, 1492] (by decide +kernel) (by decide +kernel)
set_option maxRecDepth 20000 in
theorem gL_law_X11_run : GoodIn wsL_law (wsV RL 153 RX11 yX11_run wsX11_run) := goodIn_app (goodIn_of _ (by decide +kernel)) ggL_law_X11_run
set_option maxRecDepth 20000 in
theorem ggL_law_X10_ran : GoodIn wsL_law wsX10_ran := goodIn_r _ [1315, 29, 909, 1316, 585, 1317, 33, 1318, 1319, 1320, 505, 1439, 1440, 1441, 1442, 1443, 1444, 1445, 1498, 1499, 1500, 1501, 1502, 1503, 1504, 1505, 1506, 1507, 1508, 1509, 1510, 1511, 1512, 1513, 1514, 1515, 1516, 1517, 1518, 1519, 1520] (by decide +kernel) (by decide +kernel)
set_option maxRecDepth 20000 in
theorem gL_law_X10_ran : GoodIn wsL_law (wsV RL 154 RX10 yX10_ran wsX10_ran) := goodIn_app (goodIn_of _ (by decide +kernel)) ggL_law_X10_ran
set_option maxRecDepth 20000 in
theorem ggL_law_X11_ran : GoodIn wsL_law wsX11_ran := goodIn_r _ [1324, 133, 1185, 116, 117, 1169, 1170, 1171, 516, 490, 491, 5, 492, 1446, 1447, 1448, 1449, 1450, 1451, 1452, 1453, 1454, 1455, 1456, 1457, 1458, 1459, 1460, 1461, 1462, 1463, 1464, 1465, 1466, 1467, 1468, 1469, 1470, 1471, 1472, 1473, 1474, 1475, 1476, 1477, 1478, 1479, 1480, 1481, 1482, 1483, 1484, 1485, 1486, 1487, 1488, 1489, 1490, 1491, 1492] (by decide +kernel) (by decide +kernel)
set_option maxRecDepth 20000 in
theorem gL_law_X11_ran : GoodIn wsL_law (wsV RL 158 RX11 yX11_ran wsX11_ran) := goodIn_app (goodIn_of _ (by decide +kernel)) ggL_law_X11_ran
set_option maxRecDepth 20000 in
theorem ggL_law_X10_image : GoodIn wsL_law wsX10_image := goodIn_r _ [1328, 25, 1329, 366, 367, 368, 2, 369, 14, 154, 155, 156, 1330, 1331, 1332, 24, 1333, 1334, 65, 1335, 1336, 1337, 1338, 1339, 1340, 1341, 127, 128, 1342, 604, 605, 174, 606, 382, 182, 1343, 509, 510, 511, 183, 1344, 1345, 1439, 1440, 1441, 1442, 1443, 1444, 1445, 1496, 1497, 1549, 1550, 1551, 1552, 1553, 1554, 1555, 1556, 1557, 1558, 1559, 1560, 1521, 1522, 1523, 1524, 1561, 1562, 1563] (by decide +kernel) (by decide +kernel)
set_option maxRecDepth 20000 in
theorem gL_law_X10_image : GoodIn wsL_law (wsV RL 159 RX10 yX10_image wsX10_image) := goodIn_app (goodIn_of _ (by decide +kernel)) ggL_law_X10_image
set_option maxRecDepth 20000 in
theorem ggL_law_X11_image : GoodIn wsL_law wsX11_image := goodIn_r _ [1349, 133, 1350, 104, 105, 121, 454, 455, 456, 5, 457, 274, 147, 148, 149, 302, 303, 304, 305, 103, 1351, 1352, 1353, 1354, 1355, 1356, 1357, 1358, 1359, 298, 299, 300, 301, 1446, 1447, 1448, 1449, 1450, 1451, 1452, 1453, 1454, 1455, 1456, 1457, 1458, 1459, 1460, 1461, 1462, 1463, 1464, 1465, 1466, 1467, 1468, 1469, 1470, 1471, 1472, 1473, 1474, 1475, 1476, 1477, 1478, 1479, 1480, 1481, 1482, 1483, 1484, 1485, 1486, 1487, 1488, 1489, 1490, 1491, 1492] (by decide +kernel) (by decide +kernel)
set_option maxRecDepth 20000 in
theorem gL_law_X11_image : GoodIn wsL_law (wsV RL 162 RX11 yX11_image wsX11_image) := goodIn_app (goodIn_of _ (by decide +kernel)) ggL_law_X11_image
set_option maxRecDepth 20000 in
theorem ggL_law_X10_octet : GoodIn wsL_law wsX10_octet := goodIn_r _ [1363, 25, 1329, 1364, 1439, 1440, 1441, 1442, 1443, 1444, 1445, 1496, 1497] (by decide +kernel) (by decide +kernel)
set_option maxRecDepth 20000 in
theorem gL_law_X10_octet : GoodIn wsL_law (wsV RL 163 RX10 yX10_octet wsX10_octet) := goodIn_app (goodIn_of _ (by decide +kernel)) ggL_law_X10_octet
set_option maxRecDepth 20000 in
theorem ggL_law_X11_octet : GoodIn wsL_law wsX11_octet := goodIn_r _ [1368, 133, 1350, 121, 147, 148, 5, 149, 1446, 1447, 1448, 1449, 1450, 1451, 1452, 1453, 1454, 1455, 1456, 1457, 1458, 1459, 1460, 1461, 1462, 1463, 1464, 1465, 1466, 1467, 1468, 1469, 1470, 1471, 1472, 1473, 1474, 1475, 1476, 1477, 1478, 1479, 1480, 1481, 1482, 1483, 1484, 1485, 1486, 1487, 1488, 1489, 1490, 1491, 1492] (by decide +kernel) (by decide +kernel)
set_option maxRecDepth 20000 in
theorem gL_law_X11_octet : GoodIn wsL_law (wsV RL 166 RX11 yX11_octet wsX11_octet) := goodIn_app (goodIn_of _ (by decide +kernel)) ggL_law_X11_octet
set_option maxRecDepth 20000 in
theorem ggL_law_X10_back : GoodIn wsL_law wsX10_back := goodIn_r _ [1372, 17, 16, 506, 154, 155, 2, 156, 1373, 1374, 1375, 1376, 1377, 1378, 157, 158, 159, 1379, 1380, 1381, 370, 371, 372, 373, 1382, 1344, 1345, 160, 161, 162, 163, 14, 13, 164, 165, 166, 167, 168, 169, 11, 12, 170, 39, 40, 171, 172, 173, 174, 175, 176, 43, 44, 177, 46, 47, 48, 178, 179, 180, 181, 15, 182, 183, 184, 50, 51, 52, 53, 54, 55, 56, 57, 58, 59, 60, 1383, 1384, 1385, 1386, 185, 186, 187, 188, 189, 190, 191, 192, 193, 194, 195, 196, 197, 198, 199, 200, 201, 202, 1387, 436, 437, 438, 382, 439, 431, 432, 433, 203, 204, 205, 206, 207, 208, 209, 210, 211, 212, 213, 214, 215, 216, 217, 218, 219, 220, 221, 222, 223, 224, 225, 226, 227, 228, 229, 230, 231, 232, 233, 234, 235, 236, 237, 238, 239, 240, 241, 242, 243, 244, 245, 246, 247, 248, 249, 250, 251, 252, 253, 254, 255, 256, 257, 258, 259, 260, 261, 262, 263, 264, 265, 266, 267, 268, 269, 1439, 1440, 1441, 1442, 1443, 1444, 1445, 1549, 1550, 1551, 1552, 1553, 1554, 1555, 1556, 1557, 1558, 1559, 1560, 1521, 1522, 1523, 1524, 1561, 1562, 1563, 1525, 1526, 1527, 1528, 1529, 1530, 1531, 1532, 1533, 1534, 1535, 1536, 1537] (by decide +kernel) (by decide +kernel)
set_option maxRecDepth 20000 in
theorem gL_law_X10_back : GoodIn wsL_law (wsV RL 167 RX10 yX10_back wsX10_back) := goodIn_app (goodIn_of _ (by decide +kernel)) ggL_law_X10_back
set_option maxRecDepth 20000 in
theorem ggL_law_X11_back : GoodIn wsL_law wsX11_back := goodIn_r _ [1391, 133, 274, 134, 101, 104, 105, 147, 148, 5, 149, 1392, 1393, 1394, 1395, 275, 276, 277, 278, 279, 541, 316, 1396, 1397, 1398, 1399, 280, 281, 282, 283, 284, 285, 286, 287, 103, 288, 289, 290, 291, 292, 293, 294, 295, 296, 297, 298, 299, 300, 301, 302, 303, 304, 305, 306, 307, 308, 309, 310, 311, 312, 313, 314, 315, 317, 318, 319, 320, 321, 322, 323, 324, 325, 326, 109, 106, 108, 327, 328, 329, 330, 331, 332, 333, 334, 335, 336, 337, 338, 339, 340, 341, 342, 343, 344, 345, 110, 111, 107, 346, 347, 348, 349, 350, 351, 352, 353, 354, 355, 356, 357, 358, 359, 360, 361, 1446, 1447, 1448, 1449, 1450, 1451, 1452, 1453, 1454, 1455, 1456, 1457, 1458, 1459, 1460, 1461, 1462, 1463, 1464, 1465, 1466, 1467, 1468, 1469, 1470, 1471, 1472, 1473, 1474, 1475, 1476, 1477, 1478, 1479, 1480, 1481, 1482, 1483, 1484, 1485, 1486, 1487, 1488, 1489, 1490, 1491, 1492] (by decide +kernel) (by decide +kernel)
set_option maxRecDepth 20000 in
theorem gL_law_X11_back : GoodIn wsL_law (wsV RL 170 RX11 yX11_back wsX11_back) := goodIn_app (goodIn_of _ (by decide +kernel)) ggL_law_X11_back
set_option maxRecDepth 20000 in
theorem ggL_law_X10_copy : GoodIn wsL_law wsX10_copy := goodIn_r _ [1403, 366, 367, 368, 2, 369, 14, 154, 155, 156, 160, 161, 162, 163, 13, 164, 165, 166, 167, 168, 169, 11, 12, 170, 39, 40, 171, 172, 173, 174, 175, 176, 43, 44, 177, 46, 47, 48, 178, 179, 180, 181, 15, 182, 183, 184, 50, 51, 52, 53, 54, 55, 56, 57, 58, 59, 60, 1404, 1405, 1406, 1407, 189, 190, 191, 1408, 207, 208, 192, 193, 194, 195, 1409, 1410, 186, 187, 188, 196, 197, 198, 199, 200, 201, 202, 1411, 1412, 1413, 1414, 382, 439, 431, 432, 433, 1415, 1416, 1417, 1418, 236, 237, 238, 257, 240, 430, 242, 243, 244, 245, 1439, 1440, 1441, 1442, 1443, 1444, 1445, 1549, 1550, 1551, 1552, 1553, 1554, 1555, 1556, 1557, 1558, 1559, 1560, 1521, 1522, 1523, 1524, 1561, 1562, 1563, 1525, 1526, 1527, 1528, 1529, 1530, 1531, 1532, 1533, 1534, 1535, 1536, 1537] (by decide +kernel) (by decide +kernel)
set_option maxRecDepth 20000 in
theorem gL_law_X10_copy : GoodIn wsL_law (wsV RL 171 RX10 yX10_copy wsX10_copy) := goodIn_app (goodIn_of _ (by decide +kernel)) ggL_law_X10_copy
set_option maxRecDepth 20000 in
theorem ggL_law_X11_copy : GoodIn wsL_law wsX11_copy := goodIn_r _ [1422, 133, 274, 108, 109, 110, 111, 147, 148, 5, 149, 454, 455, 456, 457, 302, 303, 304, 305, 103, 284, 285, 286, 287, 497, 498, 499, 500, 104, 105, 106, 107, 1446, 1447, 1448, 1449, 1450, 1451, 1452, 1453, 1454, 1455, 1456, 1457, 1458, 1459, 1460, 1461, 1462, 1463, 1464, 1465, 1466, 1467, 1468, 1469, 1470, 1471, 1472, 1473, 1474, 1475, 1476, 1477, 1478, 1479, 1480, 1481, 1482, 1483, 1484, 1485, 1486, 1487, 1488, 1489, 1490, 1491, 1492] (by decide +kernel) (by decide +kernel)
set_option maxRecDepth 20000 in
theorem gL_law_X11_copy : GoodIn wsL_law (wsV RL 174 RX11 yX11_copy wsX11_copy) := goodIn_app (goodIn_of _ (by decide +kernel)) ggL_law_X11_copy
set_option maxRecDepth 20000 in
theorem ggL_law_X10_count : GoodIn wsL_law wsX10_count := goodIn_r _ [1426, 17, 1427, 1428, 1429, 2, 1430, 14, 1431, 1432, 1433, 1434, 506, 557, 1439, 1440, 1441, 1442, 1443, 1444, 1445, 1549, 1550, 1551, 1552, 1553, 1554, 1555, 1556, 1557, 1558, 1559, 1560, 1561, 1562, 1563] (by decide +kernel) (by decide +kernel)
set_option maxRecDepth 20000 in
theorem gL_law_X10_count : GoodIn wsL_law (wsV RL 175 RX10 yX10_count wsX10_count) := goodIn_app (goodIn_of _ (by decide +kernel)) ggL_law_X10_count
set_option maxRecDepth 20000 in
theorem ggL_law_X11_count : GoodIn wsL_law wsX11_count := goodIn_r _ [1438, 133, 134, 454, 455, 456, 5, 457, 274, 147, 148, 149, 302, 303, 304, 305, 103, 490, 491, 492, 298, 299, 300, 301, 1446, 1447, 1448, 1449, 1450, 1451, 1452, 1453, 1454, 1455, 1456, 1457, 1458, 1459, 1460, 1461, 1462, 1463, 1464, 1465, 1466, 1467, 1468, 1469, 1470, 1471, 1472, 1473, 1474, 1475, 1476, 1477, 1478, 1479, 1480, 1481, 1482, 1483, 1484, 1485, 1486, 1487, 1488, 1489, 1490, 1491, 1492] (by decide +kernel) (by decide +kernel)
set_option maxRecDepth 20000 in
theorem gL_law_X11_count : GoodIn wsL_law (wsV RL 178 RX11 yX11_count wsX11_count) := goodIn_app (goodIn_of _ (by decide +kernel)) ggL_law_X11_count
theorem dL_law_0 : decode cL_law 0 = .ok (.new 7, 3) := by decide +kernel
theorem dL_law_3 : decode cL_law 3 = .ok (.dup, 1) := by decide +kernel
theorem dL_law_4 : decode cL_law 4 = .ok (.invokespecial 9, 3) := by decide +kernel
theorem dL_law_7 : decode cL_law 7 = .ok (.astore_n 1, 1) := by decide +kernel
theorem dL_law_8 : decode cL_law 8 = .ok (.new 10, 3) := by decide +kernel
theorem dL_law_11 : decode cL_law 11 = .ok (.dup, 1) := by decide +kernel
theorem dL_law_12 : decode cL_law 12 = .ok (.invokespecial 12, 3) := by decide +kernel
theorem dL_law_15 : decode cL_law 15 = .ok (.astore_n 2, 1) := by decide +kernel
theorem dL_law_16 : decode cL_law 16 = .ok (.iconst 0, 1) := by decide +kernel
theorem dL_law_17 : decode cL_law 17 = .ok (.istore_n 3, 1) := by decide +kernel
theorem dL_law_18 : decode cL_law 18 = .ok (.iload_n 3, 1) := by decide +kernel
theorem dL_law_19 : decode cL_law 19 = .ok (.aload_n 0, 1) := by decide +kernel
theorem dL_law_20 : decode cL_law 20 = .ok (.arraylength, 1) := by decide +kernel
theorem dL_law_21 : decode cL_law 21 = .ok (.bipush 7, 2) := by decide +kernel
theorem dL_law_23 : decode cL_law 23 = .ok (.isub, 1) := by decide +kernel
theorem dL_law_24 : decode cL_law 24 = .ok (.if_icmp .gt 1717, 3) := by decide +kernel
theorem dL_law_27 : decode cL_law 27 = .ok (.aload_n 0, 1) := by decide +kernel
theorem dL_law_28 : decode cL_law 28 = .ok (.iload_n 3, 1) := by decide +kernel
theorem dL_law_29 : decode cL_law 29 = .ok (.iaload, 1) := by decide +kernel
theorem dL_law_30 : decode cL_law 30 = .ok (.bipush 63, 2) := by decide +kernel
theorem dL_law_32 : decode cL_law 32 = .ok (.iand, 1) := by decide +kernel
theorem dL_law_33 : decode cL_law 33 = .ok (.tableswitch 1702 0 36 #[163, 226, 249, 344, 387, 421, 454, 477, 511, 555, 598, 641, 674, 707, 740, 773, 806, 839, 862, 885, 949, 1033, 1086, 1181, 1214, 1288, 1361, 1404, 1437, 1496, 1530, 1553, 1577, 1600, 1623, 1646, 1679], 163) := by decide +kernel
theorem dL_law_196 : decode cL_law 196 = .ok (.aload_n 1, 1) := by decide +kernel
theorem dL_law_197 : decode cL_law 197 = .ok (.aload_n 0, 1) := by decide +kernel
theorem dL_law_198 : decode cL_law 198 = .ok (.iload_n 3, 1) := by decide +kernel
theorem dL_law_199 : decode cL_law 199 = .ok (.iconst 1, 1) := by decide +kernel
theorem dL_law_200 : decode cL_law 200 = .ok (.iadd, 1) := by decide +kernel
theorem dL_law_201 : decode cL_law 201 = .ok (.iaload, 1) := by decide +kernel
theorem dL_law_202 : decode cL_law 202 = .ok (.aload_n 0, 1) := by decide +kernel
theorem dL_law_203 : decode cL_law 203 = .ok (.iload_n 3, 1) := by decide +kernel
theorem dL_law_204 : decode cL_law 204 = .ok (.iconst 2, 1) := by decide +kernel
theorem dL_law_205 : decode cL_law 205 = .ok (.iadd, 1) := by decide +kernel
theorem dL_law_206 : decode cL_law 206 = .ok (.iaload, 1) := by decide +kernel
theorem dL_law_207 : decode cL_law 207 = .ok (.aload_n 0, 1) := by decide +kernel
theorem dL_law_208 : decode cL_law 208 = .ok (.iload_n 3, 1) := by decide +kernel
theorem dL_law_209 : decode cL_law 209 = .ok (.iconst 3, 1) := by decide +kernel
theorem dL_law_210 : decode cL_law 210 = .ok (.iadd, 1) := by decide +kernel
theorem dL_law_211 : decode cL_law 211 = .ok (.iaload, 1) := by decide +kernel
theorem dL_law_212 : decode cL_law 212 = .ok (.aload_n 0, 1) := by decide +kernel
theorem dL_law_213 : decode cL_law 213 = .ok (.iload_n 3, 1) := by decide +kernel
theorem dL_law_214 : decode cL_law 214 = .ok (.iconst 4, 1) := by decide +kernel
theorem dL_law_215 : decode cL_law 215 = .ok (.iadd, 1) := by decide +kernel
theorem dL_law_216 : decode cL_law 216 = .ok (.iaload, 1) := by decide +kernel
theorem dL_law_217 : decode cL_law 217 = .ok (.aload_n 0, 1) := by decide +kernel
theorem dL_law_218 : decode cL_law 218 = .ok (.iload_n 3, 1) := by decide +kernel
theorem dL_law_219 : decode cL_law 219 = .ok (.iconst 5, 1) := by decide +kernel
theorem dL_law_220 : decode cL_law 220 = .ok (.iadd, 1) := by decide +kernel
theorem dL_law_221 : decode cL_law 221 = .ok (.iaload, 1) := by decide +kernel
theorem dL_law_222 : decode cL_law 222 = .ok (.invokevirtual 13, 3) := by decide +kernel
theorem dL_law_225 : decode cL_law 225 = .ok (.aload_n 2, 1) := by decide +kernel
theorem dL_law_226 : decode cL_law 226 = .ok (.aload_n 0, 1) := by decide +kernel
theorem dL_law_227 : decode cL_law 227 = .ok (.iload_n 3, 1) := by decide +kernel
theorem dL_law_228 : decode cL_law 228 = .ok (.iconst 1, 1) := by decide +kernel
theorem dL_law_229 : decode cL_law 229 = .ok (.iadd, 1) := by decide +kernel
theorem dL_law_230 : decode cL_law 230 = .ok (.iaload, 1) := by decide +kernel
theorem dL_law_231 : decode cL_law 231 = .ok (.aload_n 0, 1) := by decide +kernel
theorem dL_law_232 : decode cL_law 232 = .ok (.iload_n 3, 1) := by decide +kernel
theorem dL_law_233 : decode cL_law 233 = .ok (.iconst 2, 1) := by decide +kernel
theorem dL_law_234 : decode cL_law 234 = .ok (.iadd, 1) := by decide +kernel
theorem dL_law_235 : decode cL_law 235 = .ok (.iaload, 1) := by decide +kernel
theorem dL_law_236 : decode cL_law 236 = .ok (.aload_n 0, 1) := by decide +kernel
theorem dL_law_237 : decode cL_law 237 = .ok (.iload_n 3, 1) := by decide +kernel
theorem dL_law_238 : decode cL_law 238 = .ok (.iconst 3, 1) := by decide +kernel
theorem dL_law_239 : decode cL_law 239 = .ok (.iadd, 1) := by decide +kernel
theorem dL_law_240 : decode cL_law 240 = .ok (.iaload, 1) := by decide +kernel
theorem dL_law_241 : decode cL_law 241 = .ok (.aload_n 0, 1) := by decide +kernel
theorem dL_law_242 : decode cL_law 242 = .ok (.iload_n 3, 1) := by decide +kernel
theorem dL_law_243 : decode cL_law 243 = .ok (.iconst 4, 1) := by decide +kernel
theorem dL_law_244 : decode cL_law 244 = .ok (.iadd, 1) := by decide +kernel
theorem dL_law_245 : decode cL_law 245 = .ok (.iaload, 1) := by decide +kernel
theorem dL_law_246 : decode cL_law 246 = .ok (.aload_n 0, 1) := by decide +kernel
theorem dL_law_247 : decode cL_law 247 = .ok (.iload_n 3, 1) := by decide +kernel
theorem dL_law_248 : decode cL_law 248 = .ok (.iconst 5, 1) := by decide +kernel
theorem dL_law_249 : decode cL_law 249 = .ok (.iadd, 1) := by decide +kernel
theorem dL_law_250 : decode cL_law 250 = .ok (.iaload, 1) := by decide +kernel
theorem dL_law_251 : decode cL_law 251 = .ok (.invokevirtual 17, 3) := by decide +kernel
theorem dL_law_254 : decode cL_law 254 = .ok (.if_icmp .eq 1481, 3) := by decide +kernel
theorem dL_law_257 : decode cL_law 257 = .ok (.iconst 0, 1) := by decide +kernel
theorem dL_law_258 : decode cL_law 258 = .ok (.ireturn, 1) := by decide +kernel
theorem dL_law_259 : decode cL_law 259 = .ok (.aload_n 1, 1) := by decide +kernel
theorem dL_law_260 : decode cL_law 260 = .ok (.aload_n 0, 1) := by decide +kernel
theorem dL_law_261 : decode cL_law 261 = .ok (.iload_n 3, 1) := by decide +kernel
theorem dL_law_262 : decode cL_law 262 = .ok (.iconst 1, 1) := by decide +kernel
theorem dL_law_263 : decode cL_law 263 = .ok (.iadd, 1) := by decide +kernel
theorem dL_law_264 : decode cL_law 264 = .ok (.iaload, 1) := by decide +kernel
theorem dL_law_265 : decode cL_law 265 = .ok (.invokevirtual 18, 3) := by decide +kernel
theorem dL_law_268 : decode cL_law 268 = .ok (.aload_n 2, 1) := by decide +kernel
theorem dL_law_269 : decode cL_law 269 = .ok (.aload_n 0, 1) := by decide +kernel
theorem dL_law_270 : decode cL_law 270 = .ok (.iload_n 3, 1) := by decide +kernel
theorem dL_law_271 : decode cL_law 271 = .ok (.iconst 1, 1) := by decide +kernel
theorem dL_law_272 : decode cL_law 272 = .ok (.iadd, 1) := by decide +kernel
theorem dL_law_273 : decode cL_law 273 = .ok (.iaload, 1) := by decide +kernel
theorem dL_law_274 : decode cL_law 274 = .ok (.invokevirtual 22, 3) := by decide +kernel
theorem dL_law_277 : decode cL_law 277 = .ok (.if_icmp .eq 1458, 3) := by decide +kernel
theorem dL_law_280 : decode cL_law 280 = .ok (.iconst 0, 1) := by decide +kernel
theorem dL_law_281 : decode cL_law 281 = .ok (.ireturn, 1) := by decide +kernel
theorem dL_law_282 : decode cL_law 282 = .ok (.aload_n 1, 1) := by decide +kernel
theorem dL_law_283 : decode cL_law 283 = .ok (.aload_n 0, 1) := by decide +kernel
theorem dL_law_284 : decode cL_law 284 = .ok (.iload_n 3, 1) := by decide +kernel
theorem dL_law_285 : decode cL_law 285 = .ok (.iconst 1, 1) := by decide +kernel
theorem dL_law_286 : decode cL_law 286 = .ok (.iadd, 1) := by decide +kernel
theorem dL_law_287 : decode cL_law 287 = .ok (.iaload, 1) := by decide +kernel
theorem dL_law_288 : decode cL_law 288 = .ok (.aload_n 0, 1) := by decide +kernel
theorem dL_law_289 : decode cL_law 289 = .ok (.iload_n 3, 1) := by decide +kernel
theorem dL_law_290 : decode cL_law 290 = .ok (.iconst 2, 1) := by decide +kernel
theorem dL_law_291 : decode cL_law 291 = .ok (.iadd, 1) := by decide +kernel
theorem dL_law_292 : decode cL_law 292 = .ok (.iaload, 1) := by decide +kernel
theorem dL_law_293 : decode cL_law 293 = .ok (.aload_n 0, 1) := by decide +kernel
theorem dL_law_294 : decode cL_law 294 = .ok (.iload_n 3, 1) := by decide +kernel
theorem dL_law_295 : decode cL_law 295 = .ok (.iconst 3, 1) := by decide +kernel
theorem dL_law_296 : decode cL_law 296 = .ok (.iadd, 1) := by decide +kernel
theorem dL_law_297 : decode cL_law 297 = .ok (.iaload, 1) := by decide +kernel
theorem dL_law_298 : decode cL_law 298 = .ok (.aload_n 0, 1) := by decide +kernel
theorem dL_law_299 : decode cL_law 299 = .ok (.iload_n 3, 1) := by decide +kernel
theorem dL_law_300 : decode cL_law 300 = .ok (.iconst 4, 1) := by decide +kernel
theorem dL_law_301 : decode cL_law 301 = .ok (.iadd, 1) := by decide +kernel
theorem dL_law_302 : decode cL_law 302 = .ok (.iaload, 1) := by decide +kernel
theorem dL_law_303 : decode cL_law 303 = .ok (.aload_n 0, 1) := by decide +kernel
theorem dL_law_304 : decode cL_law 304 = .ok (.iload_n 3, 1) := by decide +kernel
theorem dL_law_305 : decode cL_law 305 = .ok (.iconst 5, 1) := by decide +kernel
theorem dL_law_306 : decode cL_law 306 = .ok (.iadd, 1) := by decide +kernel
theorem dL_law_307 : decode cL_law 307 = .ok (.iaload, 1) := by decide +kernel
theorem dL_law_308 : decode cL_law 308 = .ok (.i2l, 1) := by decide +kernel
theorem dL_law_309 : decode cL_law 309 = .ok (.bipush 32, 2) := by decide +kernel
theorem dL_law_311 : decode cL_law 311 = .ok (.lshl, 1) := by decide +kernel
theorem dL_law_312 : decode cL_law 312 = .ok (.aload_n 0, 1) := by decide +kernel
theorem dL_law_313 : decode cL_law 313 = .ok (.iload_n 3, 1) := by decide +kernel
theorem dL_law_314 : decode cL_law 314 = .ok (.bipush 6, 2) := by decide +kernel
theorem dL_law_316 : decode cL_law 316 = .ok (.iadd, 1) := by decide +kernel
theorem dL_law_317 : decode cL_law 317 = .ok (.iaload, 1) := by decide +kernel
theorem dL_law_318 : decode cL_law 318 = .ok (.i2l, 1) := by decide +kernel
theorem dL_law_319 : decode cL_law 319 = .ok (.ldc2_w 23, 3) := by decide +kernel
theorem dL_law_322 : decode cL_law 322 = .ok (.land, 1) := by decide +kernel
theorem dL_law_323 : decode cL_law 323 = .ok (.lor, 1) := by decide +kernel
theorem dL_law_324 : decode cL_law 324 = .ok (.invokevirtual 25, 3) := by decide +kernel
theorem dL_law_327 : decode cL_law 327 = .ok (.aload_n 2, 1) := by decide +kernel
theorem dL_law_328 : decode cL_law 328 = .ok (.aload_n 0, 1) := by decide +kernel
theorem dL_law_329 : decode cL_law 329 = .ok (.iload_n 3, 1) := by decide +kernel
theorem dL_law_330 : decode cL_law 330 = .ok (.iconst 1, 1) := by decide +kernel
theorem dL_law_331 : decode cL_law 331 = .ok (.iadd, 1) := by decide +kernel
theorem dL_law_332 : decode cL_law 332 = .ok (.iaload, 1) := by decide +kernel
theorem dL_law_333 : decode cL_law 333 = .ok (.aload_n 0, 1) := by decide +kernel
theorem dL_law_334 : decode cL_law 334 = .ok (.iload_n 3, 1) := by decide +kernel
theorem dL_law_335 : decode cL_law 335 = .ok (.iconst 2, 1) := by decide +kernel
theorem dL_law_336 : decode cL_law 336 = .ok (.iadd, 1) := by decide +kernel
theorem dL_law_337 : decode cL_law 337 = .ok (.iaload, 1) := by decide +kernel
theorem dL_law_338 : decode cL_law 338 = .ok (.aload_n 0, 1) := by decide +kernel
theorem dL_law_339 : decode cL_law 339 = .ok (.iload_n 3, 1) := by decide +kernel
theorem dL_law_340 : decode cL_law 340 = .ok (.iconst 3, 1) := by decide +kernel
theorem dL_law_341 : decode cL_law 341 = .ok (.iadd, 1) := by decide +kernel
theorem dL_law_342 : decode cL_law 342 = .ok (.iaload, 1) := by decide +kernel
theorem dL_law_343 : decode cL_law 343 = .ok (.aload_n 0, 1) := by decide +kernel
theorem dL_law_344 : decode cL_law 344 = .ok (.iload_n 3, 1) := by decide +kernel
theorem dL_law_345 : decode cL_law 345 = .ok (.iconst 4, 1) := by decide +kernel
theorem dL_law_346 : decode cL_law 346 = .ok (.iadd, 1) := by decide +kernel
theorem dL_law_347 : decode cL_law 347 = .ok (.iaload, 1) := by decide +kernel
theorem dL_law_348 : decode cL_law 348 = .ok (.aload_n 0, 1) := by decide +kernel
theorem dL_law_349 : decode cL_law 349 = .ok (.iload_n 3, 1) := by decide +kernel
theorem dL_law_350 : decode cL_law 350 = .ok (.iconst 5, 1) := by decide +kernel
theorem dL_law_351 : decode cL_law 351 = .ok (.iadd, 1) := by decide +kernel
theorem dL_law_352 : decode cL_law 352 = .ok (.iaload, 1) := by decide +kernel
theorem dL_law_353 : decode cL_law 353 = .ok (.i2l, 1) := by decide +kernel
theorem dL_law_354 : decode cL_law 354 = .ok (.bipush 32, 2) := by decide +kernel
theorem dL_law_356 : decode cL_law 356 = .ok (.lshl, 1) := by decide +kernel
theorem dL_law_357 : decode cL_law 357 = .ok (.aload_n 0, 1) := by decide +kernel
theorem dL_law_358 : decode cL_law 358 = .ok (.iload_n 3, 1) := by decide +kernel
theorem dL_law_359 : decode cL_law 359 = .ok (.bipush 6, 2) := by decide +kernel
theorem dL_law_361 : decode cL_law 361 = .ok (.iadd, 1) := by decide +kernel
theorem dL_law_362 : decode cL_law 362 = .ok (.iaload, 1) := by decide +kernel
theorem dL_law_363 : decode cL_law 363 = .ok (.i2l, 1) := by decide +kernel
theorem dL_law_364 : decode cL_law 364 = .ok (.ldc2_w 23, 3) := by decide +kernel
theorem dL_law_367 : decode cL_law 367 = .ok (.land, 1) := by decide +kernel
theorem dL_law_368 : decode cL_law 368 = .ok (.lor, 1) := by decide +kernel
theorem dL_law_369 : decode cL_law 369 = .ok (.invokevirtual 29, 3) := by decide +kernel
theorem dL_law_372 : decode cL_law 372 = .ok (.if_icmp .eq 1363, 3) := by decide +kernel
theorem dL_law_375 : decode cL_law 375 = .ok (.iconst 0, 1) := by decide +kernel
theorem dL_law_376 : decode cL_law 376 = .ok (.ireturn, 1) := by decide +kernel
theorem dL_law_377 : decode cL_law 377 = .ok (.aload_n 1, 1) := by decide +kernel
theorem dL_law_378 : decode cL_law 378 = .ok (.aload_n 0, 1) := by decide +kernel
theorem dL_law_379 : decode cL_law 379 = .ok (.iload_n 3, 1) := by decide +kernel
theorem dL_law_380 : decode cL_law 380 = .ok (.iconst 1, 1) := by decide +kernel
theorem dL_law_381 : decode cL_law 381 = .ok (.iadd, 1) := by decide +kernel
theorem dL_law_382 : decode cL_law 382 = .ok (.iaload, 1) := by decide +kernel
theorem dL_law_383 : decode cL_law 383 = .ok (.aload_n 0, 1) := by decide +kernel
theorem dL_law_384 : decode cL_law 384 = .ok (.iload_n 3, 1) := by decide +kernel
theorem dL_law_385 : decode cL_law 385 = .ok (.iconst 2, 1) := by decide +kernel
theorem dL_law_386 : decode cL_law 386 = .ok (.iadd, 1) := by decide +kernel
theorem dL_law_387 : decode cL_law 387 = .ok (.iaload, 1) := by decide +kernel
theorem dL_law_388 : decode cL_law 388 = .ok (.aload_n 0, 1) := by decide +kernel
theorem dL_law_389 : decode cL_law 389 = .ok (.iload_n 3, 1) := by decide +kernel
theorem dL_law_390 : decode cL_law 390 = .ok (.iconst 3, 1) := by decide +kernel
theorem dL_law_391 : decode cL_law 391 = .ok (.iadd, 1) := by decide +kernel
theorem dL_law_392 : decode cL_law 392 = .ok (.iaload, 1) := by decide +kernel
theorem dL_law_393 : decode cL_law 393 = .ok (.invokevirtual 30, 3) := by decide +kernel
theorem dL_law_396 : decode cL_law 396 = .ok (.aload_n 2, 1) := by decide +kernel
theorem dL_law_397 : decode cL_law 397 = .ok (.aload_n 0, 1) := by decide +kernel
theorem dL_law_398 : decode cL_law 398 = .ok (.iload_n 3, 1) := by decide +kernel
theorem dL_law_399 : decode cL_law 399 = .ok (.iconst 1, 1) := by decide +kernel
theorem dL_law_400 : decode cL_law 400 = .ok (.iadd, 1) := by decide +kernel
theorem dL_law_401 : decode cL_law 401 = .ok (.iaload, 1) := by decide +kernel
theorem dL_law_402 : decode cL_law 402 = .ok (.aload_n 0, 1) := by decide +kernel
theorem dL_law_403 : decode cL_law 403 = .ok (.iload_n 3, 1) := by decide +kernel
theorem dL_law_404 : decode cL_law 404 = .ok (.iconst 2, 1) := by decide +kernel
theorem dL_law_405 : decode cL_law 405 = .ok (.iadd, 1) := by decide +kernel
theorem dL_law_406 : decode cL_law 406 = .ok (.iaload, 1) := by decide +kernel
theorem dL_law_407 : decode cL_law 407 = .ok (.aload_n 0, 1) := by decide +kernel
theorem dL_law_408 : decode cL_law 408 = .ok (.iload_n 3, 1) := by decide +kernel
theorem dL_law_409 : decode cL_law 409 = .ok (.iconst 3, 1) := by decide +kernel
theorem dL_law_410 : decode cL_law 410 = .ok (.iadd, 1) := by decide +kernel
theorem dL_law_411 : decode cL_law 411 = .ok (.iaload, 1) := by decide +kernel
theorem dL_law_412 : decode cL_law 412 = .ok (.invokevirtual 34, 3) := by decide +kernel
