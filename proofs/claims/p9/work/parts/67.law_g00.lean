set_option maxRecDepth 20000 in
theorem ig_X0 : GoodIn lw_tbl (u_ws RX0 TX0 6) := goodIn_r _ [196, 198, 200, 202, 204, 206] (by decide +kernel) (by decide +kernel)
theorem in_X0 : ∀ w ∈ u_ws RX0 TX0 6, w ∈ lw_tbl := fun w h => (ig_X0 w h).1
set_option maxRecDepth 20000 in
theorem ig_X1 : GoodIn lw_tbl (u_ws RX1 TX1 6) := goodIn_r _ [407, 409, 411, 413, 415, 417] (by decide +kernel) (by decide +kernel)
theorem in_X1 : ∀ w ∈ u_ws RX1 TX1 6, w ∈ lw_tbl := fun w h => (ig_X1 w h).1
set_option maxRecDepth 20000 in
theorem ig_X2 : GoodIn lw_tbl (u_ws RX2 TX2 11) := goodIn_r _ [275, 277, 279, 281, 283, 285, 287, 289, 291, 293, 295] (by decide +kernel) (by decide +kernel)
theorem in_X2 : ∀ w ∈ u_ws RX2 TX2 11, w ∈ lw_tbl := fun w h => (ig_X2 w h).1
set_option maxRecDepth 20000 in
theorem ig_X3 : GoodIn lw_tbl (u_ws RX3 TX3 10) := goodIn_r _ [503, 505, 507, 509, 511, 513, 515, 517, 519, 521] (by decide +kernel) (by decide +kernel)
theorem in_X3 : ∀ w ∈ u_ws RX3 TX3 10, w ∈ lw_tbl := fun w h => (ig_X3 w h).1
set_option maxRecDepth 20000 in
theorem ig_X4 : GoodIn lw_tbl (u_ws RX4 TX4 10) := goodIn_r _ [229, 231, 233, 235, 237, 239, 241, 243, 245, 247] (by decide +kernel) (by decide +kernel)
theorem in_X4 : ∀ w ∈ u_ws RX4 TX4 10, w ∈ lw_tbl := fun w h => (ig_X4 w h).1
set_option maxRecDepth 20000 in
theorem ig_X5 : GoodIn lw_tbl (u_ws RX5 TX5 10) := goodIn_r _ [323, 325, 327, 329, 331, 333, 335, 337, 339, 341] (by decide +kernel) (by decide +kernel)
theorem in_X5 : ∀ w ∈ u_ws RX5 TX5 10, w ∈ lw_tbl := fun w h => (ig_X5 w h).1
set_option maxRecDepth 20000 in
theorem ig_X6 : GoodIn lw_tbl (u_ws RX6 TX6 7) := goodIn_r _ [360, 362, 364, 366, 368, 370, 372] (by decide +kernel) (by decide +kernel)
theorem in_X6 : ∀ w ∈ u_ws RX6 TX6 7, w ∈ lw_tbl := fun w h => (ig_X6 w h).1
set_option maxRecDepth 20000 in
theorem ig_X7 : GoodIn lw_tbl (u_ws RX7 TX7 6) := goodIn_r _ [445, 447, 449, 451, 453, 455] (by decide +kernel) (by decide +kernel)
theorem in_X7 : ∀ w ∈ u_ws RX7 TX7 6, w ∈ lw_tbl := fun w h => (ig_X7 w h).1
set_option maxRecDepth 20000 in
theorem ig_X8 : GoodIn lw_tbl (u_ws RX8 TX8 9) := goodIn_r _ [468, 470, 472, 474, 476, 478, 480, 482, 484] (by decide +kernel) (by decide +kernel)
theorem in_X8 : ∀ w ∈ u_ws RX8 TX8 9, w ∈ lw_tbl := fun w h => (ig_X8 w h).1
set_option maxRecDepth 20000 in
theorem ig_X9 : GoodIn lw_tbl (u_ws RX9 TX9 4) := goodIn_r _ [386, 388, 390, 392] (by decide +kernel) (by decide +kernel)
theorem in_X9 : ∀ w ∈ u_ws RX9 TX9 4, w ∈ lw_tbl := fun w h => (ig_X9 w h).1
set_option maxRecDepth 20000 in
theorem ig_X10 : GoodIn lw_tbl (u_ws RX10 TX10 11) := goodIn_r _ [153, 155, 157, 159, 161, 163, 165, 167, 169, 171, 173] (by decide +kernel) (by decide +kernel)
theorem in_X10 : ∀ w ∈ u_ws RX10 TX10 11, w ∈ lw_tbl := fun w h => (ig_X10 w h).1
set_option maxRecDepth 20000 in
theorem ig_X11 : GoodIn lw_tbl (u_ws RX11 TX11 10) := goodIn_r _ [534, 536, 538, 540, 542, 544, 546, 548, 550, 552] (by decide +kernel) (by decide +kernel)
theorem in_X11 : ∀ w ∈ u_ws RX11 TX11 10, w ∈ lw_tbl := fun w h => (ig_X11 w h).1
set_option maxRecDepth 20000 in
theorem ig_X12 : GoodIn lw_tbl (u_ws RX12 TX12 70) := goodIn_r _ [1312, 1314, 1316, 1318, 1320, 1322, 1324, 1326, 1328, 1330, 1332, 1334, 1336, 1338, 1340, 1342, 1344, 1346, 1348, 1350, 1352, 1354, 1356, 1358, 1360, 1362, 1364, 1366, 1368, 1370, 1372, 1374, 1376, 1378, 1380, 1382, 1384, 1386, 1388, 1390, 1392, 1394, 1396, 1398, 1400, 1402, 1404, 1406, 1408, 1410, 1412, 1414, 1416, 1418, 1420, 1422, 1424, 1426, 1428, 1430, 1432, 1434, 1436, 1438, 1440, 1442, 1444, 1446, 1448, 1450] (by decide +kernel) (by decide +kernel)
theorem in_X12 : ∀ w ∈ u_ws RX12 TX12 70, w ∈ lw_tbl := fun w h => (ig_X12 w h).1
