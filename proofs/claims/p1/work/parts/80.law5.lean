set_option maxRecDepth 20000 in
theorem ggL_law_X11_init : GoodIn wsL_law wsX11_init := goodIn_r _ [9, 10, 11, 12, 13, 14, 15, 16, 17, 18, 19, 20, 21, 22, 23, 24, 25, 26, 27, 28, 29, 30, 31, 32, 33, 34, 35, 36, 37, 38, 39, 40, 41, 42, 43, 44, 45, 46, 47, 48, 49, 50, 51, 52, 53, 54, 55, 56, 57, 58, 59, 60, 61, 62, 63, 64, 65, 66, 67, 68, 69, 70, 71, 72, 73, 74, 75, 1213, 1214, 1215, 1216, 1217, 1218, 1219, 1154, 1155, 1156, 1157, 1158, 1159, 1160, 1161, 1162, 1163, 1164, 1165, 1166, 1167, 1220, 1221, 1222, 1223, 1224, 1225, 1226, 1227, 1228, 1229, 1230, 1231, 1232, 1233, 1234, 1235, 1236, 1237, 1238, 1239, 1240, 1241, 1242, 1243, 1244, 1245, 1246] (by decide +kernel) (by decide +kernel)
set_option maxRecDepth 20000 in
theorem gL_law_X11_init : GoodIn wsL_law (wsX11_init) := ggL_law_X11_init
set_option maxRecDepth 20000 in
theorem ggL_law_X12_init : GoodIn wsL_law wsX12_init := goodIn_r _ [78, 79, 11, 12, 28, 80, 81, 82, 83, 84, 85, 86, 87, 88, 89, 90, 91, 92, 93, 94, 95, 96, 97, 98, 99, 100, 101, 102, 103, 104, 105, 106, 107, 108, 109, 110, 73, 111, 112, 1168, 1169, 1170, 1171, 1172, 1173, 1174, 1175, 1176, 1177, 1178, 1179, 1180, 1181, 1182, 1183, 1184, 1185, 1186, 1187, 1188, 1189, 1190, 1191, 1192, 1193, 1194, 1195, 1196, 1197, 1198, 1199, 1200, 1201, 1202, 1203, 1204, 1205, 1206, 1207, 1208, 1209, 1210, 1211, 1212] (by decide +kernel) (by decide +kernel)
set_option maxRecDepth 20000 in
theorem gL_law_X12_init : GoodIn wsL_law (wsX12_init) := ggL_law_X12_init
set_option maxRecDepth 20000 in
theorem ggL_law_X11_write : GoodIn wsL_law wsX11_write := goodIn_r _ [116, 20, 117, 118, 119, 120, 19, 121, 122, 123, 124, 125, 126, 51, 127, 1154, 1155, 1156, 1157, 1158, 1159, 1160, 1161, 1162, 1163, 1164, 1165, 1166, 1167, 1220, 1221, 1222, 1223, 1224, 1225, 1226, 1227, 1228, 1229] (by decide +kernel) (by decide +kernel)
set_option maxRecDepth 20000 in
theorem gL_law_X11_write : GoodIn wsL_law (wsV RL 13 RX11 yX11_write wsX11_write) := goodIn_app (goodIn_of _ (by decide +kernel)) ggL_law_X11_write
set_option maxRecDepth 20000 in
theorem ggL_law_X12_write : GoodIn wsL_law wsX12_write := goodIn_r _ [131, 132, 133, 92, 134, 135, 5, 136, 1168, 1169, 1170, 1171, 1172, 1173, 1174, 1175, 1176, 1177, 1178, 1179, 1180, 1181, 1182, 1183, 1184, 1185, 1186, 1187, 1188, 1189, 1190, 1191, 1192, 1193, 1194, 1195, 1196, 1197, 1198, 1199, 1200, 1201, 1202, 1203, 1204, 1205, 1206, 1207, 1208, 1209, 1210, 1211, 1212] (by decide +kernel) (by decide +kernel)
set_option maxRecDepth 20000 in
theorem gL_law_X12_write : GoodIn wsL_law (wsV RL 17 RX12 yX12_write wsX12_write) := goodIn_app (goodIn_of _ (by decide +kernel)) ggL_law_X12_write
set_option maxRecDepth 20000 in
theorem ggL_law_X11_erase : GoodIn wsL_law wsX11_erase := goodIn_r _ [140, 20, 117, 1154, 1155, 1156, 1157, 1158, 1159, 1160, 1161, 1162, 1163, 1164, 1165, 1166, 1167, 1220, 1221, 1222, 1223, 1224, 1225, 1226, 1227, 1228, 1229] (by decide +kernel) (by decide +kernel)
set_option maxRecDepth 20000 in
theorem gL_law_X11_erase : GoodIn wsL_law (wsV RL 18 RX11 yX11_erase wsX11_erase) := goodIn_app (goodIn_of _ (by decide +kernel)) ggL_law_X11_erase
set_option maxRecDepth 20000 in
theorem ggL_law_X12_erase : GoodIn wsL_law wsX12_erase := goodIn_r _ [144, 133, 1168, 1169, 1170, 1171, 1172, 1173, 1174, 1175, 1176, 1177, 1178, 1179, 1180, 1181, 1182, 1183, 1184, 1185, 1186, 1187, 1188, 1189, 1190, 1191, 1192, 1193, 1194, 1195, 1196, 1197, 1198, 1199, 1200, 1201, 1202, 1203, 1204, 1205, 1206, 1207, 1208, 1209, 1210, 1211, 1212] (by decide +kernel) (by decide +kernel)
set_option maxRecDepth 20000 in
theorem gL_law_X12_erase : GoodIn wsL_law (wsV RL 22 RX12 yX12_erase wsX12_erase) := goodIn_app (goodIn_of _ (by decide +kernel)) ggL_law_X12_erase
set_option maxRecDepth 20000 in
theorem ggL_law_X11_fault : GoodIn wsL_law wsX11_fault := goodIn_r _ [148, 20, 16, 149, 150, 151, 19, 152, 153, 154, 155, 156, 157, 158, 159, 160, 161, 122, 162, 163, 164, 165, 166, 167, 168, 169, 51, 170, 171, 172, 173, 174, 175, 176, 52, 177, 53, 178, 179, 180, 181, 182, 183, 184, 185, 186, 187, 188, 189, 190, 191, 192, 193, 194, 195, 196, 197, 198, 199, 200, 201, 202, 203, 204, 205, 206, 207, 208, 209, 210, 211, 212, 213, 214, 215, 216, 217, 218, 219, 220, 221, 222, 223, 224, 225, 226, 227, 228, 229, 230, 231, 232, 233, 234, 235, 236, 237, 238, 239, 240, 241, 242, 243, 244, 245, 1154, 1155, 1156, 1157, 1158, 1159, 1160, 1161, 1162, 1163, 1164, 1165, 1166, 1167, 1220, 1221, 1222, 1223, 1224, 1225, 1226, 1227, 1228, 1229, 1213, 1214, 1215, 1216, 1217, 1218, 1219] (by decide +kernel) (by decide +kernel)
set_option maxRecDepth 20000 in
theorem gL_law_X11_fault : GoodIn wsL_law (wsV RL 23 RX11 yX11_fault wsX11_fault) := goodIn_app (goodIn_of _ (by decide +kernel)) ggL_law_X11_fault
set_option maxRecDepth 20000 in
theorem ggL_law_X12_fault : GoodIn wsL_law wsX12_fault := goodIn_r _ [249, 250, 251, 252, 253, 5, 254, 255, 256, 257, 258, 259, 260, 261, 262, 263, 133, 92, 264, 265, 266, 267, 268, 269, 270, 271, 272, 134, 135, 136, 273, 274, 275, 276, 277, 278, 279, 280, 281, 100, 101, 102, 103, 282, 283, 284, 285, 96, 97, 98, 99, 286, 287, 288, 289, 290, 291, 292, 293, 95, 83, 84, 85, 294, 295, 296, 297, 298, 299, 300, 301, 302, 303, 304, 305, 91, 306, 307, 308, 309, 86, 87, 88, 89, 310, 311, 312, 313, 90, 314, 315, 316, 317, 1168, 1169, 1170, 1171, 1172, 1173, 1174, 1175, 1176, 1177, 1178, 1179, 1180, 1181, 1182, 1183, 1184, 1185, 1186, 1187, 1188, 1189, 1190, 1191, 1192, 1193, 1194, 1195, 1196, 1197, 1198, 1199, 1200, 1201, 1202, 1203, 1204, 1205, 1206, 1207, 1208, 1209, 1210, 1211, 1212] (by decide +kernel) (by decide +kernel)
set_option maxRecDepth 20000 in
theorem gL_law_X12_fault : GoodIn wsL_law (wsV RL 26 RX12 yX12_fault wsX12_fault) := goodIn_app (goodIn_of _ (by decide +kernel)) ggL_law_X12_fault
set_option maxRecDepth 20000 in
theorem ggL_law_X11_land : GoodIn wsL_law wsX11_land := goodIn_r _ [321, 20, 16, 322, 117, 24, 323, 324, 325, 149, 150, 151, 19, 152, 153, 154, 155, 156, 157, 158, 159, 160, 161, 122, 162, 163, 164, 165, 166, 167, 168, 169, 51, 170, 171, 172, 173, 174, 175, 176, 52, 177, 53, 178, 179, 180, 181, 182, 183, 184, 185, 186, 187, 188, 189, 190, 191, 192, 193, 194, 195, 196, 197, 198, 199, 200, 201, 202, 203, 204, 205, 206, 207, 208, 209, 210, 211, 212, 213, 214, 215, 216, 217, 218, 219, 220, 221, 222, 223, 224, 225, 226, 227, 228, 229, 230, 231, 232, 233, 234, 235, 236, 237, 238, 239, 240, 241, 242, 243, 244, 245, 326, 327, 328, 2, 329, 330, 331, 332, 333, 334, 335, 336, 337, 338, 339, 340, 341, 342, 343, 344, 345, 346, 347, 348, 349, 350, 351, 352, 353, 354, 355, 356, 15, 357, 358, 359, 360, 47, 361, 362, 363, 364, 365, 366, 367, 368, 11, 12, 369, 370, 371, 372, 373, 374, 43, 375, 376, 377, 378, 379, 380, 381, 382, 383, 384, 385, 386, 387, 388, 389, 390, 391, 392, 393, 394, 395, 396, 397, 398, 45, 399, 400, 401, 402, 46, 403, 404, 405, 23, 406, 407, 408, 409, 57, 58, 59, 410, 60, 1154, 1155, 1156, 1157, 1158, 1159, 1160, 1161, 1162, 1163, 1164, 1165, 1166, 1167, 1220, 1221, 1222, 1223, 1224, 1225, 1226, 1227, 1228, 1229, 1213, 1214, 1215, 1216, 1217, 1218, 1219, 1247, 1248, 1249, 1250, 1251, 1252, 1253, 1254, 1255, 1256, 1257, 1258, 1230, 1231, 1232, 1233, 1234, 1235, 1236] (by decide +kernel) (by decide +kernel)
set_option maxRecDepth 20000 in
theorem gL_law_X11_land : GoodIn wsL_law (wsV RL 27 RX11 yX11_land wsX11_land) := goodIn_app (goodIn_of _ (by decide +kernel)) ggL_law_X11_land
set_option maxRecDepth 20000 in
theorem ggL_law_X12_land : GoodIn wsL_law wsX12_land := goodIn_r _ [414, 133, 80, 262, 90, 415, 82, 416, 257, 251, 252, 253, 5, 254, 255, 256, 258, 259, 260, 261, 263, 250, 92, 264, 265, 266, 267, 268, 269, 270, 271, 272, 134, 135, 136, 273, 274, 275, 276, 277, 278, 279, 280, 281, 100, 101, 102, 103, 282, 283, 284, 285, 96, 97, 98, 99, 286, 287, 288, 289, 290, 291, 292, 293, 95, 83, 84, 85, 294, 295, 296, 297, 298, 299, 300, 301, 302, 303, 304, 305, 91, 306, 307, 308, 309, 86, 87, 88, 89, 310, 311, 312, 313, 314, 315, 316, 317, 1168, 1169, 1170, 1171, 1172, 1173, 1174, 1175, 1176, 1177, 1178, 1179, 1180, 1181, 1182, 1183, 1184, 1185, 1186, 1187, 1188, 1189, 1190, 1191, 1192, 1193, 1194, 1195, 1196, 1197, 1198, 1199, 1200, 1201, 1202, 1203, 1204, 1205, 1206, 1207, 1208, 1209, 1210, 1211, 1212] (by decide +kernel) (by decide +kernel)
set_option maxRecDepth 20000 in
theorem gL_law_X12_land : GoodIn wsL_law (wsV RL 30 RX12 yX12_land wsX12_land) := goodIn_app (goodIn_of _ (by decide +kernel)) ggL_law_X12_land
set_option maxRecDepth 20000 in
theorem ggL_law_X11_key : GoodIn wsL_law wsX11_key := goodIn_r _ [420, 16, 421, 422, 24, 423, 424, 425, 15, 426, 358, 43, 427, 428, 429, 430, 332, 431, 432, 433, 341, 434, 435, 436, 338, 437, 438, 439, 335, 440, 441, 442, 443, 23, 444, 57, 445, 446, 447, 448, 58, 449, 450, 451, 452, 453, 454, 455, 456, 457, 366, 458, 369, 459, 460, 461, 462, 463, 464, 465, 466, 467, 468, 469, 470, 471, 472, 473, 474, 475, 476, 477, 478, 479, 480, 2, 481, 1154, 1155, 1156, 1157, 1158, 1159, 1160, 1161, 1162, 1163, 1164, 1165, 1166, 1167, 1247, 1248, 1253, 1254, 1251, 1252, 1249, 1250, 1213, 1214, 1215, 1216, 1217, 1218, 1219, 1230, 1231, 1232, 1233, 1234, 1235, 1236] (by decide +kernel) (by decide +kernel)
set_option maxRecDepth 20000 in
theorem gL_law_X11_key : GoodIn wsL_law (wsV RL 31 RX11 yX11_key wsX11_key) := goodIn_app (goodIn_of _ (by decide +kernel)) ggL_law_X11_key
set_option maxRecDepth 20000 in
theorem ggL_law_X12_key : GoodIn wsL_law wsX12_key := goodIn_r _ [485, 83, 84, 85, 80, 486, 487, 488, 5, 489, 258, 134, 135, 136, 490, 491, 492, 493, 494, 495, 496, 497, 498, 499, 500, 501, 502, 503, 504, 505, 506, 1168, 1169, 1170, 1171, 1172, 1173, 1174, 1175, 1176, 1177, 1178, 1179, 1180, 1181, 1182, 1183, 1184, 1185, 1186, 1187, 1188, 1189, 1190, 1191, 1192, 1193, 1194, 1195, 1196, 1197, 1198, 1199, 1200, 1201, 1202, 1203, 1204, 1205, 1206, 1207, 1208, 1209, 1210, 1211, 1212] (by decide +kernel) (by decide +kernel)
set_option maxRecDepth 20000 in
theorem gL_law_X12_key : GoodIn wsL_law (wsV RL 35 RX12 yX12_key wsX12_key) := goodIn_app (goodIn_of _ (by decide +kernel)) ggL_law_X12_key
set_option maxRecDepth 20000 in
theorem ggL_law_X11_lock : GoodIn wsL_law wsX11_lock := goodIn_r _ [510, 16, 511, 512, 513, 514, 24, 515, 516, 517, 15, 518, 359, 45, 519, 520, 521, 23, 522, 409, 1154, 1155, 1156, 1157, 1158, 1159, 1160, 1161, 1162, 1163, 1164, 1165, 1166, 1167, 1255, 1256, 1257, 1258, 1213, 1214, 1215, 1216, 1217, 1218, 1219, 1230, 1231, 1232, 1233, 1234, 1235, 1236] (by decide +kernel) (by decide +kernel)
set_option maxRecDepth 20000 in
theorem gL_law_X11_lock : GoodIn wsL_law (wsV RL 36 RX11 yX11_lock wsX11_lock) := goodIn_app (goodIn_of _ (by decide +kernel)) ggL_law_X11_lock
set_option maxRecDepth 20000 in
theorem ggL_law_X12_lock : GoodIn wsL_law wsX12_lock := goodIn_r _ [526, 86, 87, 88, 89, 80, 527, 528, 529, 5, 530, 260, 134, 135, 136, 1168, 1169, 1170, 1171, 1172, 1173, 1174, 1175, 1176, 1177, 1178, 1179, 1180, 1181, 1182, 1183, 1184, 1185, 1186, 1187, 1188, 1189, 1190, 1191, 1192, 1193, 1194, 1195, 1196, 1197, 1198, 1199, 1200, 1201, 1202, 1203, 1204, 1205, 1206, 1207, 1208, 1209, 1210, 1211, 1212] (by decide +kernel) (by decide +kernel)
set_option maxRecDepth 20000 in
theorem gL_law_X12_lock : GoodIn wsL_law (wsV RL 39 RX12 yX12_lock wsX12_lock) := goodIn_app (goodIn_of _ (by decide +kernel)) ggL_law_X12_lock
set_option maxRecDepth 20000 in
theorem ggL_law_X11_walker : GoodIn wsL_law wsX11_walker := goodIn_r _ [534, 16, 24, 535, 536, 537, 15, 538, 360, 539, 540, 541, 23, 542, 59, 543, 544, 545, 546, 60, 1154, 1155, 1156, 1157, 1158, 1159, 1160, 1161, 1162, 1163, 1164, 1165, 1166, 1167, 1213, 1214, 1215, 1216, 1217, 1218, 1219, 1230, 1231, 1232, 1233, 1234, 1235, 1236] (by decide +kernel) (by decide +kernel)
set_option maxRecDepth 20000 in
theorem gL_law_X11_walker : GoodIn wsL_law (wsV RL 40 RX11 yX11_walker wsX11_walker) := goodIn_app (goodIn_of _ (by decide +kernel)) ggL_law_X11_walker
set_option maxRecDepth 20000 in
theorem ggL_law_X12_walker : GoodIn wsL_law wsX12_walker := goodIn_r _ [550, 80, 551, 552, 553, 5, 554, 262, 134, 135, 136, 1168, 1169, 1170, 1171, 1172, 1173, 1174, 1175, 1176, 1177, 1178, 1179, 1180, 1181, 1182, 1183, 1184, 1185, 1186, 1187, 1188, 1189, 1190, 1191, 1192, 1193, 1194, 1195, 1196, 1197, 1198, 1199, 1200, 1201, 1202, 1203, 1204, 1205, 1206, 1207, 1208, 1209, 1210, 1211, 1212] (by decide +kernel) (by decide +kernel)
set_option maxRecDepth 20000 in
theorem gL_law_X12_walker : GoodIn wsL_law (wsV RL 43 RX12 yX12_walker wsX12_walker) := goodIn_app (goodIn_of _ (by decide +kernel)) ggL_law_X12_walker
set_option maxRecDepth 20000 in
theorem ggL_law_X11_goes : GoodIn wsL_law wsX11_goes := goodIn_r _ [558, 16, 24, 423, 424, 425, 15, 426, 358, 43, 515, 516, 517, 518, 359, 45, 441, 442, 443, 23, 444, 57, 449, 450, 451, 452, 332, 453, 454, 455, 456, 457, 366, 458, 369, 459, 460, 461, 462, 341, 463, 464, 465, 466, 467, 468, 469, 470, 471, 335, 472, 473, 474, 475, 476, 477, 559, 560, 561, 344, 562, 392, 563, 564, 565, 566, 567, 568, 569, 570, 571, 572, 573, 574, 575, 576, 577, 393, 578, 579, 580, 581, 582, 583, 584, 585, 586, 587, 588, 589, 590, 338, 591, 592, 593, 594, 595, 596, 1154, 1155, 1156, 1157, 1158, 1159, 1160, 1161, 1162, 1163, 1164, 1165, 1166, 1167, 1213, 1214, 1215, 1216, 1217, 1218, 1219, 1230, 1231, 1232, 1233, 1234, 1235, 1236, 1247, 1248, 1253, 1254, 1251, 1252, 1249, 1250, 1255, 1256, 1257, 1258] (by decide +kernel) (by decide +kernel)
set_option maxRecDepth 20000 in
theorem gL_law_X11_goes : GoodIn wsL_law (wsV RL 44 RX11 yX11_goes wsX11_goes) := goodIn_app (goodIn_of _ (by decide +kernel)) ggL_law_X11_goes
set_option maxRecDepth 20000 in
theorem ggL_law_X12_goes : GoodIn wsL_law wsX12_goes := goodIn_r _ [600, 87, 486, 487, 488, 5, 489, 258, 134, 135, 136, 527, 528, 529, 530, 260, 490, 491, 492, 493, 83, 84, 85, 80, 494, 495, 496, 497, 498, 499, 500, 501, 502, 601, 602, 603, 604, 605, 606, 607, 608, 609, 610, 611, 88, 612, 613, 614, 1168, 1169, 1170, 1171, 1172, 1173, 1174, 1175, 1176, 1177, 1178, 1179, 1180, 1181, 1182, 1183, 1184, 1185, 1186, 1187, 1188, 1189, 1190, 1191, 1192, 1193, 1194, 1195, 1196, 1197, 1198, 1199, 1200, 1201, 1202, 1203, 1204, 1205, 1206, 1207, 1208, 1209, 1210, 1211, 1212] (by decide +kernel) (by decide +kernel)
set_option maxRecDepth 20000 in
theorem gL_law_X12_goes : GoodIn wsL_law (wsV RL 48 RX12 yX12_goes wsX12_goes) := goodIn_app (goodIn_of _ (by decide +kernel)) ggL_law_X12_goes
set_option maxRecDepth 20000 in
theorem ggL_law_X11_as : GoodIn wsL_law wsX11_as := goodIn_r _ [618, 16, 423, 424, 425, 15, 426, 358, 43, 619, 620, 2, 621, 622, 623, 624, 625, 626, 582, 583, 584, 332, 585, 586, 587, 341, 588, 589, 590, 338, 591, 592, 593, 335, 594, 595, 596, 477, 1154, 1155, 1156, 1157, 1158, 1159, 1160, 1161, 1162, 1163, 1164, 1165, 1166, 1167, 1213, 1214, 1215, 1216, 1217, 1218, 1219] (by decide +kernel) (by decide +kernel)
set_option maxRecDepth 20000 in
theorem gL_law_X11_as : GoodIn wsL_law (wsV RL 49 RX11 yX11_as wsX11_as) := goodIn_app (goodIn_of _ (by decide +kernel)) ggL_law_X11_as
set_option maxRecDepth 20000 in
theorem ggL_law_X12_as : GoodIn wsL_law wsX12_as := goodIn_r _ [630, 631, 83, 486, 487, 488, 5, 489, 258, 134, 135, 136, 612, 613, 614, 1168, 1169, 1170, 1171, 1172, 1173, 1174, 1175, 1176, 1177, 1178, 1179, 1180, 1181, 1182, 1183, 1184, 1185, 1186, 1187, 1188, 1189, 1190, 1191, 1192, 1193, 1194, 1195, 1196, 1197, 1198, 1199, 1200, 1201, 1202, 1203, 1204, 1205, 1206, 1207, 1208, 1209, 1210, 1211, 1212] (by decide +kernel) (by decide +kernel)
set_option maxRecDepth 20000 in
theorem gL_law_X12_as : GoodIn wsL_law (wsV RL 52 RX12 yX12_as wsX12_as) := goodIn_app (goodIn_of _ (by decide +kernel)) ggL_law_X12_as
set_option maxRecDepth 20000 in
theorem ggL_law_X11_tries : GoodIn wsL_law wsX11_tries := goodIn_r _ [635, 16, 24, 511, 345, 514, 624, 423, 424, 425, 15, 426, 358, 43, 515, 516, 517, 518, 359, 45, 535, 536, 537, 538, 360, 543, 544, 545, 23, 546, 60, 539, 540, 541, 542, 59, 636, 637, 2, 638, 639, 640, 641, 642, 478, 479, 480, 481, 445, 446, 447, 448, 58, 519, 520, 521, 522, 409, 643, 644, 645, 646, 647, 325, 648, 649, 650, 651, 652, 653, 654, 25, 655, 656, 657, 658, 659, 660, 661, 662, 407, 408, 57, 663, 664, 665, 666, 441, 442, 443, 444, 574, 575, 576, 344, 577, 393, 578, 450, 451, 452, 332, 453, 454, 455, 456, 457, 366, 458, 369, 459, 460, 461, 462, 341, 463, 464, 465, 466, 467, 468, 469, 470, 471, 335, 472, 473, 474, 475, 476, 477, 579, 560, 561, 562, 392, 563, 564, 565, 566, 567, 568, 569, 580, 571, 572, 573, 581, 582, 583, 584, 585, 586, 587, 588, 589, 590, 338, 591, 592, 593, 594, 595, 596, 667, 668, 669, 670, 671, 672, 673, 674, 449, 559, 675, 676, 677, 678, 1154, 1155, 1156, 1157, 1158, 1159, 1160, 1161, 1162, 1163, 1164, 1165, 1166, 1167, 1255, 1256, 1257, 1258, 1213, 1214, 1215, 1216, 1217, 1218, 1219, 1230, 1231, 1232, 1233, 1234, 1235, 1236, 1247, 1248, 1253, 1254, 1251, 1252, 1249, 1250] (by decide +kernel) (by decide +kernel)
set_option maxRecDepth 20000 in
theorem gL_law_X11_tries : GoodIn wsL_law (wsV RL 53 RX11 yX11_tries wsX11_tries) := goodIn_app (goodIn_of _ (by decide +kernel)) ggL_law_X11_tries
set_option maxRecDepth 20000 in
theorem ggL_law_X12_tries : GoodIn wsL_law wsX12_tries := goodIn_r _ [682, 80, 86, 91, 89, 83, 87, 551, 552, 553, 5, 554, 262, 134, 135, 136, 486, 487, 488, 489, 258, 527, 528, 529, 530, 260, 683, 684, 685, 503, 504, 505, 506, 686, 687, 688, 689, 500, 501, 502, 690, 691, 692, 693, 415, 604, 605, 606, 607, 490, 491, 492, 493, 84, 85, 494, 495, 496, 497, 498, 499, 608, 609, 610, 611, 88, 601, 602, 603, 612, 613, 614, 1168, 1169, 1170, 1171, 1172, 1173, 1174, 1175, 1176, 1177, 1178, 1179, 1180, 1181, 1182, 1183, 1184, 1185, 1186, 1187, 1188, 1189, 1190, 1191, 1192, 1193, 1194, 1195, 1196, 1197, 1198, 1199, 1200, 1201, 1202, 1203, 1204, 1205, 1206, 1207, 1208, 1209, 1210, 1211, 1212] (by decide +kernel) (by decide +kernel)
set_option maxRecDepth 20000 in
theorem gL_law_X12_tries : GoodIn wsL_law (wsV RL 56 RX12 yX12_tries wsX12_tries) := goodIn_app (goodIn_of _ (by decide +kernel)) ggL_law_X12_tries
set_option maxRecDepth 20000 in
theorem ggL_law_X11_shut : GoodIn wsL_law wsX11_shut := goodIn_r _ [697, 16, 24, 514, 515, 516, 517, 15, 518, 359, 45, 519, 520, 521, 23, 522, 409, 643, 644, 645, 2, 646, 647, 325, 648, 649, 641, 650, 651, 652, 653, 654, 25, 655, 656, 657, 658, 659, 660, 661, 662, 407, 408, 57, 58, 59, 60, 698, 699, 700, 701, 1154, 1155, 1156, 1157, 1158, 1159, 1160, 1161, 1162, 1163, 1164, 1165, 1166, 1167, 1255, 1256, 1257, 1258, 1213, 1214, 1215, 1216, 1217, 1218, 1219, 1230, 1231, 1232, 1233, 1234, 1235, 1236] (by decide +kernel) (by decide +kernel)
set_option maxRecDepth 20000 in
theorem gL_law_X11_shut : GoodIn wsL_law (wsV RL 57 RX11 yX11_shut wsX11_shut) := goodIn_app (goodIn_of _ (by decide +kernel)) ggL_law_X11_shut
set_option maxRecDepth 20000 in
theorem ggL_law_X12_shut : GoodIn wsL_law wsX12_shut := goodIn_r _ [705, 80, 89, 527, 528, 529, 5, 530, 260, 134, 135, 136, 686, 687, 688, 689, 500, 501, 502, 690, 691, 692, 693, 415, 1168, 1169, 1170, 1171, 1172, 1173, 1174, 1175, 1176, 1177, 1178, 1179, 1180, 1181, 1182, 1183, 1184, 1185, 1186, 1187, 1188, 1189, 1190, 1191, 1192, 1193, 1194, 1195, 1196, 1197, 1198, 1199, 1200, 1201, 1202, 1203, 1204, 1205, 1206, 1207, 1208, 1209, 1210, 1211, 1212] (by decide +kernel) (by decide +kernel)
set_option maxRecDepth 20000 in
theorem gL_law_X12_shut : GoodIn wsL_law (wsV RL 60 RX12 yX12_shut wsX12_shut) := goodIn_app (goodIn_of _ (by decide +kernel)) ggL_law_X12_shut
set_option maxRecDepth 20000 in
theorem ggL_law_X11_mend : GoodIn wsL_law wsX11_mend := goodIn_r _ [709, 16, 24, 423, 424, 425, 15, 426, 358, 43, 441, 442, 443, 23, 444, 57, 445, 446, 447, 448, 58, 643, 644, 645, 2, 646, 647, 325, 648, 649, 641, 650, 651, 652, 653, 654, 25, 655, 656, 657, 658, 659, 660, 661, 662, 407, 408, 409, 59, 60, 710, 711, 712, 713, 1154, 1155, 1156, 1157, 1158, 1159, 1160, 1161, 1162, 1163, 1164, 1165, 1166, 1167, 1213, 1214, 1215, 1216, 1217, 1218, 1219, 1230, 1231, 1232, 1233, 1234, 1235, 1236] (by decide +kernel) (by decide +kernel)
set_option maxRecDepth 20000 in
theorem gL_law_X11_mend : GoodIn wsL_law (wsV RL 61 RX11 yX11_mend wsX11_mend) := goodIn_app (goodIn_of _ (by decide +kernel)) ggL_law_X11_mend
set_option maxRecDepth 20000 in
theorem ggL_law_X12_mend : GoodIn wsL_law wsX12_mend := goodIn_r _ [717, 80, 486, 487, 488, 5, 489, 258, 134, 135, 136, 690, 691, 692, 693, 415, 1168, 1169, 1170, 1171, 1172, 1173, 1174, 1175, 1176, 1177, 1178, 1179, 1180, 1181, 1182, 1183, 1184, 1185, 1186, 1187, 1188, 1189, 1190, 1191, 1192, 1193, 1194, 1195, 1196, 1197, 1198, 1199, 1200, 1201, 1202, 1203, 1204, 1205, 1206, 1207, 1208, 1209, 1210, 1211, 1212] (by decide +kernel) (by decide +kernel)
set_option maxRecDepth 20000 in
theorem gL_law_X12_mend : GoodIn wsL_law (wsV RL 64 RX12 yX12_mend wsX12_mend) := goodIn_app (goodIn_of _ (by decide +kernel)) ggL_law_X12_mend
set_option maxRecDepth 20000 in
theorem ggL_law_X11_day : GoodIn wsL_law wsX11_day := goodIn_r _ [721, 24, 722, 643, 644, 645, 2, 646, 647, 325, 648, 649, 641, 650, 651, 652, 653, 654, 25, 655, 656, 657, 658, 659, 660, 661, 23, 662, 407, 408, 409, 57, 58, 59, 60, 723, 724, 725, 726, 1154, 1155, 1156, 1157, 1158, 1159, 1160, 1161, 1162, 1163, 1164, 1165, 1166, 1167, 1230, 1231, 1232, 1233, 1234, 1235, 1236] (by decide +kernel) (by decide +kernel)
set_option maxRecDepth 20000 in
theorem gL_law_X11_day : GoodIn wsL_law (wsV RL 65 RX11 yX11_day wsX11_day) := goodIn_app (goodIn_of _ (by decide +kernel)) ggL_law_X11_day
set_option maxRecDepth 20000 in
theorem ggL_law_X12_day : GoodIn wsL_law wsX12_day := goodIn_r _ [730, 80, 690, 691, 692, 5, 693, 415, 1168, 1169, 1170, 1171, 1172, 1173, 1174, 1175, 1176, 1177, 1178, 1179, 1180, 1181, 1182, 1183, 1184, 1185, 1186, 1187, 1188, 1189, 1190, 1191, 1192, 1193, 1194, 1195, 1196, 1197, 1198, 1199, 1200, 1201, 1202, 1203, 1204, 1205, 1206, 1207, 1208, 1209, 1210, 1211, 1212] (by decide +kernel) (by decide +kernel)
set_option maxRecDepth 20000 in
theorem gL_law_X12_day : GoodIn wsL_law (wsV RL 68 RX12 yX12_day wsX12_day) := goodIn_app (goodIn_of _ (by decide +kernel)) ggL_law_X12_day
set_option maxRecDepth 20000 in
theorem ggL_law_X11_undo : GoodIn wsL_law wsX11_undo := goodIn_r _ [734, 325, 647, 24, 651, 652, 653, 2, 654, 25, 655, 656, 657, 658, 659, 660, 661, 23, 662, 407, 408, 409, 57, 58, 59, 60, 1154, 1155, 1156, 1157, 1158, 1159, 1160, 1161, 1162, 1163, 1164, 1165, 1166, 1167, 1230, 1231, 1232, 1233, 1234, 1235, 1236] (by decide +kernel) (by decide +kernel)
set_option maxRecDepth 20000 in
theorem gL_law_X11_undo : GoodIn wsL_law (wsV RL 69 RX11 yX11_undo wsX11_undo) := goodIn_app (goodIn_of _ (by decide +kernel)) ggL_law_X11_undo
set_option maxRecDepth 20000 in
theorem ggL_law_X12_undo : GoodIn wsL_law wsX12_undo := goodIn_r _ [738, 415, 80, 1168, 1169, 1170, 1171, 1172, 1173, 1174, 1175, 1176, 1177, 1178, 1179, 1180, 1181, 1182, 1183, 1184, 1185, 1186, 1187, 1188, 1189, 1190, 1191, 1192, 1193, 1194, 1195, 1196, 1197, 1198, 1199, 1200, 1201, 1202, 1203, 1204, 1205, 1206, 1207, 1208, 1209, 1210, 1211, 1212] (by decide +kernel) (by decide +kernel)
set_option maxRecDepth 20000 in
theorem gL_law_X12_undo : GoodIn wsL_law (wsV RL 72 RX12 yX12_undo wsX12_undo) := goodIn_app (goodIn_of _ (by decide +kernel)) ggL_law_X12_undo
set_option maxRecDepth 20000 in
theorem ggL_law_X11_keep : GoodIn wsL_law wsX11_keep := goodIn_r _ [742, 26, 24, 27, 20, 324, 722, 659, 660, 661, 23, 662, 407, 408, 409, 57, 58, 59, 60, 743, 744, 745, 19, 746, 122, 51, 1154, 1155, 1156, 1157, 1158, 1159, 1160, 1161, 1162, 1163, 1164, 1165, 1166, 1167, 1230, 1231, 1232, 1233, 1234, 1235, 1236, 1220, 1221, 1222, 1223, 1224, 1225, 1226, 1227, 1228, 1229] (by decide +kernel) (by decide +kernel)
set_option maxRecDepth 20000 in
theorem gL_law_X11_keep : GoodIn wsL_law (wsV RL 73 RX11 yX11_keep wsX11_keep) := goodIn_app (goodIn_of _ (by decide +kernel)) ggL_law_X11_keep
set_option maxRecDepth 20000 in
theorem ggL_law_X12_keep : GoodIn wsL_law wsX12_keep := goodIn_r _ [750, 80, 82, 134, 135, 5, 136, 1168, 1169, 1170, 1171, 1172, 1173, 1174, 1175, 1176, 1177, 1178, 1179, 1180, 1181, 1182, 1183, 1184, 1185, 1186, 1187, 1188, 1189, 1190, 1191, 1192, 1193, 1194, 1195, 1196, 1197, 1198, 1199, 1200, 1201, 1202, 1203, 1204, 1205, 1206, 1207, 1208, 1209, 1210, 1211, 1212] (by decide +kernel) (by decide +kernel)
set_option maxRecDepth 20000 in
theorem gL_law_X12_keep : GoodIn wsL_law (wsV RL 76 RX12 yX12_keep wsX12_keep) := goodIn_app (goodIn_of _ (by decide +kernel)) ggL_law_X12_keep
set_option maxRecDepth 20000 in
theorem ggL_law_X11_back : GoodIn wsL_law wsX11_back := goodIn_r _ [754, 324, 24, 26, 20, 27, 325, 722, 659, 660, 661, 23, 662, 407, 408, 409, 57, 58, 59, 60, 743, 744, 745, 19, 746, 122, 51, 1154, 1155, 1156, 1157, 1158, 1159, 1160, 1161, 1162, 1163, 1164, 1165, 1166, 1167, 1230, 1231, 1232, 1233, 1234, 1235, 1236, 1220, 1221, 1222, 1223, 1224, 1225, 1226, 1227, 1228, 1229] (by decide +kernel) (by decide +kernel)
set_option maxRecDepth 20000 in
theorem gL_law_X11_back : GoodIn wsL_law (wsV RL 77 RX11 yX11_back wsX11_back) := goodIn_app (goodIn_of _ (by decide +kernel)) ggL_law_X11_back
set_option maxRecDepth 20000 in
theorem ggL_law_X12_back : GoodIn wsL_law wsX12_back := goodIn_r _ [758, 82, 80, 415, 134, 135, 5, 136, 1168, 1169, 1170, 1171, 1172, 1173, 1174, 1175, 1176, 1177, 1178, 1179, 1180, 1181, 1182, 1183, 1184, 1185, 1186, 1187, 1188, 1189, 1190, 1191, 1192, 1193, 1194, 1195, 1196, 1197, 1198, 1199, 1200, 1201, 1202, 1203, 1204, 1205, 1206, 1207, 1208, 1209, 1210, 1211, 1212] (by decide +kernel) (by decide +kernel)
set_option maxRecDepth 20000 in
theorem gL_law_X12_back : GoodIn wsL_law (wsV RL 80 RX12 yX12_back wsX12_back) := goodIn_app (goodIn_of _ (by decide +kernel)) ggL_law_X12_back
set_option maxRecDepth 20000 in
theorem ggL_law_X11_belongs : GoodIn wsL_law wsX11_belongs := goodIn_r _ [762, 16, 24, 423, 424, 425, 15, 426, 358, 43, 441, 442, 443, 23, 444, 57, 763, 764, 765, 2, 766, 767, 515, 516, 517, 518, 359, 45, 574, 575, 576, 344, 577, 393, 578, 450, 451, 452, 332, 453, 454, 455, 456, 457, 366, 458, 369, 459, 460, 461, 462, 341, 463, 464, 465, 466, 467, 468, 469, 470, 471, 335, 472, 473, 474, 475, 476, 477, 579, 560, 561, 562, 392, 563, 564, 565, 566, 567, 568, 569, 580, 571, 572, 573, 581, 582, 583, 584, 585, 586, 587, 588, 589, 590, 338, 591, 592, 593, 594, 595, 596, 1154, 1155, 1156, 1157, 1158, 1159, 1160, 1161, 1162, 1163, 1164, 1165, 1166, 1167, 1213, 1214, 1215, 1216, 1217, 1218, 1219, 1230, 1231, 1232, 1233, 1234, 1235, 1236, 1255, 1256, 1257, 1258, 1247, 1248, 1253, 1254, 1251, 1252, 1249, 1250] (by decide +kernel) (by decide +kernel)
set_option maxRecDepth 20000 in
theorem gL_law_X11_belongs : GoodIn wsL_law (wsV RL 81 RX11 yX11_belongs wsX11_belongs) := goodIn_app (goodIn_of _ (by decide +kernel)) ggL_law_X11_belongs
