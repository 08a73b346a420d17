set_option maxRecDepth 20000 in
theorem ggL_law_X12_belongs : GoodIn wsL_law wsX12_belongs := goodIn_r _ [771, 486, 487, 488, 5, 489, 258, 134, 135, 136, 772, 773, 774, 775, 260, 604, 605, 606, 607, 83, 490, 491, 492, 493, 84, 85, 80, 494, 495, 496, 497, 498, 499, 500, 501, 502, 608, 609, 610, 611, 87, 88, 601, 602, 603, 612, 613, 614, 1168, 1169, 1170, 1171, 1172, 1173, 1174, 1175, 1176, 1177, 1178, 1179, 1180, 1181, 1182, 1183, 1184, 1185, 1186, 1187, 1188, 1189, 1190, 1191, 1192, 1193, 1194, 1195, 1196, 1197, 1198, 1199, 1200, 1201, 1202, 1203, 1204, 1205, 1206, 1207, 1208, 1209, 1210, 1211, 1212] (by decide +kernel) (by decide +kernel)
set_option maxRecDepth 20000 in
theorem gL_law_X12_belongs : GoodIn wsL_law (wsV RL 84 RX12 yX12_belongs wsX12_belongs) := goodIn_app (goodIn_of _ (by decide +kernel)) ggL_law_X12_belongs
set_option maxRecDepth 20000 in
theorem ggL_law_X11_openers : GoodIn wsL_law wsX11_openers := goodIn_r _ [779, 16, 515, 516, 517, 15, 518, 359, 45, 780, 781, 782, 2, 783, 784, 24, 423, 424, 425, 426, 358, 43, 441, 442, 443, 23, 444, 57, 574, 575, 576, 344, 577, 393, 578, 450, 451, 452, 332, 453, 454, 455, 456, 457, 366, 458, 369, 459, 460, 461, 462, 341, 463, 464, 465, 466, 467, 468, 469, 470, 471, 335, 472, 473, 474, 475, 476, 477, 579, 560, 561, 562, 392, 563, 564, 565, 566, 567, 568, 569, 580, 571, 572, 573, 581, 582, 583, 584, 585, 586, 587, 588, 589, 590, 338, 591, 592, 593, 594, 595, 596, 1154, 1155, 1156, 1157, 1158, 1159, 1160, 1161, 1162, 1163, 1164, 1165, 1166, 1167, 1213, 1214, 1215, 1216, 1217, 1218, 1219, 1230, 1231, 1232, 1233, 1234, 1235, 1236, 1255, 1256, 1257, 1258, 1247, 1248, 1253, 1254, 1251, 1252, 1249, 1250] (by decide +kernel) (by decide +kernel)
set_option maxRecDepth 20000 in
theorem gL_law_X11_openers : GoodIn wsL_law (wsV RL 85 RX11 yX11_openers wsX11_openers) := goodIn_app (goodIn_of _ (by decide +kernel)) ggL_law_X11_openers
set_option maxRecDepth 20000 in
theorem ggL_law_X12_openers : GoodIn wsL_law wsX12_openers := goodIn_r _ [788, 258, 527, 528, 529, 5, 530, 260, 134, 135, 136, 604, 605, 606, 607, 83, 490, 491, 492, 493, 84, 85, 80, 494, 495, 496, 497, 498, 499, 500, 501, 502, 608, 609, 610, 611, 87, 88, 601, 602, 603, 612, 613, 614, 1168, 1169, 1170, 1171, 1172, 1173, 1174, 1175, 1176, 1177, 1178, 1179, 1180, 1181, 1182, 1183, 1184, 1185, 1186, 1187, 1188, 1189, 1190, 1191, 1192, 1193, 1194, 1195, 1196, 1197, 1198, 1199, 1200, 1201, 1202, 1203, 1204, 1205, 1206, 1207, 1208, 1209, 1210, 1211, 1212] (by decide +kernel) (by decide +kernel)
set_option maxRecDepth 20000 in
theorem gL_law_X12_openers : GoodIn wsL_law (wsV RL 88 RX12 yX12_openers wsX12_openers) := goodIn_app (goodIn_of _ (by decide +kernel)) ggL_law_X12_openers
set_option maxRecDepth 20000 in
theorem ggL_law_X11_twins : GoodIn wsL_law wsX11_twins := goodIn_r _ [792, 16, 784, 793, 794, 795, 2, 796, 24, 423, 424, 425, 15, 426, 358, 43, 441, 442, 443, 23, 444, 57, 763, 764, 765, 766, 767, 515, 516, 517, 518, 359, 45, 574, 575, 576, 344, 577, 393, 578, 450, 451, 452, 332, 453, 454, 455, 456, 457, 366, 458, 369, 459, 460, 461, 462, 341, 463, 464, 465, 466, 467, 468, 469, 470, 471, 335, 472, 473, 474, 475, 476, 477, 579, 560, 561, 562, 392, 563, 564, 565, 566, 567, 568, 569, 580, 571, 572, 573, 581, 582, 583, 584, 585, 586, 587, 588, 589, 590, 338, 591, 592, 593, 594, 595, 596, 1154, 1155, 1156, 1157, 1158, 1159, 1160, 1161, 1162, 1163, 1164, 1165, 1166, 1167, 1213, 1214, 1215, 1216, 1217, 1218, 1219, 1230, 1231, 1232, 1233, 1234, 1235, 1236, 1255, 1256, 1257, 1258, 1247, 1248, 1253, 1254, 1251, 1252, 1249, 1250] (by decide +kernel) (by decide +kernel)
set_option maxRecDepth 20000 in
theorem gL_law_X11_twins : GoodIn wsL_law (wsV RL 89 RX11 yX11_twins wsX11_twins) := goodIn_app (goodIn_of _ (by decide +kernel)) ggL_law_X11_twins
set_option maxRecDepth 20000 in
theorem ggL_law_X12_twins : GoodIn wsL_law wsX12_twins := goodIn_r _ [800, 801, 802, 258, 134, 135, 5, 136, 772, 773, 774, 775, 260, 604, 605, 606, 607, 83, 490, 491, 492, 493, 84, 85, 80, 494, 495, 496, 497, 498, 499, 500, 501, 502, 608, 609, 610, 611, 87, 88, 601, 602, 603, 612, 613, 614, 1168, 1169, 1170, 1171, 1172, 1173, 1174, 1175, 1176, 1177, 1178, 1179, 1180, 1181, 1182, 1183, 1184, 1185, 1186, 1187, 1188, 1189, 1190, 1191, 1192, 1193, 1194, 1195, 1196, 1197, 1198, 1199, 1200, 1201, 1202, 1203, 1204, 1205, 1206, 1207, 1208, 1209, 1210, 1211, 1212] (by decide +kernel) (by decide +kernel)
set_option maxRecDepth 20000 in
theorem gL_law_X12_twins : GoodIn wsL_law (wsV RL 92 RX12 yX12_twins wsX12_twins) := goodIn_app (goodIn_of _ (by decide +kernel)) ggL_law_X12_twins
set_option maxRecDepth 20000 in
theorem ggL_law_X11_match : GoodIn wsL_law wsX11_match := goodIn_r _ [806, 16, 34, 807, 808, 515, 516, 517, 15, 518, 359, 45, 809, 810, 811, 2, 812, 24, 519, 520, 521, 23, 522, 409, 780, 781, 782, 783, 784, 423, 424, 425, 426, 358, 43, 441, 442, 443, 444, 57, 574, 575, 576, 344, 577, 393, 578, 450, 451, 452, 332, 453, 454, 455, 456, 457, 366, 458, 369, 459, 460, 461, 462, 341, 463, 464, 465, 466, 467, 468, 469, 470, 471, 335, 472, 473, 474, 475, 476, 477, 579, 560, 561, 562, 392, 563, 564, 565, 566, 567, 568, 569, 580, 571, 572, 573, 581, 582, 583, 584, 585, 586, 587, 588, 589, 590, 338, 591, 592, 593, 594, 595, 596, 813, 814, 815, 816, 478, 479, 480, 481, 445, 446, 447, 448, 58, 817, 818, 819, 33, 820, 65, 821, 66, 822, 823, 824, 825, 826, 827, 641, 828, 829, 830, 831, 832, 64, 833, 834, 835, 836, 837, 838, 839, 840, 1154, 1155, 1156, 1157, 1158, 1159, 1160, 1161, 1162, 1163, 1164, 1165, 1166, 1167, 1237, 1238, 1239, 1240, 1241, 1242, 1243, 1213, 1214, 1215, 1216, 1217, 1218, 1219, 1230, 1231, 1232, 1233, 1234, 1235, 1236, 1255, 1256, 1257, 1258, 1247, 1248, 1253, 1254, 1251, 1252, 1249, 1250] (by decide +kernel) (by decide +kernel)
set_option maxRecDepth 20000 in
theorem gL_law_X11_match : GoodIn wsL_law (wsV RL 93 RX11 yX11_match wsX11_match) := goodIn_app (goodIn_of _ (by decide +kernel)) ggL_law_X11_match
set_option maxRecDepth 20000 in
theorem ggL_law_X12_match : GoodIn wsL_law wsX12_match := goodIn_r _ [844, 104, 527, 528, 529, 5, 530, 260, 134, 135, 136, 845, 846, 847, 848, 258, 500, 501, 502, 849, 850, 851, 852, 686, 687, 688, 689, 80, 503, 504, 505, 506, 604, 605, 606, 607, 83, 490, 491, 492, 493, 84, 85, 494, 495, 496, 497, 498, 499, 608, 609, 610, 611, 87, 88, 601, 602, 603, 612, 613, 614, 853, 854, 855, 856, 1168, 1169, 1170, 1171, 1172, 1173, 1174, 1175, 1176, 1177, 1178, 1179, 1180, 1181, 1182, 1183, 1184, 1185, 1186, 1187, 1188, 1189, 1190, 1191, 1192, 1193, 1194, 1195, 1196, 1197, 1198, 1199, 1200, 1201, 1202, 1203, 1204, 1205, 1206, 1207, 1208, 1209, 1210, 1211, 1212] (by decide +kernel) (by decide +kernel)
set_option maxRecDepth 20000 in
theorem gL_law_X12_match : GoodIn wsL_law (wsV RL 96 RX12 yX12_match wsX12_match) := goodIn_app (goodIn_of _ (by decide +kernel)) ggL_law_X12_match
set_option maxRecDepth 20000 in
theorem ggL_law_X11_work : GoodIn wsL_law wsX11_work := goodIn_r _ [860, 16, 767, 34, 861, 24, 809, 810, 811, 2, 812, 515, 516, 517, 15, 518, 359, 45, 519, 520, 521, 23, 522, 409, 780, 781, 782, 783, 784, 423, 424, 425, 426, 358, 43, 441, 442, 443, 444, 57, 574, 575, 576, 344, 577, 393, 578, 450, 451, 452, 332, 453, 454, 455, 456, 457, 366, 458, 369, 459, 460, 461, 462, 341, 463, 464, 465, 466, 467, 468, 469, 470, 471, 335, 472, 473, 474, 475, 476, 477, 579, 560, 561, 562, 392, 563, 564, 565, 566, 567, 568, 569, 580, 571, 572, 573, 581, 582, 583, 584, 585, 586, 587, 588, 589, 590, 338, 591, 592, 593, 594, 595, 596, 813, 814, 815, 816, 478, 479, 480, 481, 445, 446, 447, 448, 58, 862, 863, 864, 33, 865, 69, 866, 539, 540, 541, 542, 59, 543, 544, 545, 546, 60, 867, 868, 869, 870, 871, 872, 873, 874, 68, 875, 876, 67, 877, 649, 641, 650, 878, 637, 638, 639, 640, 642, 879, 880, 881, 882, 883, 884, 885, 886, 826, 827, 828, 887, 888, 889, 890, 891, 1154, 1155, 1156, 1157, 1158, 1159, 1160, 1161, 1162, 1163, 1164, 1165, 1166, 1167, 1213, 1214, 1215, 1216, 1217, 1218, 1219, 1230, 1231, 1232, 1233, 1234, 1235, 1236, 1255, 1256, 1257, 1258, 1247, 1248, 1253, 1254, 1251, 1252, 1249, 1250, 1237, 1238, 1239, 1240, 1241, 1242, 1243] (by decide +kernel) (by decide +kernel)
set_option maxRecDepth 20000 in
theorem gL_law_X11_work : GoodIn wsL_law (wsV RL 97 RX11 yX11_work wsX11_work) := goodIn_app (goodIn_of _ (by decide +kernel)) ggL_law_X11_work
set_option maxRecDepth 20000 in
theorem ggL_law_X12_work : GoodIn wsL_law wsX12_work := goodIn_r _ [895, 896, 107, 897, 262, 260, 134, 135, 5, 136, 898, 899, 900, 901, 106, 105, 80, 500, 501, 502, 902, 903, 904, 905, 86, 683, 684, 685, 906, 907, 908, 909, 108, 910, 911, 912, 913, 258, 849, 850, 851, 852, 686, 687, 688, 689, 503, 504, 505, 506, 604, 605, 606, 607, 83, 490, 491, 492, 493, 84, 85, 494, 495, 496, 497, 498, 499, 608, 609, 610, 611, 87, 88, 601, 602, 603, 612, 613, 614, 1168, 1169, 1170, 1171, 1172, 1173, 1174, 1175, 1176, 1177, 1178, 1179, 1180, 1181, 1182, 1183, 1184, 1185, 1186, 1187, 1188, 1189, 1190, 1191, 1192, 1193, 1194, 1195, 1196, 1197, 1198, 1199, 1200, 1201, 1202, 1203, 1204, 1205, 1206, 1207, 1208, 1209, 1210, 1211, 1212] (by decide +kernel) (by decide +kernel)
set_option maxRecDepth 20000 in
theorem gL_law_X12_work : GoodIn wsL_law (wsV RL 100 RX12 yX12_work wsX12_work) := goodIn_app (goodIn_of _ (by decide +kernel)) ggL_law_X12_work
set_option maxRecDepth 20000 in
theorem ggL_law_X11_seen : GoodIn wsL_law wsX11_seen := goodIn_r _ [917, 16, 323, 29, 30, 515, 516, 517, 15, 518, 359, 45, 1154, 1155, 1156, 1157, 1158, 1159, 1160, 1161, 1162, 1163, 1164, 1165, 1166, 1167, 1213, 1214, 1215, 1216, 1217, 1218, 1219] (by decide +kernel) (by decide +kernel)
set_option maxRecDepth 20000 in
theorem gL_law_X11_seen : GoodIn wsL_law (wsV RL 101 RX11 yX11_seen wsX11_seen) := goodIn_app (goodIn_of _ (by decide +kernel)) ggL_law_X11_seen
set_option maxRecDepth 20000 in
theorem ggL_law_X12_seen : GoodIn wsL_law wsX12_seen := goodIn_r _ [921, 416, 93, 94, 527, 528, 529, 5, 530, 260, 134, 135, 136, 1168, 1169, 1170, 1171, 1172, 1173, 1174, 1175, 1176, 1177, 1178, 1179, 1180, 1181, 1182, 1183, 1184, 1185, 1186, 1187, 1188, 1189, 1190, 1191, 1192, 1193, 1194, 1195, 1196, 1197, 1198, 1199, 1200, 1201, 1202, 1203, 1204, 1205, 1206, 1207, 1208, 1209, 1210, 1211, 1212] (by decide +kernel) (by decide +kernel)
set_option maxRecDepth 20000 in
theorem gL_law_X12_seen : GoodIn wsL_law (wsV RL 104 RX12 yX12_seen wsX12_seen) := goodIn_app (goodIn_of _ (by decide +kernel)) ggL_law_X12_seen
set_option maxRecDepth 20000 in
theorem ggL_law_X11_forget : GoodIn wsL_law wsX11_forget := goodIn_r _ [925, 323, 1154, 1155, 1156, 1157, 1158, 1159, 1160, 1161, 1162, 1163, 1164, 1165, 1166, 1167] (by decide +kernel) (by decide +kernel)
set_option maxRecDepth 20000 in
theorem gL_law_X11_forget : GoodIn wsL_law (wsV RL 105 RX11 yX11_forget wsX11_forget) := goodIn_app (goodIn_of _ (by decide +kernel)) ggL_law_X11_forget
set_option maxRecDepth 20000 in
theorem ggL_law_X12_forget : GoodIn wsL_law wsX12_forget := goodIn_r _ [929, 416, 1168, 1169, 1170, 1171, 1172, 1173, 1174, 1175, 1176, 1177, 1178, 1179, 1180, 1181, 1182, 1183, 1184, 1185, 1186, 1187, 1188, 1189, 1190, 1191, 1192, 1193, 1194, 1195, 1196, 1197, 1198, 1199, 1200, 1201, 1202, 1203, 1204, 1205, 1206, 1207, 1208, 1209, 1210, 1211, 1212] (by decide +kernel) (by decide +kernel)
set_option maxRecDepth 20000 in
theorem gL_law_X12_forget : GoodIn wsL_law (wsV RL 108 RX12 yX12_forget wsX12_forget) := goodIn_app (goodIn_of _ (by decide +kernel)) ggL_law_X12_forget
set_option maxRecDepth 20000 in
theorem ggL_law_X11_cuts : GoodIn wsL_law wsX11_cuts := goodIn_r _ [933, 934, 935, 936, 2, 937, 323, 16, 29, 30, 515, 516, 517, 15, 518, 359, 45, 938, 939, 940, 344, 941, 393, 579, 560, 561, 562, 392, 563, 564, 565, 566, 567, 568, 569, 580, 571, 572, 573, 1154, 1155, 1156, 1157, 1158, 1159, 1160, 1161, 1162, 1163, 1164, 1165, 1166, 1167, 1213, 1214, 1215, 1216, 1217, 1218, 1219, 1255, 1256, 1257, 1258] (by decide +kernel) (by decide +kernel)
set_option maxRecDepth 20000 in
theorem gL_law_X11_cuts : GoodIn wsL_law (wsV RL 109 RX11 yX11_cuts wsX11_cuts) := goodIn_app (goodIn_of _ (by decide +kernel)) ggL_law_X11_cuts
set_option maxRecDepth 20000 in
theorem ggL_law_X12_cuts : GoodIn wsL_law wsX12_cuts := goodIn_r _ [945, 946, 134, 135, 5, 136, 947, 948, 949, 950, 416, 93, 94, 608, 609, 610, 611, 87, 88, 601, 602, 603, 612, 613, 614, 1168, 1169, 1170, 1171, 1172, 1173, 1174, 1175, 1176, 1177, 1178, 1179, 1180, 1181, 1182, 1183, 1184, 1185, 1186, 1187, 1188, 1189, 1190, 1191, 1192, 1193, 1194, 1195, 1196, 1197, 1198, 1199, 1200, 1201, 1202, 1203, 1204, 1205, 1206, 1207, 1208, 1209, 1210, 1211, 1212] (by decide +kernel) (by decide +kernel)
set_option maxRecDepth 20000 in
theorem gL_law_X12_cuts : GoodIn wsL_law (wsV RL 112 RX12 yX12_cuts wsX12_cuts) := goodIn_app (goodIn_of _ (by decide +kernel)) ggL_law_X12_cuts
set_option maxRecDepth 20000 in
theorem ggL_law_X11_how : GoodIn wsL_law wsX11_how := goodIn_r _ [954, 16, 423, 424, 425, 15, 426, 358, 43, 955, 956, 957, 2, 958, 323, 29, 30, 515, 516, 517, 518, 359, 45, 574, 575, 576, 344, 577, 393, 578, 450, 451, 452, 332, 453, 454, 455, 456, 457, 366, 458, 369, 459, 460, 461, 462, 341, 463, 464, 465, 466, 467, 468, 469, 470, 471, 335, 472, 473, 474, 475, 476, 477, 579, 560, 561, 562, 392, 563, 564, 565, 566, 567, 568, 569, 580, 571, 572, 573, 581, 582, 583, 584, 585, 586, 587, 588, 589, 590, 338, 591, 592, 593, 594, 595, 596, 1154, 1155, 1156, 1157, 1158, 1159, 1160, 1161, 1162, 1163, 1164, 1165, 1166, 1167, 1213, 1214, 1215, 1216, 1217, 1218, 1219, 1255, 1256, 1257, 1258, 1247, 1248, 1253, 1254, 1251, 1252, 1249, 1250] (by decide +kernel) (by decide +kernel)
set_option maxRecDepth 20000 in
theorem gL_law_X11_how : GoodIn wsL_law (wsV RL 113 RX11 yX11_how wsX11_how) := goodIn_app (goodIn_of _ (by decide +kernel)) ggL_law_X11_how
set_option maxRecDepth 20000 in
theorem ggL_law_X12_how : GoodIn wsL_law wsX12_how := goodIn_r _ [962, 83, 84, 85, 486, 487, 488, 5, 489, 258, 134, 135, 136, 494, 495, 496, 497, 498, 499, 500, 501, 502, 947, 948, 949, 950, 416, 93, 94, 608, 609, 610, 611, 87, 88, 601, 602, 603, 612, 613, 614, 1168, 1169, 1170, 1171, 1172, 1173, 1174, 1175, 1176, 1177, 1178, 1179, 1180, 1181, 1182, 1183, 1184, 1185, 1186, 1187, 1188, 1189, 1190, 1191, 1192, 1193, 1194, 1195, 1196, 1197, 1198, 1199, 1200, 1201, 1202, 1203, 1204, 1205, 1206, 1207, 1208, 1209, 1210, 1211, 1212] (by decide +kernel) (by decide +kernel)
set_option maxRecDepth 20000 in
theorem gL_law_X12_how : GoodIn wsL_law (wsV RL 116 RX12 yX12_how wsX12_how) := goodIn_app (goodIn_of _ (by decide +kernel)) ggL_law_X12_how
set_option maxRecDepth 20000 in
theorem ggL_law_X11_odds : GoodIn wsL_law wsX11_odds := goodIn_r _ [966, 16, 648, 649, 641, 650, 515, 516, 517, 15, 518, 359, 45, 967, 968, 969, 970, 358, 971, 564, 565, 566, 567, 568, 569, 780, 781, 782, 2, 783, 784, 24, 423, 424, 425, 426, 43, 441, 442, 443, 23, 444, 57, 574, 575, 576, 344, 577, 393, 578, 450, 451, 452, 332, 453, 454, 455, 456, 457, 366, 458, 369, 459, 460, 461, 462, 341, 463, 464, 465, 466, 467, 468, 469, 470, 471, 335, 472, 473, 474, 475, 476, 477, 579, 560, 561, 562, 392, 563, 580, 571, 572, 573, 581, 582, 583, 584, 585, 586, 587, 588, 589, 590, 338, 591, 592, 593, 594, 595, 596, 972, 973, 974, 975, 976, 977, 978, 979, 980, 981, 982, 983, 984, 1154, 1155, 1156, 1157, 1158, 1159, 1160, 1161, 1162, 1163, 1164, 1165, 1166, 1167, 1213, 1214, 1215, 1216, 1217, 1218, 1219, 1230, 1231, 1232, 1233, 1234, 1235, 1236, 1255, 1256, 1257, 1258, 1247, 1248, 1253, 1254, 1251, 1252, 1249, 1250] (by decide +kernel) (by decide +kernel)
set_option maxRecDepth 20000 in
theorem gL_law_X11_odds : GoodIn wsL_law (wsV RL 117 RX11 yX11_odds wsX11_odds) := goodIn_app (goodIn_of _ (by decide +kernel)) ggL_law_X11_odds
set_option maxRecDepth 20000 in
theorem ggL_law_X12_odds : GoodIn wsL_law wsX12_odds := goodIn_r _ [988, 258, 896, 134, 135, 5, 136, 527, 528, 529, 530, 260, 601, 602, 603, 500, 501, 502, 604, 605, 606, 607, 83, 490, 491, 492, 493, 84, 85, 80, 494, 495, 496, 497, 498, 499, 608, 609, 610, 611, 87, 88, 612, 613, 614, 989, 990, 991, 1168, 1169, 1170, 1171, 1172, 1173, 1174, 1175, 1176, 1177, 1178, 1179, 1180, 1181, 1182, 1183, 1184, 1185, 1186, 1187, 1188, 1189, 1190, 1191, 1192, 1193, 1194, 1195, 1196, 1197, 1198, 1199, 1200, 1201, 1202, 1203, 1204, 1205, 1206, 1207, 1208, 1209, 1210, 1211, 1212] (by decide +kernel) (by decide +kernel)
set_option maxRecDepth 20000 in
theorem gL_law_X12_odds : GoodIn wsL_law (wsV RL 121 RX12 yX12_odds wsX12_odds) := goodIn_app (goodIn_of _ (by decide +kernel)) ggL_law_X12_odds
set_option maxRecDepth 20000 in
theorem ggL_law_X11_rack : GoodIn wsL_law wsX11_rack := goodIn_r _ [995, 996, 997, 998, 2, 999, 36, 1000, 1001, 1002, 1003, 1004, 1005, 38, 1006, 75, 1007, 74, 1154, 1155, 1156, 1157, 1158, 1159, 1160, 1161, 1162, 1163, 1164, 1165, 1166, 1167, 1244, 1245, 1246] (by decide +kernel) (by decide +kernel)
set_option maxRecDepth 20000 in
theorem gL_law_X11_rack : GoodIn wsL_law (wsV RL 122 RX11 yX11_rack wsX11_rack) := goodIn_app (goodIn_of _ (by decide +kernel)) ggL_law_X11_rack
set_option maxRecDepth 20000 in
theorem ggL_law_X12_rack : GoodIn wsL_law wsX12_rack := goodIn_r _ [1011, 631, 109, 110, 111, 1012, 1013, 5, 1014, 1015, 134, 135, 136, 1168, 1169, 1170, 1171, 1172, 1173, 1174, 1175, 1176, 1177, 1178, 1179, 1180, 1181, 1182, 1183, 1184, 1185, 1186, 1187, 1188, 1189, 1190, 1191, 1192, 1193, 1194, 1195, 1196, 1197, 1198, 1199, 1200, 1201, 1202, 1203, 1204, 1205, 1206, 1207, 1208, 1209, 1210, 1211, 1212] (by decide +kernel) (by decide +kernel)
set_option maxRecDepth 20000 in
theorem gL_law_X12_rack : GoodIn wsL_law (wsV RL 125 RX12 yX12_rack wsX12_rack) := goodIn_app (goodIn_of _ (by decide +kernel)) ggL_law_X12_rack
set_option maxRecDepth 20000 in
theorem ggL_law_X11_hang : GoodIn wsL_law wsX11_hang := goodIn_r _ [1019, 1020, 996, 997, 998, 2, 999, 36, 1000, 1001, 1002, 1021, 1022, 1023, 38, 1024, 75, 1025, 1026, 1027, 1028, 1007, 1029, 1030, 1031, 1032, 74, 1033, 1034, 1035, 1036, 1244, 1245, 1246, 1154, 1155, 1156, 1157, 1158, 1159, 1160, 1161, 1162, 1163, 1164, 1165, 1166, 1167] (by decide +kernel) (by decide +kernel)
set_option maxRecDepth 20000 in
theorem gL_law_X11_hang : GoodIn wsL_law (wsV RL 128 RX11 yX11_hang wsX11_hang) := goodIn_app (goodIn_of _ (by decide +kernel)) ggL_law_X11_hang
set_option maxRecDepth 20000 in
theorem ggL_law_X12_hang : GoodIn wsL_law wsX12_hang := goodIn_r _ [1040, 631, 111, 1012, 1013, 5, 1014, 1015, 134, 135, 136, 1041, 1042, 1043, 1044, 110, 109, 1045, 1046, 1047, 1048, 1049, 1050, 1051, 1168, 1169, 1170, 1171, 1172, 1173, 1174, 1175, 1176, 1177, 1178, 1179, 1180, 1181, 1182, 1183, 1184, 1185, 1186, 1187, 1188, 1189, 1190, 1191, 1192, 1193, 1194, 1195, 1196, 1197, 1198, 1199, 1200, 1201, 1202, 1203, 1204, 1205, 1206, 1207, 1208, 1209, 1210, 1211, 1212] (by decide +kernel) (by decide +kernel)
set_option maxRecDepth 20000 in
theorem gL_law_X12_hang : GoodIn wsL_law (wsV RL 132 RX12 yX12_hang wsX12_hang) := goodIn_app (goodIn_of _ (by decide +kernel)) ggL_law_X12_hang
set_option maxRecDepth 20000 in
theorem ggL_law_X11_look : GoodIn wsL_law wsX11_look := goodIn_r _ [1055, 1056, 1057, 1058, 1059, 1060, 1061, 1062, 1063, 996, 997, 998, 2, 999, 36, 1021, 1022, 1023, 38, 1024, 75, 1025, 1026, 1027, 1028, 1007, 1064, 1065, 1066, 1067, 74, 1154, 1155, 1156, 1157, 1158, 1159, 1160, 1161, 1162, 1163, 1164, 1165, 1166, 1167, 1244, 1245, 1246] (by decide +kernel) (by decide +kernel)
set_option maxRecDepth 20000 in
theorem gL_law_X11_look : GoodIn wsL_law (wsV RL 133 RX11 yX11_look wsX11_look) := goodIn_app (goodIn_of _ (by decide +kernel)) ggL_law_X11_look
set_option maxRecDepth 20000 in
theorem ggL_law_X12_look : GoodIn wsL_law wsX12_look := goodIn_r _ [1071, 1072, 110, 1073, 1074, 111, 1075, 1076, 1077, 1078, 1012, 1013, 5, 1014, 1015, 134, 135, 136, 1045, 1046, 1047, 1048, 1168, 1169, 1170, 1171, 1172, 1173, 1174, 1175, 1176, 1177, 1178, 1179, 1180, 1181, 1182, 1183, 1184, 1185, 1186, 1187, 1188, 1189, 1190, 1191, 1192, 1193, 1194, 1195, 1196, 1197, 1198, 1199, 1200, 1201, 1202, 1203, 1204, 1205, 1206, 1207, 1208, 1209, 1210, 1211, 1212] (by decide +kernel) (by decide +kernel)
set_option maxRecDepth 20000 in
theorem gL_law_X12_look : GoodIn wsL_law (wsV RL 137 RX12 yX12_look wsX12_look) := goodIn_app (goodIn_of _ (by decide +kernel)) ggL_law_X12_look
set_option maxRecDepth 20000 in
theorem ggL_law_X11_copy : GoodIn wsL_law wsX11_copy := goodIn_r _ [1082, 1020, 996, 997, 998, 2, 999, 36, 1021, 1022, 1023, 38, 1024, 75, 1025, 1026, 1027, 1028, 1007, 1064, 1065, 1066, 1067, 74, 1029, 1030, 1031, 1032, 1033, 1034, 1035, 1036, 1244, 1245, 1246, 1154, 1155, 1156, 1157, 1158, 1159, 1160, 1161, 1162, 1163, 1164, 1165, 1166, 1167] (by decide +kernel) (by decide +kernel)
set_option maxRecDepth 20000 in
theorem gL_law_X11_copy : GoodIn wsL_law (wsV RL 138 RX11 yX11_copy wsX11_copy) := goodIn_app (goodIn_of _ (by decide +kernel)) ggL_law_X11_copy
set_option maxRecDepth 20000 in
theorem ggL_law_X12_copy : GoodIn wsL_law wsX12_copy := goodIn_r _ [1086, 110, 109, 112, 111, 1012, 1013, 5, 1014, 1015, 134, 135, 136, 1045, 1046, 1047, 1048, 1168, 1169, 1170, 1171, 1172, 1173, 1174, 1175, 1176, 1177, 1178, 1179, 1180, 1181, 1182, 1183, 1184, 1185, 1186, 1187, 1188, 1189, 1190, 1191, 1192, 1193, 1194, 1195, 1196, 1197, 1198, 1199, 1200, 1201, 1202, 1203, 1204, 1205, 1206, 1207, 1208, 1209, 1210, 1211, 1212] (by decide +kernel) (by decide +kernel)
set_option maxRecDepth 20000 in
theorem gL_law_X12_copy : GoodIn wsL_law (wsV RL 142 RX12 yX12_copy wsX12_copy) := goodIn_app (goodIn_of _ (by decide +kernel)) ggL_law_X12_copy
set_option maxRecDepth 20000 in
theorem ggL_law_X11_drop : GoodIn wsL_law wsX11_drop := goodIn_r _ [1090, 1020, 1091, 996, 997, 998, 2, 999, 36, 1021, 1022, 1023, 38, 1024, 75, 1244, 1245, 1246, 1154, 1155, 1156, 1157, 1158, 1159, 1160, 1161, 1162, 1163, 1164, 1165, 1166, 1167] (by decide +kernel) (by decide +kernel)
set_option maxRecDepth 20000 in
theorem gL_law_X11_drop : GoodIn wsL_law (wsV RL 143 RX11 yX11_drop wsX11_drop) := goodIn_app (goodIn_of _ (by decide +kernel)) ggL_law_X11_drop
set_option maxRecDepth 20000 in
theorem ggL_law_X12_drop : GoodIn wsL_law wsX12_drop := goodIn_r _ [1095, 110, 1012, 1013, 5, 1014, 1015, 134, 135, 136, 1168, 1169, 1170, 1171, 1172, 1173, 1174, 1175, 1176, 1177, 1178, 1179, 1180, 1181, 1182, 1183, 1184, 1185, 1186, 1187, 1188, 1189, 1190, 1191, 1192, 1193, 1194, 1195, 1196, 1197, 1198, 1199, 1200, 1201, 1202, 1203, 1204, 1205, 1206, 1207, 1208, 1209, 1210, 1211, 1212] (by decide +kernel) (by decide +kernel)
set_option maxRecDepth 20000 in
theorem gL_law_X12_drop : GoodIn wsL_law (wsV RL 146 RX12 yX12_drop wsX12_drop) := goodIn_app (goodIn_of _ (by decide +kernel)) ggL_law_X12_drop
set_option maxRecDepth 20000 in
theorem ggL_law_X11_share : GoodIn wsL_law wsX11_share := goodIn_r _ [1099, 1056, 1100, 1057, 1020, 1101, 1091, 1102, 1103, 996, 997, 998, 2, 999, 36, 1021, 1022, 1023, 38, 1024, 75, 1104, 1105, 1106, 1107, 1007, 74, 976, 977, 978, 979, 980, 641, 981, 982, 983, 984, 1244, 1245, 1246, 1154, 1155, 1156, 1157, 1158, 1159, 1160, 1161, 1162, 1163, 1164, 1165, 1166, 1167] (by decide +kernel) (by decide +kernel)
set_option maxRecDepth 20000 in
theorem gL_law_X11_share : GoodIn wsL_law (wsV RL 147 RX11 yX11_share wsX11_share) := goodIn_app (goodIn_of _ (by decide +kernel)) ggL_law_X11_share
set_option maxRecDepth 20000 in
theorem ggL_law_X12_share : GoodIn wsL_law wsX12_share := goodIn_r _ [1111, 1072, 1112, 110, 1113, 111, 1114, 1012, 1013, 5, 1014, 1015, 134, 135, 136, 1041, 1042, 1043, 1044, 109, 1168, 1169, 1170, 1171, 1172, 1173, 1174, 1175, 1176, 1177, 1178, 1179, 1180, 1181, 1182, 1183, 1184, 1185, 1186, 1187, 1188, 1189, 1190, 1191, 1192, 1193, 1194, 1195, 1196, 1197, 1198, 1199, 1200, 1201, 1202, 1203, 1204, 1205, 1206, 1207, 1208, 1209, 1210, 1211, 1212] (by decide +kernel) (by decide +kernel)
set_option maxRecDepth 20000 in
theorem gL_law_X12_share : GoodIn wsL_law (wsV RL 150 RX12 yX12_share wsX12_share) := goodIn_app (goodIn_of _ (by decide +kernel)) ggL_law_X12_share
set_option maxRecDepth 20000 in
theorem ggL_law_X11_film : GoodIn wsL_law wsX11_film := goodIn_r _ [1118, 16, 1020, 767, 24, 423, 424, 425, 15, 426, 358, 43, 996, 997, 998, 2, 999, 36, 1021, 1022, 1023, 38, 1024, 75, 1025, 1026, 1027, 1028, 1007, 441, 442, 443, 23, 444, 57, 763, 764, 765, 766, 515, 516, 517, 518, 359, 45, 574, 575, 576, 344, 577, 393, 578, 450, 451, 452, 332, 453, 454, 455, 456, 457, 366, 458, 369, 459, 460, 461, 462, 341, 463, 464, 465, 466, 467, 468, 469, 470, 471, 335, 472, 473, 474, 475, 476, 477, 579, 560, 561, 562, 392, 563, 564, 565, 566, 567, 568, 569, 580, 571, 572, 573, 581, 582, 583, 584, 585, 586, 587, 588, 589, 590, 338, 591, 592, 593, 594, 595, 596, 1029, 1030, 1031, 1032, 74, 1033, 1034, 1035, 1036, 1154, 1155, 1156, 1157, 1158, 1159, 1160, 1161, 1162, 1163, 1164, 1165, 1166, 1167, 1244, 1245, 1246, 1213, 1214, 1215, 1216, 1217, 1218, 1219, 1230, 1231, 1232, 1233, 1234, 1235, 1236, 1255, 1256, 1257, 1258, 1247, 1248, 1253, 1254, 1251, 1252, 1249, 1250] (by decide +kernel) (by decide +kernel)
set_option maxRecDepth 20000 in
theorem gL_law_X11_film : GoodIn wsL_law (wsV RL 151 RX11 yX11_film wsX11_film) := goodIn_app (goodIn_of _ (by decide +kernel)) ggL_law_X11_film
set_option maxRecDepth 20000 in
theorem ggL_law_X12_film : GoodIn wsL_law wsX12_film := goodIn_r _ [1122, 260, 111, 486, 487, 488, 5, 489, 258, 134, 135, 136, 1012, 1013, 1014, 1015, 1041, 1042, 1043, 1044, 110, 109, 1045, 1046, 1047, 1048, 772, 773, 774, 775, 604, 605, 606, 607, 83, 490, 491, 492, 493, 84, 85, 80, 494, 495, 496, 497, 498, 499, 500, 501, 502, 608, 609, 610, 611, 87, 88, 601, 602, 603, 612, 613, 614, 1168, 1169, 1170, 1171, 1172, 1173, 1174, 1175, 1176, 1177, 1178, 1179, 1180, 1181, 1182, 1183, 1184, 1185, 1186, 1187, 1188, 1189, 1190, 1191, 1192, 1193, 1194, 1195, 1196, 1197, 1198, 1199, 1200, 1201, 1202, 1203, 1204, 1205, 1206, 1207, 1208, 1209, 1210, 1211, 1212] (by decide +kernel) (by decide +kernel)
set_option maxRecDepth 20000 in
theorem gL_law_X12_film : GoodIn wsL_law (wsV RL 154 RX12 yX12_film wsX12_film) := goodIn_app (goodIn_of _ (by decide +kernel)) ggL_law_X12_film
set_option maxRecDepth 20000 in
theorem ggL_law_X11_count : GoodIn wsL_law wsX11_count := goodIn_r _ [1126, 16, 784, 767, 861, 345, 24, 722, 1127, 1128, 323, 325, 20, 117, 813, 814, 815, 2, 816, 478, 479, 480, 481, 445, 446, 447, 23, 448, 58, 1129, 1130, 1131, 1132, 1133, 827, 641, 828, 543, 544, 545, 546, 60, 1134, 1135, 1136, 1137, 36, 1021, 1022, 1023, 38, 1024, 75, 1154, 1155, 1156, 1157, 1158, 1159, 1160, 1161, 1162, 1163, 1164, 1165, 1166, 1167, 1213, 1214, 1215, 1216, 1217, 1218, 1219, 1230, 1231, 1232, 1233, 1234, 1235, 1236, 1220, 1221, 1222, 1223, 1224, 1225, 1226, 1227, 1228, 1229, 1244, 1245, 1246] (by decide +kernel) (by decide +kernel)
set_option maxRecDepth 20000 in
theorem gL_law_X11_count : GoodIn wsL_law (wsV RL 155 RX11 yX11_count wsX11_count) := goodIn_app (goodIn_of _ (by decide +kernel)) ggL_law_X11_count
set_option maxRecDepth 20000 in
theorem ggL_law_X12_count : GoodIn wsL_law wsX12_count := goodIn_r _ [1141, 258, 260, 262, 91, 80, 416, 415, 133, 1142, 1143, 1144, 5, 1145, 503, 504, 505, 506, 1146, 1147, 1148, 1149, 1150, 1151, 1152, 1153, 110, 1168, 1169, 1170, 1171, 1172, 1173, 1174, 1175, 1176, 1177, 1178, 1179, 1180, 1181, 1182, 1183, 1184, 1185, 1186, 1187, 1188, 1189, 1190, 1191, 1192, 1193, 1194, 1195, 1196, 1197, 1198, 1199, 1200, 1201, 1202, 1203, 1204, 1205, 1206, 1207, 1208, 1209, 1210, 1211, 1212] (by decide +kernel) (by decide +kernel)
set_option maxRecDepth 20000 in
theorem gL_law_X12_count : GoodIn wsL_law (wsV RL 158 RX12 yX12_count wsX12_count) := goodIn_app (goodIn_of _ (by decide +kernel)) ggL_law_X12_count
