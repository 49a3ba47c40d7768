def wp_95 : Nat → Nat := fun i => [0, 0, 273, 0, 0, 0, 0].getD i 0
theorem ok_95 : okS 95 cd_95 wp_95 0 7 = true := by decide +kernel
theorem mo_95 : mOK 95 1567 1565 1566 139 = true := by decide +kernel
def wp_96 : Nat → Nat := fun i => [0, 0, 272, 0, 0, 0, 0, 0, 0, 0, 0, 273, 0, 0, 0, 0, 0, 272, 0, 0, 0, 0, 0, 0, 0, 0, 0, 0, 0, 271, 0, 0, 0, 271, 0, 0, 0, 0, 0].getD i 0
theorem ok_96 : okS 96 cd_96 wp_96 0 39 = true := by decide +kernel
theorem mo_96 : mOK 96 567 565 566 139 = true := by decide +kernel
def wp_97 : Nat → Nat := fun i => [0, 0, 272, 0, 0, 0, 0, 0, 0, 0, 0, 273, 0, 0, 0, 0, 0, 272, 0, 0, 0, 0, 0, 0, 0, 0, 0, 0, 0, 271, 0, 0, 0, 271, 0, 0, 0, 0].getD i 0
theorem ok_97 : okS 97 cd_97 wp_97 0 38 = true := by decide +kernel
theorem mo_97 : mOK 97 797 795 796 139 = true := by decide +kernel
def wp_98 : Nat → Nat := fun i => [0, 0, 273, 0, 0, 0, 0, 794, 0].getD i 0
theorem ok_98 : okS 98 cd_98 wp_98 0 9 = true := by decide +kernel
theorem mo_98 : mOK 98 793 791 792 139 = true := by decide +kernel
def wp_99 : Nat → Nat := fun i => [0, 759, 0, 0, 0, 0, 273, 0, 272, 0, 0, 0, 0, 0, 0, 0, 272, 0, 0, 0, 0, 271, 0, 0, 0, 271, 0, 0, 0, 0, 0, 0, 0, 273, 0, 0, 273, 0, 273, 0, 0, 0].getD i 0
theorem ok_99 : okS 99 cd_99 wp_99 0 42 = true := by decide +kernel
theorem mo_99 : mOK 99 758 756 757 139 = true := by decide +kernel
def wp_100 : Nat → Nat := fun i => [0, 0, 1267, 0, 0, 0, 0, 272, 0, 0, 0, 273, 0, 272, 0, 0, 271, 0, 592, 0, 0, 0, 0, 0, 272, 0, 0, 0, 0, 271, 0, 0, 271, 0, 0, 272, 0, 0, 0, 0, 0, 0, 0, 273, 0, 0, 273, 0].getD i 0
theorem ok_100 : okS 100 cd_100 wp_100 0 48 = true := by decide +kernel
theorem mo_100 : mOK 100 1266 1264 1265 139 = true := by decide +kernel
def wp_101 : Nat → Nat := fun i => [0, 0, 273, 0].getD i 0
theorem ok_101 : okS 101 cd_101 wp_101 0 4 = true := by decide +kernel
theorem mo_101 : mOK 101 602 600 601 139 = true := by decide +kernel
def wp_102 : Nat → Nat := fun i => [0, 273, 0, 272, 0, 0, 271, 0, 0, 271, 0, 592, 592, 0, 0, 0, 0, 271, 0, 0, 271, 0, 0, 595, 0, 0, 273, 273, 0].getD i 0
theorem ok_102 : okS 102 cd_102 wp_102 0 29 = true := by decide +kernel
theorem mo_102 : mOK 102 591 589 590 139 = true := by decide +kernel
def wp_103 : Nat → Nat := fun i => [0, 264, 0, 265, 0, 0, 0, 0, 267, 281, 0, 265, 0, 0, 0, 0, 267, 286, 0, 265, 0, 0, 0, 0, 267, 291, 0, 265, 0, 0, 0, 0, 267, 295, 0, 265, 0, 0, 0, 0, 267, 297, 0, 0, 0, 299, 0, 0, 304, 0, 0, 309, 0, 0, 313, 0, 0, 326, 0].getD i 0
theorem ok_103 : okS 103 cd_103 wp_103 0 64 = true := by decide +kernel
theorem mo_103 : mOK 103 263 262 0 138 = true := by decide +kernel
def wp_104 : Nat → Nat := fun i => [0, 281, 0, 281, 588, 0, 286, 0, 286, 588, 0, 291, 0, 291, 588, 0, 295, 0, 295, 588, 0, 297, 0, 297, 588, 0, 0, 304, 304, 0, 0, 307, 307, 0, 0, 309, 309, 0, 0, 313, 313, 0, 0, 316, 316, 0, 0, 319, 319, 0, 0, 322, 322, 0, 0, 324, 324, 0, 0, 326, 326, 0].getD i 0
theorem ok_104 : okS 104 cd_104 wp_104 0 64 = true := by decide +kernel
theorem mo_104 : mOK 104 587 585 586 138 = true := by decide +kernel
def wp_105 : Nat → Nat := fun i => [0, 0, 0, 0, 0, 0, 291, 563, 0, 0, 0, 291, 0, 0, 564, 0, 0, 0, 0, 0, 0].getD i 0
theorem ok_105 : okS 105 cd_105 wp_105 0 21 = true := by decide +kernel
theorem mo_105 : mOK 105 562 560 561 138 = true := by decide +kernel
def wp_106 : Nat → Nat := fun i => [0, 0, 286, 0, 0, 564, 0, 286, 0, 0, 564, 0, 0, 0, 1081, 0].getD i 0
theorem ok_106 : okS 106 cd_106 wp_106 0 16 = true := by decide +kernel
theorem mo_106 : mOK 106 1080 1078 1079 138 = true := by decide +kernel
def wp_107 : Nat → Nat := fun i => [0, 0, 286, 0, 0, 564, 0, 0, 1081, 0].getD i 0
theorem ok_107 : okS 107 cd_107 wp_107 0 10 = true := by decide +kernel
theorem mo_107 : mOK 107 1085 1083 1084 138 = true := by decide +kernel
def wp_108 : Nat → Nat := fun i => [0, 0, 615, 0, 0, 0, 0, 0, 0, 615, 0, 0, 0, 0, 0, 0, 0, 0, 0, 0, 0, 0, 0, 0, 0, 0, 0, 0, 0, 0, 0, 0, 0, 0, 0, 0, 0, 0, 0, 0, 0, 0, 0, 0, 0, 0, 0, 0, 0].getD i 0
theorem ok_108 : okS 108 cd_108 wp_108 0 64 = true := by decide +kernel
theorem mo_108 : mOK 108 1088 1087 0 138 = true := by decide +kernel
def wp_109 : Nat → Nat := fun i => [0, 0, 615, 0, 0, 0, 0, 0, 0, 0, 615, 0, 0, 0, 0, 0, 0, 0, 0, 0].getD i 0
theorem ok_109 : okS 109 cd_109 wp_109 0 20 = true := by decide +kernel
theorem mo_109 : mOK 109 1240 1239 0 138 = true := by decide +kernel
def wp_110 : Nat → Nat := fun i => [0, 0, 0, 0, 0, 0, 0, 0, 0, 0, 1077, 0, 0, 0, 1082, 0, 0, 0, 1086, 0, 0, 0, 0, 0, 0, 0].getD i 0
theorem ok_110 : okS 110 cd_110 wp_110 0 26 = true := by decide +kernel
theorem mo_110 : mOK 110 1076 1074 1075 138 = true := by decide +kernel
def wp_111 : Nat → Nat := fun i => [0, 0, 0, 0, 1081, 0, 0, 0, 0, 0, 0, 0, 0, 0, 281, 0, 0, 564, 0, 0, 1086, 0, 0, 0, 0, 0, 0, 0].getD i 0
theorem ok_111 : okS 111 cd_111 wp_111 0 28 = true := by decide +kernel
theorem mo_111 : mOK 111 1377 1375 1376 138 = true := by decide +kernel
def wp_112 : Nat → Nat := fun i => [0, 0, 0, 0, 0, 0, 0, 0, 0, 0, 0, 0, 0, 0, 0, 1077, 0, 0, 0, 1082, 0, 281, 0, 0, 564, 0, 0, 1086, 0, 0, 0, 0, 0, 0, 0, 0].getD i 0
theorem ok_112 : okS 112 cd_112 wp_112 0 36 = true := by decide +kernel
theorem mo_112 : mOK 112 1366 1364 1365 138 = true := by decide +kernel
def wp_113 : Nat → Nat := fun i => (([[0, 0, 0, 0, 1077, 301, 0, 0, 0, 0, 1082, 302, 0, 0, 300, 0, 0, 0, 0, 0, 0, 281, 563, 0, 0, 281, 0, 0, 564, 0, 0, 0], [0, 281, 0, 0, 564, 0, 615, 0, 0, 1081, 0, 0, 0, 0, 0, 281, 0, 0, 564, 0, 0, 0, 0, 0, 0, 313, 0, 0, 281, 0, 0, 564], [0, 0, 0, 0, 0, 0, 0, 0, 0, 0, 0, 0, 0, 0, 301, 0, 302, 0, 0, 0, 1238, 0, 0, 300, 0, 0, 300, 0, 299, 0, 0, 0], [299, 0, 300, 0, 0, 0, 0, 300, 0, 0, 300, 0, 0, 0, 0, 0, 0, 0, 0, 301, 0, 0, 0, 0, 0, 0, 0, 302, 0, 0, 0, 0], [0, 0, 0, 0, 0]] : List (List Nat)).getD (i / 32) []).getD (i % 32) 0
theorem ok_113 : okS 113 cd_113 wp_113 0 160 = true := by decide +kernel
theorem mo_113 : mOK 113 1237 1235 1236 138 = true := by decide +kernel
def wp_114 : Nat → Nat := fun i => [0, 0, 0, 0, 300, 0, 0, 0, 299, 0, 0, 0, 299, 0, 0, 0, 0, 0].getD i 0
theorem ok_114 : okS 114 cd_114 wp_114 0 18 = true := by decide +kernel
theorem mo_114 : mOK 114 1252 1251 41 138 = true := by decide +kernel
def wp_115 : Nat → Nat := fun i => [0, 0, 0, 0, 0, 0, 1234, 0, 0, 0, 0, 1241, 0, 0, 0, 0, 0, 0, 0, 0, 303, 0, 1253, 0, 0, 0, 0, 0].getD i 0
theorem ok_115 : okS 115 cd_115 wp_115 0 28 = true := by decide +kernel
theorem mo_115 : mOK 115 1233 1231 1232 138 = true := by decide +kernel
def wp_116 : Nat → Nat := fun i => [0, 0, 303, 0, 0, 0, 1245, 0, 0, 0, 0, 0, 0, 0, 1253, 0, 0, 0, 0, 313, 0, 303, 0, 0, 0, 303, 1245, 0, 0, 0].getD i 0
theorem ok_116 : okS 116 cd_116 wp_116 0 30 = true := by decide +kernel
theorem mo_116 : mOK 116 1244 1242 1243 138 = true := by decide +kernel
def wp_117 : Nat → Nat := fun i => [0, 0, 0, 0, 300, 0, 0, 0, 1249, 0, 0, 301, 0, 302, 0, 281, 0, 0, 564, 0, 0, 281, 0, 0, 564, 0, 0, 0, 281, 0, 0, 564, 0, 1086, 0, 0, 0, 0, 0, 0, 0].getD i 0
theorem ok_117 : okS 117 cd_117 wp_117 0 41 = true := by decide +kernel
theorem mo_117 : mOK 117 1248 1247 40 138 = true := by decide +kernel
def wp_118 : Nat → Nat := fun i => [0, 0, 0, 0, 300, 0, 0, 0, 1249, 0, 0, 0, 0, 281, 0, 0, 564, 0, 0, 0, 0, 0, 0, 0, 0, 0, 301, 0, 302, 0, 281, 0, 0, 564, 0, 0, 281, 0, 0, 564, 0, 0, 0, 281, 0, 0, 564, 0, 1238, 0, 0, 0, 0, 0, 0, 0].getD i 0
theorem ok_118 : okS 118 cd_118 wp_118 0 64 = true := by decide +kernel
theorem mo_118 : mOK 118 1256 1255 42 138 = true := by decide +kernel
def wp_119 : Nat → Nat := fun i => (([[0, 0, 1220, 0, 0, 0, 1220, 0, 0, 291, 0, 0, 564, 0, 0, 0, 0, 0, 322, 0, 309, 0, 322, 0, 1221, 0, 1222, 0, 0, 0, 0, 1222], [0, 0, 0, 1223, 0, 0, 0, 1228, 0, 1222, 0, 0, 0, 0, 1222, 0, 0, 0, 1223, 0, 0, 0, 0, 0, 0, 0, 1229, 1230, 0, 0, 0, 0], [0, 0, 0, 324, 0, 281, 0, 0, 564, 0, 324, 0, 291, 0, 0, 0, 291, 0, 0, 564, 0, 0, 1257, 0, 0, 0, 0, 0, 303, 0, 1258, 0], [0, 1229, 1269, 0, 0, 0, 0, 0, 0, 0, 1280, 0, 291, 0, 0, 0, 291, 0, 0, 564, 0, 0, 1257, 0, 291, 0, 0, 0, 0, 291, 0, 0], [564, 0, 0, 1284, 1257, 0, 0]] : List (List Nat)).getD (i / 32) []).getD (i % 32) 0
theorem ok_119 : okS 119 cd_119 wp_119 0 160 = true := by decide +kernel
theorem mo_119 : mOK 119 1219 1217 1218 138 = true := by decide +kernel
def wp_120 : Nat → Nat := fun i => [0, 1227, 0, 326, 0, 0, 0, 326, 0, 0, 0, 326, 0, 0, 0, 0, 0, 0, 0, 0, 0].getD i 0
theorem ok_120 : okS 120 cd_120 wp_120 0 21 = true := by decide +kernel
theorem mo_120 : mOK 120 1226 1225 39 138 = true := by decide +kernel
def wp_121 : Nat → Nat := fun i => [0, 295, 1262, 0, 0, 295, 0, 1263, 0, 295, 1268, 0, 0, 295, 0, 0, 0, 1257, 0, 295, 0, 0, 0, 1257, 0, 295, 0, 0, 0, 1257, 0, 295, 0, 0, 0, 0, 0, 0, 0, 0, 1257, 0].getD i 0
theorem ok_121 : okS 121 cd_121 wp_121 0 42 = true := by decide +kernel
theorem mo_121 : mOK 121 1261 1260 43 138 = true := by decide +kernel
def wp_122 : Nat → Nat := fun i => (([[0, 295, 563, 0, 0, 0, 0, 316, 0, 0, 0, 0, 0, 0, 0, 0, 0, 295, 0, 0, 564, 0, 295, 0, 0, 564, 0, 0, 0, 295, 0, 0], [564, 0, 295, 0, 0, 564, 0, 0, 0, 295, 0, 0, 564, 0, 0, 0, 615, 0, 316, 0, 0, 615, 0, 316, 0, 0, 0, 0, 1273, 0, 1273, 0], [1276, 0, 0, 0, 0, 0]] : List (List Nat)).getD (i / 32) []).getD (i % 32) 0
theorem ok_122 : okS 122 cd_122 wp_122 0 96 = true := by decide +kernel
theorem mo_122 : mOK 122 1272 1271 44 138 = true := by decide +kernel
def wp_123 : Nat → Nat := fun i => (([[0, 295, 0, 0, 564, 0, 0, 0, 0, 295, 0, 0, 564, 0, 0, 0, 0, 0, 295, 0, 0, 564, 0, 0, 0, 0, 1234, 0, 0, 0, 0, 1245], [0, 0, 0, 0, 295, 0, 0, 0, 1257, 0, 295, 0, 0, 0, 1257, 0, 295, 0, 0, 0, 0, 0, 0, 1253, 0, 0, 0, 0, 1257, 0, 0, 0], [295, 0, 1263, 0, 319, 0, 0, 0, 0, 0, 0, 324, 0, 281, 0, 0, 564, 0, 324, 0, 0]] : List (List Nat)).getD (i / 32) []).getD (i % 32) 0
theorem ok_123 : okS 123 cd_123 wp_123 0 96 = true := by decide +kernel
theorem mo_123 : mOK 123 1279 1278 45 138 = true := by decide +kernel
def wp_124 : Nat → Nat := fun i => [0, 297, 1262, 0, 0, 297, 0, 1263, 0, 297, 1268, 0, 0, 297, 0, 0, 0, 0, 1220, 1257, 0, 297, 0, 0, 0, 0, 1220, 1257, 0, 297, 0, 0, 0, 1257, 0, 297, 0, 0, 0, 1257, 0, 297, 0, 0, 0, 1257, 0, 297, 0, 0, 0, 1257, 0].getD i 0
theorem ok_124 : okS 124 cd_124 wp_124 0 64 = true := by decide +kernel
theorem mo_124 : mOK 124 1283 1282 46 138 = true := by decide +kernel
def wp_125 : Nat → Nat := fun i => [0, 297, 563, 0, 0, 297, 0, 297, 563, 0, 0, 0, 564, 0, 0, 0].getD i 0
theorem ok_125 : okS 125 cd_125 wp_125 0 16 = true := by decide +kernel
theorem mo_125 : mOK 125 1731 1729 1730 138 = true := by decide +kernel
def wp_126 : Nat → Nat := fun i => [0, 0, 0, 0, 0, 0, 297, 563, 0, 0, 0, 0, 0, 0, 297, 0, 0, 564, 0, 0, 0, 0, 0, 0, 0, 0, 297, 0, 0, 564, 0, 0, 0, 297, 0, 0, 564, 0, 297, 0, 0, 564, 0, 297, 0, 0, 564, 0, 1230, 0, 0, 0, 0, 0, 0].getD i 0
theorem ok_126 : okS 126 cd_126 wp_126 0 64 = true := by decide +kernel
theorem mo_126 : mOK 126 1750 1748 1749 138 = true := by decide +kernel
def wp_127 : Nat → Nat := fun i => [0, 297, 0, 0, 564, 0, 0, 0, 297, 0, 0, 564, 0, 0, 0, 0, 0, 0].getD i 0
theorem ok_127 : okS 127 cd_127 wp_127 0 18 = true := by decide +kernel
theorem mo_127 : mOK 127 1765 1764 66 138 = true := by decide +kernel
def wp_128 : Nat → Nat := fun i => [0, 0, 0, 0, 0, 0, 297, 563, 0, 0, 0, 0, 1762, 0, 0, 0, 0, 0, 0].getD i 0
theorem ok_128 : okS 128 cd_128 wp_128 0 19 = true := by decide +kernel
theorem mo_128 : mOK 128 1769 1767 1768 138 = true := by decide +kernel
def wp_129 : Nat → Nat := fun i => [0, 0, 0, 0, 297, 563, 0, 0, 0, 297, 563, 0, 0, 0, 0, 0, 1762, 0, 0, 0, 0, 0, 0, 0].getD i 0
theorem ok_129 : okS 129 cd_129 wp_129 0 24 = true := by decide +kernel
theorem mo_129 : mOK 129 1761 1759 1760 138 = true := by decide +kernel
def wp_130 : Nat → Nat := fun i => [0, 0, 0, 0, 0, 0, 281, 563, 0, 0, 281, 0, 0, 564, 0, 281, 0, 0, 564, 0, 615, 0, 0, 0, 0, 0, 281, 0, 0, 564, 0, 281, 0, 0, 564, 0, 0, 0, 0, 0, 0, 0, 0, 0, 281, 0, 0, 564, 0, 281, 0, 0, 564, 0, 0, 0, 0, 0, 0, 0, 0, 0, 0, 0].getD i 0
theorem ok_130 : okS 130 cd_130 wp_130 0 64 = true := by decide +kernel
theorem mo_130 : mOK 130 614 612 613 138 = true := by decide +kernel
def wp_131 : Nat → Nat := fun i => [0, 0, 0, 0, 0, 0, 281, 563, 0, 0, 0, 611, 0, 0, 0, 0, 0, 0, 0, 0, 0, 0, 0].getD i 0
theorem ok_131 : okS 131 cd_131 wp_131 0 23 = true := by decide +kernel
theorem mo_131 : mOK 131 610 608 609 138 = true := by decide +kernel
def wp_132 : Nat → Nat := fun i => [0, 0, 0, 0, 0, 0, 281, 563, 0, 0, 281, 0, 0, 564, 0, 0, 615, 0, 0, 0, 281, 0, 0, 564, 0, 0, 615, 0, 0, 0, 0, 0, 0, 0, 0, 0, 0, 0, 0].getD i 0
theorem ok_132 : okS 132 cd_132 wp_132 0 39 = true := by decide +kernel
theorem mo_132 : mOK 132 1703 1701 1702 138 = true := by decide +kernel
def wp_133 : Nat → Nat := fun i => [0, 281, 0, 0, 564, 0, 281, 0, 0, 564, 0, 0, 0, 0, 281, 0, 0, 564, 0, 615, 0, 0, 0, 281, 0, 0, 564, 0, 615, 0, 0, 0, 0, 1081, 0, 0, 0, 0].getD i 0
theorem ok_133 : okS 133 cd_133 wp_133 0 38 = true := by decide +kernel
theorem mo_133 : mOK 133 1319 1317 1318 138 = true := by decide +kernel
def wp_134 : Nat → Nat := fun i => [0, 0, 0, 0, 281, 563, 0, 0, 0, 0, 0, 0, 0, 0, 0, 1316, 0, 0, 0, 0, 0, 0, 0].getD i 0
theorem ok_134 : okS 134 cd_134 wp_134 0 23 = true := by decide +kernel
theorem mo_134 : mOK 134 1315 1313 1314 138 = true := by decide +kernel
def wp_135 : Nat → Nat := fun i => [0, 191, 0, 0, 0, 192, 0, 0, 0, 194, 0, 0, 0, 195, 0, 0, 0, 196, 0].getD i 0
theorem ok_135 : okS 135 cd_135 wp_135 0 19 = true := by decide +kernel
theorem mo_135 : mOK 135 190 189 0 134 = true := by decide +kernel
def wp_136 : Nat → Nat := fun i => [0, 193, 0].getD i 0
theorem ok_136 : okS 136 cd_136 wp_136 0 3 = true := by decide +kernel
theorem mo_136 : mOK 136 534 532 533 134 = true := by decide +kernel
def wp_137 : Nat → Nat := fun i => [0, 193, 0, 0, 0, 192, 0, 0, 0, 0, 0, 0].getD i 0
theorem ok_137 : okS 137 cd_137 wp_137 0 12 = true := by decide +kernel
theorem mo_137 : mOK 137 526 524 525 134 = true := by decide +kernel
def wp_138 : Nat → Nat := fun i => [0, 0, 0, 0, 0, 193, 0, 0, 193, 0, 192, 0, 0, 0, 192, 0, 193, 0, 0, 0, 0, 0, 0, 0, 0, 193, 0, 0, 193, 0, 0, 0].getD i 0
theorem ok_138 : okS 138 cd_138 wp_138 0 32 = true := by decide +kernel
theorem mo_138 : mOK 138 530 528 529 134 = true := by decide +kernel
def wp_139 : Nat → Nat := fun i => [0, 0, 0, 0, 193, 0, 0, 0, 0, 0, 193, 0, 0].getD i 0
theorem ok_139 : okS 139 cd_139 wp_139 0 13 = true := by decide +kernel
theorem mo_139 : mOK 139 542 540 541 134 = true := by decide +kernel
def wp_140 : Nat → Nat := fun i => [0, 0, 0, 0, 193, 0, 0, 0, 192, 0, 0, 0, 192, 0, 0, 0, 0, 0].getD i 0
theorem ok_140 : okS 140 cd_140 wp_140 0 18 = true := by decide +kernel
theorem mo_140 : mOK 140 663 661 662 134 = true := by decide +kernel
def wp_141 : Nat → Nat := fun i => [0, 0, 197, 0, 0, 198, 0, 0, 0, 0, 193, 0, 0, 0, 660, 664, 0, 0, 0, 667, 0, 0, 0, 660, 683, 0, 0, 0, 686, 0, 0, 0, 660, 0, 0, 0, 0, 0, 0, 0, 660, 679, 0, 0, 0].getD i 0
theorem ok_141 : okS 141 cd_141 wp_141 0 45 = true := by decide +kernel
theorem mo_141 : mOK 141 659 657 658 134 = true := by decide +kernel
def wp_142 : Nat → Nat := fun i => [0, 0, 0, 0, 660, 664, 0, 0, 0, 0, 196, 671, 0, 0, 675, 0, 0, 0, 0, 0, 679, 0].getD i 0
theorem ok_142 : okS 142 cd_142 wp_142 0 22 = true := by decide +kernel
theorem mo_142 : mOK 142 670 669 1 134 = true := by decide +kernel
def wp_143 : Nat → Nat := fun i => [0, 0, 660, 0, 0, 0, 0, 0, 0, 0, 660, 683, 0, 0, 0, 0, 0, 679, 0, 0, 0, 0, 0, 195, 671, 0, 0, 0, 0, 0, 196, 671, 0, 0, 0, 0, 0, 0, 675, 0].getD i 0
theorem ok_143 : okS 143 cd_143 wp_143 0 40 = true := by decide +kernel
theorem mo_143 : mOK 143 689 688 5 134 = true := by decide +kernel
def wp_144 : Nat → Nat := fun i => [0, 197, 0, 0, 197, 0, 0, 0, 0, 0, 197, 0, 0, 0, 0, 0, 0].getD i 0
theorem ok_144 : okS 144 cd_144 wp_144 0 17 = true := by decide +kernel
theorem mo_144 : mOK 144 674 673 2 134 = true := by decide +kernel
def wp_145 : Nat → Nat := fun i => [0, 197, 0, 0, 197, 0, 196, 0, 0, 0, 196, 0, 197, 0, 0, 0, 0, 0].getD i 0
theorem ok_145 : okS 145 cd_145 wp_145 0 18 = true := by decide +kernel
theorem mo_145 : mOK 145 678 677 3 134 = true := by decide +kernel
def wp_146 : Nat → Nat := fun i => [0, 197, 0, 0, 197, 0, 194, 0, 0, 0, 197, 0, 195, 0, 0, 0, 197, 0, 196, 0, 0, 0, 194, 0, 197, 0, 0, 0, 195, 0, 197, 0, 0, 0, 196, 0, 197, 0, 0, 0, 0, 197, 0, 0, 197, 0].getD i 0
theorem ok_146 : okS 146 cd_146 wp_146 0 46 = true := by decide +kernel
theorem mo_146 : mOK 146 682 681 4 134 = true := by decide +kernel
def wp_147 : Nat → Nat := fun i => [0, 0, 0, 0, 0, 0, 0, 0, 0, 0].getD i 0
theorem ok_147 : okS 147 cd_147 wp_147 0 10 = true := by decide +kernel
theorem mo_147 : mOK 147 666 665 0 134 = true := by decide +kernel
def wp_148 : Nat → Nat := fun i => [0, 0, 0, 0, 0, 0, 0, 0, 0, 0].getD i 0
theorem ok_148 : okS 148 cd_148 wp_148 0 10 = true := by decide +kernel
theorem mo_148 : mOK 148 685 684 0 134 = true := by decide +kernel
def wp_149 : Nat → Nat := fun i => [0, 198, 0, 197, 0, 0, 0, 0, 0].getD i 0
theorem ok_149 : okS 149 cd_149 wp_149 0 9 = true := by decide +kernel
theorem mo_149 : mOK 149 693 691 692 134 = true := by decide +kernel
def wp_150 : Nat → Nat := fun i => [0, 198, 0, 0, 198, 0, 197, 0, 0, 198, 0, 195, 0, 0, 0, 195, 0, 198, 0, 0, 0, 193, 0].getD i 0
theorem ok_150 : okS 150 cd_150 wp_150 0 23 = true := by decide +kernel
theorem mo_150 : mOK 150 831 829 830 134 = true := by decide +kernel
def wp_151 : Nat → Nat := fun i => [0, 198, 0, 0, 198, 0, 197, 0, 0, 198, 0, 194, 0, 0, 0, 194, 0, 198, 0, 0, 0, 0, 0, 0, 0].getD i 0
theorem ok_151 : okS 151 cd_151 wp_151 0 25 = true := by decide +kernel
theorem mo_151 : mOK 151 789 788 11 134 = true := by decide +kernel
def wp_152 : Nat → Nat := fun i => [0, 198, 0, 0, 198, 0, 197, 0, 0, 198, 0, 196, 0, 0, 0, 196, 0, 198, 0, 0, 0, 0].getD i 0
theorem ok_152 : okS 152 cd_152 wp_152 0 22 = true := by decide +kernel
theorem mo_152 : mOK 152 785 784 10 134 = true := by decide +kernel
def wp_153 : Nat → Nat := fun i => (([[0, 198, 0, 0, 198, 0, 197, 0, 0, 198, 0, 194, 0, 0, 0, 198, 0, 195, 0, 0, 0, 198, 0, 196, 0, 0, 0, 0, 0, 0, 0, 0], [0, 194, 0, 198, 0, 0, 0, 0, 196, 0, 198, 0, 0, 703, 0, 0, 0, 0, 0, 0, 0, 703, 0, 0, 195, 0, 198, 0, 0, 0, 0, 0], [0, 0, 0, 192, 0, 0, 0, 192, 0, 0, 0, 0, 713, 0, 0, 0, 0, 0, 0, 0, 198, 0, 0, 198, 0, 0]] : List (List Nat)).getD (i / 32) []).getD (i % 32) 0
theorem ok_153 : okS 153 cd_153 wp_153 0 96 = true := by decide +kernel
theorem mo_153 : mOK 153 702 700 701 134 = true := by decide +kernel
def wp_154 : Nat → Nat := fun i => [0, 0, 786, 0, 0, 782, 0, 0, 0, 0, 0, 0, 198, 0, 0, 198, 0, 0].getD i 0
theorem ok_154 : okS 154 cd_154 wp_154 0 18 = true := by decide +kernel
theorem mo_154 : mOK 154 823 821 822 134 = true := by decide +kernel
def wp_155 : Nat → Nat := fun i => [0, 782, 0, 0, 0, 786, 0, 0, 0, 0, 0, 0, 0, 0, 0, 0, 0, 198, 0, 0, 198, 0, 0].getD i 0
theorem ok_155 : okS 155 cd_155 wp_155 0 23 = true := by decide +kernel
theorem mo_155 : mOK 155 781 779 780 134 = true := by decide +kernel
def wp_156 : Nat → Nat := fun i => [0, 0, 0, 198, 0, 0, 767, 198, 0].getD i 0
theorem ok_156 : okS 156 cd_156 wp_156 0 9 = true := by decide +kernel
theorem mo_156 : mOK 156 766 764 765 134 = true := by decide +kernel
def wp_157 : Nat → Nat := fun i => (([[0, 166, 169, 0, 0, 0, 0, 0, 171, 0, 0, 186, 0, 188, 479, 0, 214, 0, 0, 479, 216, 480, 0, 224, 0, 0, 479, 226, 481, 0, 246, 0], [248, 482, 0, 259, 0, 0, 261, 483, 0, 259, 0, 0, 261, 484, 0, 259, 0, 0, 261, 485, 0, 367, 0, 0, 369, 486, 0, 386, 0, 0, 388, 487], [0, 411, 0, 413, 488, 0, 451, 0, 0, 487, 0, 488, 453, 489, 0, 0, 490, 0, 0, 491, 0]] : List (List Nat)).getD (i / 32) []).getD (i % 32) 0
theorem ok_157 : okS 157 cd_157 wp_157 0 96 = true := by decide +kernel
theorem mo_157 : mOK 157 165 164 0 132 = true := by decide +kernel
def wp_158 : Nat → Nat := fun i => [0, 479, 0, 523, 0, 0, 0, 0, 479, 0, 527, 0, 479, 0, 527, 0, 479, 0, 527, 0, 479, 0, 527, 0, 479, 0, 527, 0, 479, 531, 0].getD i 0
theorem ok_158 : okS 158 cd_158 wp_158 0 31 = true := by decide +kernel
theorem mo_158 : mOK 158 522 520 521 132 = true := by decide +kernel
def wp_159 : Nat → Nat := fun i => [0, 479, 0, 539, 0].getD i 0
theorem ok_159 : okS 159 cd_159 wp_159 0 5 = true := by decide +kernel
theorem mo_159 : mOK 159 538 536 537 132 = true := by decide +kernel
def wp_160 : Nat → Nat := fun i => [0, 485, 0, 483, 634, 0, 480, 0, 485, 652, 0, 0, 0, 824, 0, 0, 832, 0, 0, 0, 0, 0, 483, 308, 0, 0, 902, 0, 0, 0, 0, 0, 483, 0, 485, 634, 0, 483, 0, 308, 0, 0, 308, 0, 486, 639, 0, 483, 308, 0].getD i 0
theorem ok_160 : okS 160 cd_160 wp_160 0 64 = true := by decide +kernel
theorem mo_160 : mOK 160 651 649 650 132 = true := by decide +kernel
def wp_161 : Nat → Nat := fun i => [0, 481, 925, 0, 0, 0, 824, 0, 0, 832, 0, 0, 0, 0, 0, 483, 0, 481, 989, 306, 0, 486, 639, 0, 483, 306, 555, 0].getD i 0
theorem ok_161 : okS 161 cd_161 wp_161 0 28 = true := by decide +kernel
theorem mo_161 : mOK 161 924 922 923 132 = true := by decide +kernel
def wp_162 : Nat → Nat := fun i => [0, 491, 0].getD i 0
theorem ok_162 : okS 162 cd_162 wp_162 0 3 = true := by decide +kernel
theorem mo_162 : mOK 162 546 544 545 132 = true := by decide +kernel
def wp_163 : Nat → Nat := fun i => [0, 0, 0, 0, 0, 0, 479, 828, 491, 0, 479, 0, 539, 0, 0].getD i 0
theorem ok_163 : okS 163 cd_163 wp_163 0 15 = true := by decide +kernel
theorem mo_163 : mOK 163 827 826 14 132 = true := by decide +kernel
def wp_164 : Nat → Nat := fun i => [0, 0, 1018, 0, 0, 0, 0, 0, 1042, 0, 0, 0, 0, 0, 0, 0, 0, 483, 0, 1058, 0, 0, 483, 284, 0, 0, 1059, 0].getD i 0
theorem ok_164 : okS 164 cd_164 wp_164 0 28 = true := by decide +kernel
theorem mo_164 : mOK 164 1017 1015 1016 132 = true := by decide +kernel
def wp_165 : Nat → Nat := fun i => [0, 0, 1067, 0, 0, 0, 0, 0, 1042, 0, 0, 0, 0, 0, 0, 0, 0, 483, 0, 1073, 0, 0, 483, 289, 0, 0, 1059, 0].getD i 0
theorem ok_165 : okS 165 cd_165 wp_165 0 28 = true := by decide +kernel
theorem mo_165 : mOK 165 1066 1064 1065 132 = true := by decide +kernel
def wp_166 : Nat → Nat := fun i => [0, 0, 1096, 0, 0, 0, 0, 0, 1042, 0, 0, 0, 0, 0, 483, 294, 0, 0, 1059, 0].getD i 0
theorem ok_166 : okS 166 cd_166 wp_166 0 20 = true := by decide +kernel
theorem mo_166 : mOK 166 1095 1093 1094 132 = true := by decide +kernel
def wp_167 : Nat → Nat := fun i => [0, 0, 1096, 0, 0, 1067, 0, 0, 0, 0, 1109, 0, 0, 0, 0, 0, 832, 0, 0, 0, 0, 0, 0, 0, 0, 0, 0, 1123, 0, 0, 0, 487, 1187, 0, 0, 487, 1195, 0, 0, 487, 1199, 0, 0, 487, 1205, 0].getD i 0
theorem ok_167 : okS 167 cd_167 wp_167 0 46 = true := by decide +kernel
theorem mo_167 : mOK 167 1108 1106 1107 132 = true := by decide +kernel
def wp_168 : Nat → Nat := fun i => [0, 0, 0, 0, 0, 1042, 0, 0, 0, 0, 0, 483, 296, 0, 1022, 0, 0, 483, 296, 0, 0, 1059, 0, 0, 0].getD i 0
theorem ok_168 : okS 168 cd_168 wp_168 0 25 = true := by decide +kernel
theorem mo_168 : mOK 168 1344 1342 1343 132 = true := by decide +kernel
def wp_169 : Nat → Nat := fun i => [0, 0, 0, 0, 0, 1042, 0, 0, 0, 0, 0, 0, 0, 0, 483, 298, 551, 0, 0, 0, 0, 0, 0, 0, 0, 483, 298, 0, 483, 298, 551, 0, 0, 0, 0, 0, 1059, 0, 0, 0].getD i 0
theorem ok_169 : okS 169 cd_169 wp_169 0 40 = true := by decide +kernel
theorem mo_169 : mOK 169 1776 1774 1775 132 = true := by decide +kernel
def wp_170 : Nat → Nat := fun i => [0, 0, 0, 483, 284, 551, 0, 0, 483, 289, 551, 0, 0, 483, 294, 551, 0, 0, 483, 308, 0, 0, 483, 306, 555, 0, 0, 483, 323, 0, 0, 483, 325, 0, 0, 483, 559, 0, 0, 0, 568, 0].getD i 0
theorem ok_170 : okS 170 cd_170 wp_170 0 42 = true := by decide +kernel
theorem mo_170 : mOK 170 550 548 549 132 = true := by decide +kernel
def wp_171 : Nat → Nat := fun i => [0, 0, 0, 483, 296, 551, 0, 0, 483, 312, 0, 0, 483, 315, 0, 0, 483, 318, 0, 0, 483, 321, 0, 0, 483, 298, 551, 0, 0, 486, 572, 0, 0, 0].getD i 0
theorem ok_171 : okS 171 cd_171 wp_171 0 34 = true := by decide +kernel
theorem mo_171 : mOK 171 571 570 0 132 = true := by decide +kernel
def wp_172 : Nat → Nat := fun i => [0, 0, 1096, 0, 0, 1067, 0, 0, 0, 0, 1109, 0, 486, 0, 483, 580, 0, 0, 0, 0, 0, 0, 1123, 0, 483, 0, 487, 1216, 0].getD i 0
theorem ok_172 : okS 172 cd_172 wp_172 0 29 = true := by decide +kernel
theorem mo_172 : mOK 172 1215 1213 1214 132 = true := by decide +kernel
def wp_173 : Nat → Nat := fun i => [0, 486, 0, 483, 580, 0, 483, 296, 551, 0, 0, 483, 296, 599, 0, 0].getD i 0
theorem ok_173 : okS 173 cd_173 wp_173 0 16 = true := by decide +kernel
theorem mo_173 : mOK 173 579 577 578 132 = true := by decide +kernel
def wp_174 : Nat → Nat := fun i => [0, 0, 1067, 0, 486, 0, 483, 580, 0, 0, 0, 0, 0, 0, 0, 483, 289, 0, 0, 1059, 0, 0, 0, 0, 0, 0, 0, 483, 289, 0, 0, 0, 1292, 0, 0].getD i 0
theorem ok_174 : okS 174 cd_174 wp_174 0 35 = true := by decide +kernel
theorem mo_174 : mOK 174 1291 1289 1290 132 = true := by decide +kernel
def wp_175 : Nat → Nat := fun i => [0, 0, 1096, 0, 0, 0, 0, 1117, 0, 486, 0, 483, 580, 0, 483, 294, 0, 0, 1059, 0, 0, 483, 294, 0, 0, 0, 1292, 0, 0].getD i 0
theorem ok_175 : okS 175 cd_175 wp_175 0 29 = true := by decide +kernel
theorem mo_175 : mOK 175 1299 1297 1298 132 = true := by decide +kernel
def wp_176 : Nat → Nat := fun i => [0, 0, 1018, 0, 0, 0, 1308, 0, 483, 0, 0, 0, 1312, 0, 1320, 0, 0, 0, 0, 0, 486, 0, 483, 580, 0, 0, 483, 284, 0, 0, 1059, 0, 1336, 0, 0, 0, 483, 284, 0, 0, 1059, 0, 1336, 0, 0, 483, 284, 0, 0, 0, 1292, 0, 483, 284, 0, 0, 0, 1292, 0, 0, 1337, 0].getD i 0
theorem ok_176 : okS 176 cd_176 wp_176 0 64 = true := by decide +kernel
theorem mo_176 : mOK 176 1307 1305 1306 132 = true := by decide +kernel
def wp_177 : Nat → Nat := fun i => [0, 0, 1067, 0, 0, 1018, 0, 0, 0, 0, 1117, 0, 0, 0, 0, 1117, 0, 483, 0, 0, 1353, 0, 483, 0, 0, 1354, 0, 483, 284, 0, 0, 1059, 0, 0, 1355, 0].getD i 0
theorem ok_177 : okS 177 cd_177 wp_177 0 36 = true := by decide +kernel
theorem mo_177 : mOK 177 1352 1350 1351 132 = true := by decide +kernel
def wp_178 : Nat → Nat := fun i => [0, 0, 1067, 0, 0, 1018, 0, 483, 0, 0, 1363, 0].getD i 0
theorem ok_178 : okS 178 cd_178 wp_178 0 12 = true := by decide +kernel
theorem mo_178 : mOK 178 1362 1360 1361 132 = true := by decide +kernel
def wp_179 : Nat → Nat := fun i => [0, 0, 1018, 0, 0, 0, 0, 1117, 0, 483, 0, 0, 1374, 0].getD i 0
theorem ok_179 : okS 179 cd_179 wp_179 0 14 = true := by decide +kernel
theorem mo_179 : mOK 179 1373 1371 1372 132 = true := by decide +kernel
def wp_180 : Nat → Nat := fun i => [0, 0, 1067, 0, 0, 0, 0, 1117, 0, 0, 0, 0, 1117, 0, 0, 0, 0, 1117, 0, 483, 0, 0, 0, 0, 1385, 0].getD i 0
theorem ok_180 : okS 180 cd_180 wp_180 0 26 = true := by decide +kernel
theorem mo_180 : mOK 180 1384 1382 1383 132 = true := by decide +kernel
def wp_181 : Nat → Nat := fun i => [0, 0, 1096, 0, 0, 1067, 0, 0, 0, 0, 0, 1018, 0, 0, 0, 0, 1109, 0, 0, 0, 0, 0, 0, 1123, 0, 488, 0, 483, 0, 487, 1393, 0, 0, 0, 0, 0, 488, 1410, 0, 0, 488, 0, 1414, 0].getD i 0
theorem ok_181 : okS 181 cd_181 wp_181 0 44 = true := by decide +kernel
theorem mo_181 : mOK 181 1392 1390 1391 132 = true := by decide +kernel
def wp_182 : Nat → Nat := fun i => [0, 0, 1096, 0, 0, 1067, 0, 0, 0, 0, 1109, 0, 0, 0, 0, 0, 0, 1123, 0, 488, 0, 483, 0, 487, 1393, 0, 0, 488, 0, 483, 1425, 0].getD i 0
theorem ok_182 : okS 182 cd_182 wp_182 0 32 = true := by decide +kernel
theorem mo_182 : mOK 182 1424 1422 1423 132 = true := by decide +kernel
def wp_183 : Nat → Nat := fun i => [0, 0, 1096, 0, 0, 1067, 0, 0, 1018, 0, 0, 1113, 0, 0, 0, 0, 0, 1042, 0, 0, 0, 0, 0, 0, 0, 0, 1440, 0, 488, 0, 0, 1464, 0].getD i 0
theorem ok_183 : okS 183 cd_183 wp_183 0 33 = true := by decide +kernel
theorem mo_183 : mOK 183 1438 1436 1437 132 = true := by decide +kernel
def wp_184 : Nat → Nat := fun i => [0, 0, 1096, 0, 0, 1067, 0, 0, 1018, 0, 488, 1127, 0, 489, 0, 483, 0, 0, 0, 1475, 0].getD i 0
theorem ok_184 : okS 184 cd_184 wp_184 0 21 = true := by decide +kernel
theorem mo_184 : mOK 184 1474 1472 1473 132 = true := by decide +kernel
def wp_185 : Nat → Nat := fun i => [0, 0, 1096, 0, 0, 1067, 0, 0, 1113, 0, 0, 0, 0, 1440, 0, 488, 1489, 0].getD i 0
theorem ok_185 : okS 185 cd_185 wp_185 0 18 = true := by decide +kernel
theorem mo_185 : mOK 185 1488 1486 1487 132 = true := by decide +kernel
def wp_186 : Nat → Nat := fun i => [0, 0, 1096, 0, 0, 1067, 0, 488, 1127, 0, 489, 0, 483, 0, 0, 0, 1500, 0].getD i 0
theorem ok_186 : okS 186 cd_186 wp_186 0 18 = true := by decide +kernel
theorem mo_186 : mOK 186 1499 1497 1498 132 = true := by decide +kernel
def wp_187 : Nat → Nat := fun i => [0, 0, 1096, 0, 0, 1067, 0, 0, 1113, 0, 0, 0, 0, 1440, 0, 483, 312, 0, 0, 0, 0, 0, 488, 1534, 0, 0].getD i 0
theorem ok_187 : okS 187 cd_187 wp_187 0 26 = true := by decide +kernel
theorem mo_187 : mOK 187 1533 1531 1532 132 = true := by decide +kernel
def wp_188 : Nat → Nat := fun i => [0, 0, 1096, 0, 0, 1067, 0, 0, 1018, 0, 0, 1113, 0, 485, 0, 483, 634, 0, 487, 0, 485, 0, 0, 0, 1131, 0, 489, 0, 485, 0, 1545, 0].getD i 0
theorem ok_188 : okS 188 cd_188 wp_188 0 32 = true := by decide +kernel
theorem mo_188 : mOK 188 1544 1542 1543 132 = true := by decide +kernel
def wp_189 : Nat → Nat := fun i => [0, 0, 1096, 0, 0, 1067, 0, 0, 0, 0, 0, 1018, 0, 0, 1113, 0, 0, 0, 0, 1440, 0, 489, 0, 483, 0, 1559, 0].getD i 0
theorem ok_189 : okS 189 cd_189 wp_189 0 27 = true := by decide +kernel
theorem mo_189 : mOK 189 1558 1556 1557 132 = true := by decide +kernel
