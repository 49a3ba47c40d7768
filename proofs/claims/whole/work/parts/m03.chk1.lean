def wp_95 : Nat → Nat := fun i => [0, 0, 271, 0, 0, 0, 0].getD i 0
theorem ok_95 : okS 95 cd_95 wp_95 0 7 = true := by decide +kernel
theorem mo_95 : mOK 95 1557 1555 1556 137 = true := by decide +kernel
def wp_96 : Nat → Nat := fun i => [0, 0, 270, 0, 0, 0, 0, 0, 0, 0, 0, 271, 0, 0, 0, 0, 0, 270, 0, 0, 0, 0, 0, 0, 0, 0, 0, 0, 0, 269, 0, 0, 0, 269, 0, 0, 0, 0, 0].getD i 0
theorem ok_96 : okS 96 cd_96 wp_96 0 39 = true := by decide +kernel
theorem mo_96 : mOK 96 565 563 564 137 = true := by decide +kernel
def wp_97 : Nat → Nat := fun i => [0, 0, 270, 0, 0, 0, 0, 0, 0, 0, 0, 271, 0, 0, 0, 0, 0, 270, 0, 0, 0, 0, 0, 0, 0, 0, 0, 0, 0, 269, 0, 0, 0, 269, 0, 0, 0, 0].getD i 0
theorem ok_97 : okS 97 cd_97 wp_97 0 38 = true := by decide +kernel
theorem mo_97 : mOK 97 787 785 786 137 = true := by decide +kernel
def wp_98 : Nat → Nat := fun i => [0, 0, 271, 0, 0, 0, 0, 784, 0].getD i 0
theorem ok_98 : okS 98 cd_98 wp_98 0 9 = true := by decide +kernel
theorem mo_98 : mOK 98 783 781 782 137 = true := by decide +kernel
def wp_99 : Nat → Nat := fun i => [0, 749, 0, 0, 0, 0, 271, 0, 270, 0, 0, 0, 0, 0, 0, 0, 270, 0, 0, 0, 0, 269, 0, 0, 0, 269, 0, 0, 0, 0, 0, 0, 0, 271, 0, 0, 271, 0, 271, 0, 0, 0].getD i 0
theorem ok_99 : okS 99 cd_99 wp_99 0 42 = true := by decide +kernel
theorem mo_99 : mOK 99 748 746 747 137 = true := by decide +kernel
def wp_100 : Nat → Nat := fun i => [0, 0, 1257, 0, 0, 0, 0, 270, 0, 0, 0, 271, 0, 270, 0, 0, 269, 0, 590, 0, 0, 0, 0, 0, 270, 0, 0, 0, 0, 269, 0, 0, 269, 0, 0, 270, 0, 0, 0, 0, 0, 0, 0, 271, 0, 0, 271, 0].getD i 0
theorem ok_100 : okS 100 cd_100 wp_100 0 48 = true := by decide +kernel
theorem mo_100 : mOK 100 1256 1254 1255 137 = true := by decide +kernel
def wp_101 : Nat → Nat := fun i => [0, 0, 271, 0].getD i 0
theorem ok_101 : okS 101 cd_101 wp_101 0 4 = true := by decide +kernel
theorem mo_101 : mOK 101 600 598 599 137 = true := by decide +kernel
def wp_102 : Nat → Nat := fun i => [0, 271, 0, 270, 0, 0, 269, 0, 0, 269, 0, 590, 590, 0, 0, 0, 0, 269, 0, 0, 269, 0, 0, 593, 0, 0, 271, 271, 0].getD i 0
theorem ok_102 : okS 102 cd_102 wp_102 0 29 = true := by decide +kernel
theorem mo_102 : mOK 102 589 587 588 137 = true := by decide +kernel
def wp_103 : Nat → Nat := fun i => [0, 262, 0, 263, 0, 0, 0, 0, 265, 279, 0, 263, 0, 0, 0, 0, 265, 284, 0, 263, 0, 0, 0, 0, 265, 289, 0, 263, 0, 0, 0, 0, 265, 293, 0, 263, 0, 0, 0, 0, 265, 295, 0, 0, 0, 297, 0, 0, 302, 0, 0, 307, 0, 0, 311, 0, 0, 324, 0].getD i 0
theorem ok_103 : okS 103 cd_103 wp_103 0 64 = true := by decide +kernel
theorem mo_103 : mOK 103 261 260 0 136 = true := by decide +kernel
def wp_104 : Nat → Nat := fun i => [0, 279, 0, 279, 586, 0, 284, 0, 284, 586, 0, 289, 0, 289, 586, 0, 293, 0, 293, 586, 0, 295, 0, 295, 586, 0, 0, 302, 302, 0, 0, 305, 305, 0, 0, 307, 307, 0, 0, 311, 311, 0, 0, 314, 314, 0, 0, 317, 317, 0, 0, 320, 320, 0, 0, 322, 322, 0, 0, 324, 324, 0].getD i 0
theorem ok_104 : okS 104 cd_104 wp_104 0 64 = true := by decide +kernel
theorem mo_104 : mOK 104 585 583 584 136 = true := by decide +kernel
def wp_105 : Nat → Nat := fun i => [0, 0, 0, 0, 0, 0, 289, 561, 0, 0, 0, 289, 0, 0, 562, 0, 0, 0, 0, 0, 0].getD i 0
theorem ok_105 : okS 105 cd_105 wp_105 0 21 = true := by decide +kernel
theorem mo_105 : mOK 105 560 558 559 136 = true := by decide +kernel
def wp_106 : Nat → Nat := fun i => [0, 0, 284, 0, 0, 562, 0, 284, 0, 0, 562, 0, 0, 0, 1071, 0].getD i 0
theorem ok_106 : okS 106 cd_106 wp_106 0 16 = true := by decide +kernel
theorem mo_106 : mOK 106 1070 1068 1069 136 = true := by decide +kernel
def wp_107 : Nat → Nat := fun i => [0, 0, 284, 0, 0, 562, 0, 0, 1071, 0].getD i 0
theorem ok_107 : okS 107 cd_107 wp_107 0 10 = true := by decide +kernel
theorem mo_107 : mOK 107 1075 1073 1074 136 = true := by decide +kernel
def wp_108 : Nat → Nat := fun i => [0, 0, 613, 0, 0, 0, 0, 0, 0, 613, 0, 0, 0, 0, 0, 0, 0, 0, 0, 0, 0, 0, 0, 0, 0, 0, 0, 0, 0, 0, 0, 0, 0, 0, 0, 0, 0, 0, 0, 0, 0, 0, 0, 0, 0, 0, 0, 0, 0].getD i 0
theorem ok_108 : okS 108 cd_108 wp_108 0 64 = true := by decide +kernel
theorem mo_108 : mOK 108 1078 1077 0 136 = true := by decide +kernel
def wp_109 : Nat → Nat := fun i => [0, 0, 613, 0, 0, 0, 0, 0, 0, 0, 613, 0, 0, 0, 0, 0, 0, 0, 0, 0].getD i 0
theorem ok_109 : okS 109 cd_109 wp_109 0 20 = true := by decide +kernel
theorem mo_109 : mOK 109 1230 1229 0 136 = true := by decide +kernel
def wp_110 : Nat → Nat := fun i => [0, 0, 0, 0, 0, 0, 0, 0, 0, 0, 1067, 0, 0, 0, 1072, 0, 0, 0, 1076, 0, 0, 0, 0, 0, 0, 0].getD i 0
theorem ok_110 : okS 110 cd_110 wp_110 0 26 = true := by decide +kernel
theorem mo_110 : mOK 110 1066 1064 1065 136 = true := by decide +kernel
def wp_111 : Nat → Nat := fun i => [0, 0, 0, 0, 1071, 0, 0, 0, 0, 0, 0, 0, 0, 0, 279, 0, 0, 562, 0, 0, 1076, 0, 0, 0, 0, 0, 0, 0].getD i 0
theorem ok_111 : okS 111 cd_111 wp_111 0 28 = true := by decide +kernel
theorem mo_111 : mOK 111 1367 1365 1366 136 = true := by decide +kernel
def wp_112 : Nat → Nat := fun i => [0, 0, 0, 0, 0, 0, 0, 0, 0, 0, 0, 0, 0, 0, 0, 1067, 0, 0, 0, 1072, 0, 279, 0, 0, 562, 0, 0, 1076, 0, 0, 0, 0, 0, 0, 0, 0].getD i 0
theorem ok_112 : okS 112 cd_112 wp_112 0 36 = true := by decide +kernel
theorem mo_112 : mOK 112 1356 1354 1355 136 = true := by decide +kernel
def wp_113 : Nat → Nat := fun i => (([[0, 0, 0, 0, 1067, 299, 0, 0, 0, 0, 1072, 300, 0, 0, 298, 0, 0, 0, 0, 0, 0, 279, 561, 0, 0, 279, 0, 0, 562, 0, 0, 0], [0, 279, 0, 0, 562, 0, 613, 0, 0, 1071, 0, 0, 0, 0, 0, 279, 0, 0, 562, 0, 0, 0, 0, 0, 0, 311, 0, 0, 279, 0, 0, 562], [0, 0, 0, 0, 0, 0, 0, 0, 0, 0, 0, 0, 0, 0, 299, 0, 300, 0, 0, 0, 1228, 0, 0, 298, 0, 0, 298, 0, 297, 0, 0, 0], [297, 0, 298, 0, 0, 0, 0, 298, 0, 0, 298, 0, 0, 0, 0, 0, 0, 0, 0, 299, 0, 0, 0, 0, 0, 0, 0, 300, 0, 0, 0, 0], [0, 0, 0, 0, 0]] : List (List Nat)).getD (i / 32) []).getD (i % 32) 0
theorem ok_113 : okS 113 cd_113 wp_113 0 160 = true := by decide +kernel
theorem mo_113 : mOK 113 1227 1225 1226 136 = true := by decide +kernel
def wp_114 : Nat → Nat := fun i => [0, 0, 0, 0, 298, 0, 0, 0, 297, 0, 0, 0, 297, 0, 0, 0, 0, 0].getD i 0
theorem ok_114 : okS 114 cd_114 wp_114 0 18 = true := by decide +kernel
theorem mo_114 : mOK 114 1242 1241 39 136 = true := by decide +kernel
def wp_115 : Nat → Nat := fun i => [0, 0, 0, 0, 0, 0, 1224, 0, 0, 0, 0, 1231, 0, 0, 0, 0, 0, 0, 0, 0, 301, 0, 1243, 0, 0, 0, 0, 0].getD i 0
theorem ok_115 : okS 115 cd_115 wp_115 0 28 = true := by decide +kernel
theorem mo_115 : mOK 115 1223 1221 1222 136 = true := by decide +kernel
def wp_116 : Nat → Nat := fun i => [0, 0, 301, 0, 0, 0, 1235, 0, 0, 0, 0, 0, 0, 0, 1243, 0, 0, 0, 0, 311, 0, 301, 0, 0, 0, 301, 1235, 0, 0, 0].getD i 0
theorem ok_116 : okS 116 cd_116 wp_116 0 30 = true := by decide +kernel
theorem mo_116 : mOK 116 1234 1232 1233 136 = true := by decide +kernel
def wp_117 : Nat → Nat := fun i => [0, 0, 0, 0, 298, 0, 0, 0, 1239, 0, 0, 299, 0, 300, 0, 279, 0, 0, 562, 0, 0, 279, 0, 0, 562, 0, 0, 0, 279, 0, 0, 562, 0, 1076, 0, 0, 0, 0, 0, 0, 0].getD i 0
theorem ok_117 : okS 117 cd_117 wp_117 0 41 = true := by decide +kernel
theorem mo_117 : mOK 117 1238 1237 38 136 = true := by decide +kernel
def wp_118 : Nat → Nat := fun i => [0, 0, 0, 0, 298, 0, 0, 0, 1239, 0, 0, 0, 0, 279, 0, 0, 562, 0, 0, 0, 0, 0, 0, 0, 0, 0, 299, 0, 300, 0, 279, 0, 0, 562, 0, 0, 279, 0, 0, 562, 0, 0, 0, 279, 0, 0, 562, 0, 1228, 0, 0, 0, 0, 0, 0, 0].getD i 0
theorem ok_118 : okS 118 cd_118 wp_118 0 64 = true := by decide +kernel
theorem mo_118 : mOK 118 1246 1245 40 136 = true := by decide +kernel
def wp_119 : Nat → Nat := fun i => (([[0, 0, 1210, 0, 0, 0, 1210, 0, 0, 289, 0, 0, 562, 0, 0, 0, 0, 0, 320, 0, 307, 0, 320, 0, 1211, 0, 1212, 0, 0, 0, 0, 1212], [0, 0, 0, 1213, 0, 0, 0, 1218, 0, 1212, 0, 0, 0, 0, 1212, 0, 0, 0, 1213, 0, 0, 0, 0, 0, 0, 0, 1219, 1220, 0, 0, 0, 0], [0, 0, 0, 322, 0, 279, 0, 0, 562, 0, 322, 0, 289, 0, 0, 0, 289, 0, 0, 562, 0, 0, 1247, 0, 0, 0, 0, 0, 301, 0, 1248, 0], [0, 1219, 1259, 0, 0, 0, 0, 0, 0, 0, 1270, 0, 289, 0, 0, 0, 289, 0, 0, 562, 0, 0, 1247, 0, 289, 0, 0, 0, 0, 289, 0, 0], [562, 0, 0, 1274, 1247, 0, 0]] : List (List Nat)).getD (i / 32) []).getD (i % 32) 0
theorem ok_119 : okS 119 cd_119 wp_119 0 160 = true := by decide +kernel
theorem mo_119 : mOK 119 1209 1207 1208 136 = true := by decide +kernel
def wp_120 : Nat → Nat := fun i => [0, 1217, 0, 324, 0, 0, 0, 324, 0, 0, 0, 324, 0, 0, 0, 0, 0, 0, 0, 0, 0].getD i 0
theorem ok_120 : okS 120 cd_120 wp_120 0 21 = true := by decide +kernel
theorem mo_120 : mOK 120 1216 1215 37 136 = true := by decide +kernel
def wp_121 : Nat → Nat := fun i => [0, 293, 1252, 0, 0, 293, 0, 1253, 0, 293, 1258, 0, 0, 293, 0, 0, 0, 1247, 0, 293, 0, 0, 0, 1247, 0, 293, 0, 0, 0, 1247, 0, 293, 0, 0, 0, 0, 0, 0, 0, 0, 1247, 0].getD i 0
theorem ok_121 : okS 121 cd_121 wp_121 0 42 = true := by decide +kernel
theorem mo_121 : mOK 121 1251 1250 41 136 = true := by decide +kernel
def wp_122 : Nat → Nat := fun i => (([[0, 293, 561, 0, 0, 0, 0, 314, 0, 0, 0, 0, 0, 0, 0, 0, 0, 293, 0, 0, 562, 0, 293, 0, 0, 562, 0, 0, 0, 293, 0, 0], [562, 0, 293, 0, 0, 562, 0, 0, 0, 293, 0, 0, 562, 0, 0, 0, 613, 0, 314, 0, 0, 613, 0, 314, 0, 0, 0, 0, 1263, 0, 1263, 0], [1266, 0, 0, 0, 0, 0]] : List (List Nat)).getD (i / 32) []).getD (i % 32) 0
theorem ok_122 : okS 122 cd_122 wp_122 0 96 = true := by decide +kernel
theorem mo_122 : mOK 122 1262 1261 42 136 = true := by decide +kernel
def wp_123 : Nat → Nat := fun i => (([[0, 293, 0, 0, 562, 0, 0, 0, 0, 293, 0, 0, 562, 0, 0, 0, 0, 0, 293, 0, 0, 562, 0, 0, 0, 0, 1224, 0, 0, 0, 0, 1235], [0, 0, 0, 0, 293, 0, 0, 0, 1247, 0, 293, 0, 0, 0, 1247, 0, 293, 0, 0, 0, 0, 0, 0, 1243, 0, 0, 0, 0, 1247, 0, 0, 0], [293, 0, 1253, 0, 317, 0, 0, 0, 0, 0, 0, 322, 0, 279, 0, 0, 562, 0, 322, 0, 0]] : List (List Nat)).getD (i / 32) []).getD (i % 32) 0
theorem ok_123 : okS 123 cd_123 wp_123 0 96 = true := by decide +kernel
theorem mo_123 : mOK 123 1269 1268 43 136 = true := by decide +kernel
def wp_124 : Nat → Nat := fun i => [0, 295, 1252, 0, 0, 295, 0, 1253, 0, 295, 1258, 0, 0, 295, 0, 0, 0, 0, 1210, 1247, 0, 295, 0, 0, 0, 0, 1210, 1247, 0, 295, 0, 0, 0, 1247, 0, 295, 0, 0, 0, 1247, 0, 295, 0, 0, 0, 1247, 0, 295, 0, 0, 0, 1247, 0].getD i 0
theorem ok_124 : okS 124 cd_124 wp_124 0 64 = true := by decide +kernel
theorem mo_124 : mOK 124 1273 1272 44 136 = true := by decide +kernel
def wp_125 : Nat → Nat := fun i => [0, 295, 561, 0, 0, 295, 0, 295, 561, 0, 0, 0, 562, 0, 0, 0].getD i 0
theorem ok_125 : okS 125 cd_125 wp_125 0 16 = true := by decide +kernel
theorem mo_125 : mOK 125 1721 1719 1720 136 = true := by decide +kernel
def wp_126 : Nat → Nat := fun i => [0, 0, 0, 0, 0, 0, 295, 561, 0, 0, 0, 0, 0, 0, 295, 0, 0, 562, 0, 0, 0, 0, 0, 0, 0, 0, 295, 0, 0, 562, 0, 0, 0, 295, 0, 0, 562, 0, 295, 0, 0, 562, 0, 295, 0, 0, 562, 0, 1220, 0, 0, 0, 0, 0, 0].getD i 0
theorem ok_126 : okS 126 cd_126 wp_126 0 64 = true := by decide +kernel
theorem mo_126 : mOK 126 1740 1738 1739 136 = true := by decide +kernel
def wp_127 : Nat → Nat := fun i => [0, 295, 0, 0, 562, 0, 0, 0, 295, 0, 0, 562, 0, 0, 0, 0, 0, 0].getD i 0
theorem ok_127 : okS 127 cd_127 wp_127 0 18 = true := by decide +kernel
theorem mo_127 : mOK 127 1755 1754 64 136 = true := by decide +kernel
def wp_128 : Nat → Nat := fun i => [0, 0, 0, 0, 0, 0, 295, 561, 0, 0, 0, 0, 1752, 0, 0, 0, 0, 0, 0].getD i 0
theorem ok_128 : okS 128 cd_128 wp_128 0 19 = true := by decide +kernel
theorem mo_128 : mOK 128 1759 1757 1758 136 = true := by decide +kernel
def wp_129 : Nat → Nat := fun i => [0, 0, 0, 0, 295, 561, 0, 0, 0, 295, 561, 0, 0, 0, 0, 0, 1752, 0, 0, 0, 0, 0, 0, 0].getD i 0
theorem ok_129 : okS 129 cd_129 wp_129 0 24 = true := by decide +kernel
theorem mo_129 : mOK 129 1751 1749 1750 136 = true := by decide +kernel
def wp_130 : Nat → Nat := fun i => [0, 0, 0, 0, 0, 0, 279, 561, 0, 0, 279, 0, 0, 562, 0, 279, 0, 0, 562, 0, 613, 0, 0, 0, 0, 0, 279, 0, 0, 562, 0, 279, 0, 0, 562, 0, 0, 0, 0, 0, 0, 0, 0, 0, 279, 0, 0, 562, 0, 279, 0, 0, 562, 0, 0, 0, 0, 0, 0, 0, 0, 0, 0, 0].getD i 0
theorem ok_130 : okS 130 cd_130 wp_130 0 64 = true := by decide +kernel
theorem mo_130 : mOK 130 612 610 611 136 = true := by decide +kernel
def wp_131 : Nat → Nat := fun i => [0, 0, 0, 0, 0, 0, 279, 561, 0, 0, 0, 609, 0, 0, 0, 0, 0, 0, 0, 0, 0, 0, 0].getD i 0
theorem ok_131 : okS 131 cd_131 wp_131 0 23 = true := by decide +kernel
theorem mo_131 : mOK 131 608 606 607 136 = true := by decide +kernel
def wp_132 : Nat → Nat := fun i => [0, 0, 0, 0, 0, 0, 279, 561, 0, 0, 279, 0, 0, 562, 0, 0, 613, 0, 0, 0, 279, 0, 0, 562, 0, 0, 613, 0, 0, 0, 0, 0, 0, 0, 0, 0, 0, 0, 0].getD i 0
theorem ok_132 : okS 132 cd_132 wp_132 0 39 = true := by decide +kernel
theorem mo_132 : mOK 132 1693 1691 1692 136 = true := by decide +kernel
def wp_133 : Nat → Nat := fun i => [0, 279, 0, 0, 562, 0, 279, 0, 0, 562, 0, 0, 0, 0, 279, 0, 0, 562, 0, 613, 0, 0, 0, 279, 0, 0, 562, 0, 613, 0, 0, 0, 0, 1071, 0, 0, 0, 0].getD i 0
theorem ok_133 : okS 133 cd_133 wp_133 0 38 = true := by decide +kernel
theorem mo_133 : mOK 133 1309 1307 1308 136 = true := by decide +kernel
def wp_134 : Nat → Nat := fun i => [0, 0, 0, 0, 279, 561, 0, 0, 0, 0, 0, 0, 0, 0, 0, 1306, 0, 0, 0, 0, 0, 0, 0].getD i 0
theorem ok_134 : okS 134 cd_134 wp_134 0 23 = true := by decide +kernel
theorem mo_134 : mOK 134 1305 1303 1304 136 = true := by decide +kernel
def wp_135 : Nat → Nat := fun i => [0, 189, 0, 0, 0, 190, 0, 0, 0, 192, 0, 0, 0, 193, 0, 0, 0, 194, 0].getD i 0
theorem ok_135 : okS 135 cd_135 wp_135 0 19 = true := by decide +kernel
theorem mo_135 : mOK 135 188 187 0 132 = true := by decide +kernel
def wp_136 : Nat → Nat := fun i => [0, 191, 0].getD i 0
theorem ok_136 : okS 136 cd_136 wp_136 0 3 = true := by decide +kernel
theorem mo_136 : mOK 136 532 530 531 132 = true := by decide +kernel
def wp_137 : Nat → Nat := fun i => [0, 191, 0, 0, 0, 190, 0, 0, 0, 0, 0, 0].getD i 0
theorem ok_137 : okS 137 cd_137 wp_137 0 12 = true := by decide +kernel
theorem mo_137 : mOK 137 524 522 523 132 = true := by decide +kernel
def wp_138 : Nat → Nat := fun i => [0, 0, 0, 0, 0, 191, 0, 0, 191, 0, 190, 0, 0, 0, 190, 0, 191, 0, 0, 0, 0, 0, 0, 0, 0, 191, 0, 0, 191, 0, 0, 0].getD i 0
theorem ok_138 : okS 138 cd_138 wp_138 0 32 = true := by decide +kernel
theorem mo_138 : mOK 138 528 526 527 132 = true := by decide +kernel
def wp_139 : Nat → Nat := fun i => [0, 0, 0, 0, 191, 0, 0, 0, 0, 0, 191, 0, 0].getD i 0
theorem ok_139 : okS 139 cd_139 wp_139 0 13 = true := by decide +kernel
theorem mo_139 : mOK 139 540 538 539 132 = true := by decide +kernel
def wp_140 : Nat → Nat := fun i => [0, 0, 0, 0, 191, 0, 0, 0, 190, 0, 0, 0, 190, 0, 0, 0, 0, 0].getD i 0
theorem ok_140 : okS 140 cd_140 wp_140 0 18 = true := by decide +kernel
theorem mo_140 : mOK 140 661 659 660 132 = true := by decide +kernel
def wp_141 : Nat → Nat := fun i => [0, 0, 195, 0, 0, 196, 0, 0, 0, 0, 191, 0, 0, 0, 658, 0, 0, 0, 0, 0, 0, 658, 662, 0, 0, 0, 0, 665, 0, 0, 0, 0, 0, 658, 673, 0, 0, 0, 0, 676, 0, 0, 0, 0, 0, 0, 0, 0, 658, 669, 0, 0, 0].getD i 0
theorem ok_141 : okS 141 cd_141 wp_141 0 64 = true := by decide +kernel
theorem mo_141 : mOK 141 657 655 656 132 = true := by decide +kernel
def wp_142 : Nat → Nat := fun i => [0, 0, 0, 0, 191, 0, 0, 0, 0, 0, 658, 662, 0, 0, 0, 0, 0, 0, 0, 669, 0, 0].getD i 0
theorem ok_142 : okS 142 cd_142 wp_142 0 22 = true := by decide +kernel
theorem mo_142 : mOK 142 668 667 1 132 = true := by decide +kernel
def wp_143 : Nat → Nat := fun i => [0, 0, 0, 0, 0, 0, 191, 0, 0, 0, 0, 0, 658, 673, 0, 0, 0, 0, 0, 0, 0, 0, 0, 0, 0, 658, 0, 0, 0, 0, 0, 0, 0, 0, 0, 0, 0, 0, 669, 0, 0].getD i 0
theorem ok_143 : okS 143 cd_143 wp_143 0 41 = true := by decide +kernel
theorem mo_143 : mOK 143 679 678 3 132 = true := by decide +kernel
def wp_144 : Nat → Nat := fun i => [0, 195, 0, 0, 195, 0, 192, 0, 0, 0, 195, 0, 193, 0, 0, 0, 195, 0, 194, 0, 0, 0, 192, 0, 195, 0, 0, 0, 193, 0, 195, 0, 0, 0, 194, 0, 195, 0, 0, 0, 0, 195, 0, 0, 195, 0].getD i 0
theorem ok_144 : okS 144 cd_144 wp_144 0 46 = true := by decide +kernel
theorem mo_144 : mOK 144 672 671 2 132 = true := by decide +kernel
def wp_145 : Nat → Nat := fun i => [0, 0, 0, 0, 0, 0, 0, 0, 0, 0].getD i 0
theorem ok_145 : okS 145 cd_145 wp_145 0 10 = true := by decide +kernel
theorem mo_145 : mOK 145 664 663 0 132 = true := by decide +kernel
def wp_146 : Nat → Nat := fun i => [0, 0, 0, 0, 0, 0, 0, 0, 0, 0].getD i 0
theorem ok_146 : okS 146 cd_146 wp_146 0 10 = true := by decide +kernel
theorem mo_146 : mOK 146 675 674 0 132 = true := by decide +kernel
def wp_147 : Nat → Nat := fun i => [0, 196, 0, 195, 0, 0, 0, 0, 0].getD i 0
theorem ok_147 : okS 147 cd_147 wp_147 0 9 = true := by decide +kernel
theorem mo_147 : mOK 147 683 681 682 132 = true := by decide +kernel
def wp_148 : Nat → Nat := fun i => [0, 196, 0, 0, 196, 0, 195, 0, 0, 196, 0, 193, 0, 0, 0, 193, 0, 196, 0, 0, 0, 191, 0].getD i 0
theorem ok_148 : okS 148 cd_148 wp_148 0 23 = true := by decide +kernel
theorem mo_148 : mOK 148 821 819 820 132 = true := by decide +kernel
def wp_149 : Nat → Nat := fun i => [0, 196, 0, 0, 196, 0, 195, 0, 0, 196, 0, 192, 0, 0, 0, 192, 0, 196, 0, 0, 0, 0, 0, 0, 0].getD i 0
theorem ok_149 : okS 149 cd_149 wp_149 0 25 = true := by decide +kernel
theorem mo_149 : mOK 149 779 778 9 132 = true := by decide +kernel
def wp_150 : Nat → Nat := fun i => [0, 196, 0, 0, 196, 0, 195, 0, 0, 196, 0, 194, 0, 0, 0, 194, 0, 196, 0, 0, 0, 0].getD i 0
theorem ok_150 : okS 150 cd_150 wp_150 0 22 = true := by decide +kernel
theorem mo_150 : mOK 150 775 774 8 132 = true := by decide +kernel
def wp_151 : Nat → Nat := fun i => (([[0, 196, 0, 0, 196, 0, 195, 0, 0, 196, 0, 192, 0, 0, 0, 196, 0, 193, 0, 0, 0, 196, 0, 194, 0, 0, 0, 0, 0, 0, 0, 0], [0, 192, 0, 196, 0, 0, 0, 0, 194, 0, 196, 0, 0, 693, 0, 0, 0, 0, 0, 0, 0, 693, 0, 0, 193, 0, 196, 0, 0, 0, 0, 0], [0, 0, 0, 190, 0, 0, 0, 190, 0, 0, 0, 0, 703, 0, 0, 0, 0, 0, 0, 0, 196, 0, 0, 196, 0, 0]] : List (List Nat)).getD (i / 32) []).getD (i % 32) 0
theorem ok_151 : okS 151 cd_151 wp_151 0 96 = true := by decide +kernel
theorem mo_151 : mOK 151 692 690 691 132 = true := by decide +kernel
def wp_152 : Nat → Nat := fun i => [0, 0, 776, 0, 0, 772, 0, 0, 0, 0, 0, 0, 196, 0, 0, 196, 0, 0].getD i 0
theorem ok_152 : okS 152 cd_152 wp_152 0 18 = true := by decide +kernel
theorem mo_152 : mOK 152 813 811 812 132 = true := by decide +kernel
def wp_153 : Nat → Nat := fun i => [0, 772, 0, 0, 0, 776, 0, 0, 0, 0, 0, 0, 0, 0, 0, 0, 0, 196, 0, 0, 196, 0, 0].getD i 0
theorem ok_153 : okS 153 cd_153 wp_153 0 23 = true := by decide +kernel
theorem mo_153 : mOK 153 771 769 770 132 = true := by decide +kernel
def wp_154 : Nat → Nat := fun i => [0, 0, 0, 196, 0, 0, 757, 196, 0].getD i 0
theorem ok_154 : okS 154 cd_154 wp_154 0 9 = true := by decide +kernel
theorem mo_154 : mOK 154 756 754 755 132 = true := by decide +kernel
def wp_155 : Nat → Nat := fun i => (([[0, 164, 167, 0, 0, 0, 0, 0, 169, 0, 0, 184, 0, 186, 477, 0, 212, 0, 0, 477, 214, 478, 0, 222, 0, 0, 477, 224, 479, 0, 244, 0], [246, 480, 0, 257, 0, 0, 259, 481, 0, 257, 0, 0, 259, 482, 0, 257, 0, 0, 259, 483, 0, 365, 0, 0, 367, 484, 0, 384, 0, 0, 386, 485], [0, 409, 0, 411, 486, 0, 449, 0, 0, 485, 0, 486, 451, 487, 0, 0, 488, 0, 0, 489, 0]] : List (List Nat)).getD (i / 32) []).getD (i % 32) 0
theorem ok_155 : okS 155 cd_155 wp_155 0 96 = true := by decide +kernel
theorem mo_155 : mOK 155 163 162 0 130 = true := by decide +kernel
def wp_156 : Nat → Nat := fun i => [0, 477, 0, 521, 0, 0, 0, 0, 477, 0, 525, 0, 477, 0, 525, 0, 477, 0, 525, 0, 477, 0, 525, 0, 477, 0, 525, 0, 477, 529, 0].getD i 0
theorem ok_156 : okS 156 cd_156 wp_156 0 31 = true := by decide +kernel
theorem mo_156 : mOK 156 520 518 519 130 = true := by decide +kernel
def wp_157 : Nat → Nat := fun i => [0, 477, 0, 537, 0].getD i 0
theorem ok_157 : okS 157 cd_157 wp_157 0 5 = true := by decide +kernel
theorem mo_157 : mOK 157 536 534 535 130 = true := by decide +kernel
def wp_158 : Nat → Nat := fun i => [0, 483, 0, 481, 632, 0, 478, 0, 483, 650, 0, 0, 0, 814, 0, 0, 822, 0, 0, 0, 0, 0, 481, 306, 0, 0, 892, 0, 0, 0, 0, 0, 481, 0, 483, 632, 0, 481, 0, 306, 0, 0, 306, 0, 484, 637, 0, 481, 306, 0].getD i 0
theorem ok_158 : okS 158 cd_158 wp_158 0 64 = true := by decide +kernel
theorem mo_158 : mOK 158 649 647 648 130 = true := by decide +kernel
def wp_159 : Nat → Nat := fun i => [0, 479, 915, 0, 0, 0, 814, 0, 0, 822, 0, 0, 0, 0, 0, 481, 0, 479, 979, 304, 0, 484, 637, 0, 481, 304, 553, 0].getD i 0
theorem ok_159 : okS 159 cd_159 wp_159 0 28 = true := by decide +kernel
theorem mo_159 : mOK 159 914 912 913 130 = true := by decide +kernel
def wp_160 : Nat → Nat := fun i => [0, 489, 0].getD i 0
theorem ok_160 : okS 160 cd_160 wp_160 0 3 = true := by decide +kernel
theorem mo_160 : mOK 160 544 542 543 130 = true := by decide +kernel
def wp_161 : Nat → Nat := fun i => [0, 0, 0, 0, 0, 0, 477, 818, 489, 0, 477, 0, 537, 0, 0].getD i 0
theorem ok_161 : okS 161 cd_161 wp_161 0 15 = true := by decide +kernel
theorem mo_161 : mOK 161 817 816 12 130 = true := by decide +kernel
def wp_162 : Nat → Nat := fun i => [0, 0, 1008, 0, 0, 0, 0, 0, 1032, 0, 0, 0, 0, 0, 0, 0, 0, 481, 0, 1048, 0, 0, 481, 282, 0, 0, 1049, 0].getD i 0
theorem ok_162 : okS 162 cd_162 wp_162 0 28 = true := by decide +kernel
theorem mo_162 : mOK 162 1007 1005 1006 130 = true := by decide +kernel
def wp_163 : Nat → Nat := fun i => [0, 0, 1057, 0, 0, 0, 0, 0, 1032, 0, 0, 0, 0, 0, 0, 0, 0, 481, 0, 1063, 0, 0, 481, 287, 0, 0, 1049, 0].getD i 0
theorem ok_163 : okS 163 cd_163 wp_163 0 28 = true := by decide +kernel
theorem mo_163 : mOK 163 1056 1054 1055 130 = true := by decide +kernel
def wp_164 : Nat → Nat := fun i => [0, 0, 1086, 0, 0, 0, 0, 0, 1032, 0, 0, 0, 0, 0, 481, 292, 0, 0, 1049, 0].getD i 0
theorem ok_164 : okS 164 cd_164 wp_164 0 20 = true := by decide +kernel
theorem mo_164 : mOK 164 1085 1083 1084 130 = true := by decide +kernel
def wp_165 : Nat → Nat := fun i => [0, 0, 1086, 0, 0, 1057, 0, 0, 0, 0, 1099, 0, 0, 0, 0, 0, 822, 0, 0, 0, 0, 0, 0, 0, 0, 0, 0, 1113, 0, 0, 0, 485, 1177, 0, 0, 485, 1185, 0, 0, 485, 1189, 0, 0, 485, 1195, 0].getD i 0
theorem ok_165 : okS 165 cd_165 wp_165 0 46 = true := by decide +kernel
theorem mo_165 : mOK 165 1098 1096 1097 130 = true := by decide +kernel
def wp_166 : Nat → Nat := fun i => [0, 0, 0, 0, 0, 1032, 0, 0, 0, 0, 0, 481, 294, 0, 1012, 0, 0, 481, 294, 0, 0, 1049, 0, 0, 0].getD i 0
theorem ok_166 : okS 166 cd_166 wp_166 0 25 = true := by decide +kernel
theorem mo_166 : mOK 166 1334 1332 1333 130 = true := by decide +kernel
def wp_167 : Nat → Nat := fun i => [0, 0, 0, 0, 0, 1032, 0, 0, 0, 0, 0, 0, 0, 0, 481, 296, 549, 0, 0, 0, 0, 0, 0, 0, 0, 481, 296, 0, 481, 296, 549, 0, 0, 0, 0, 0, 1049, 0, 0, 0].getD i 0
theorem ok_167 : okS 167 cd_167 wp_167 0 40 = true := by decide +kernel
theorem mo_167 : mOK 167 1766 1764 1765 130 = true := by decide +kernel
def wp_168 : Nat → Nat := fun i => [0, 0, 0, 481, 282, 549, 0, 0, 481, 287, 549, 0, 0, 481, 292, 549, 0, 0, 481, 306, 0, 0, 481, 304, 553, 0, 0, 481, 321, 0, 0, 481, 323, 0, 0, 481, 557, 0, 0, 0, 566, 0].getD i 0
theorem ok_168 : okS 168 cd_168 wp_168 0 42 = true := by decide +kernel
theorem mo_168 : mOK 168 548 546 547 130 = true := by decide +kernel
def wp_169 : Nat → Nat := fun i => [0, 0, 0, 481, 294, 549, 0, 0, 481, 310, 0, 0, 481, 313, 0, 0, 481, 316, 0, 0, 481, 319, 0, 0, 481, 296, 549, 0, 0, 484, 570, 0, 0, 0].getD i 0
theorem ok_169 : okS 169 cd_169 wp_169 0 34 = true := by decide +kernel
theorem mo_169 : mOK 169 569 568 0 130 = true := by decide +kernel
def wp_170 : Nat → Nat := fun i => [0, 0, 1086, 0, 0, 1057, 0, 0, 0, 0, 1099, 0, 484, 0, 481, 578, 0, 0, 0, 0, 0, 0, 1113, 0, 481, 0, 485, 1206, 0].getD i 0
theorem ok_170 : okS 170 cd_170 wp_170 0 29 = true := by decide +kernel
theorem mo_170 : mOK 170 1205 1203 1204 130 = true := by decide +kernel
def wp_171 : Nat → Nat := fun i => [0, 484, 0, 481, 578, 0, 481, 294, 549, 0, 0, 481, 294, 597, 0, 0].getD i 0
theorem ok_171 : okS 171 cd_171 wp_171 0 16 = true := by decide +kernel
theorem mo_171 : mOK 171 577 575 576 130 = true := by decide +kernel
def wp_172 : Nat → Nat := fun i => [0, 0, 1057, 0, 484, 0, 481, 578, 0, 0, 0, 0, 0, 0, 0, 481, 287, 0, 0, 1049, 0, 0, 0, 0, 0, 0, 0, 481, 287, 0, 0, 0, 1282, 0, 0].getD i 0
theorem ok_172 : okS 172 cd_172 wp_172 0 35 = true := by decide +kernel
theorem mo_172 : mOK 172 1281 1279 1280 130 = true := by decide +kernel
def wp_173 : Nat → Nat := fun i => [0, 0, 1086, 0, 0, 0, 0, 1107, 0, 484, 0, 481, 578, 0, 481, 292, 0, 0, 1049, 0, 0, 481, 292, 0, 0, 0, 1282, 0, 0].getD i 0
theorem ok_173 : okS 173 cd_173 wp_173 0 29 = true := by decide +kernel
theorem mo_173 : mOK 173 1289 1287 1288 130 = true := by decide +kernel
def wp_174 : Nat → Nat := fun i => [0, 0, 1008, 0, 0, 0, 1298, 0, 481, 0, 0, 0, 1302, 0, 1310, 0, 0, 0, 0, 0, 484, 0, 481, 578, 0, 0, 481, 282, 0, 0, 1049, 0, 1326, 0, 0, 0, 481, 282, 0, 0, 1049, 0, 1326, 0, 0, 481, 282, 0, 0, 0, 1282, 0, 481, 282, 0, 0, 0, 1282, 0, 0, 1327, 0].getD i 0
theorem ok_174 : okS 174 cd_174 wp_174 0 64 = true := by decide +kernel
theorem mo_174 : mOK 174 1297 1295 1296 130 = true := by decide +kernel
def wp_175 : Nat → Nat := fun i => [0, 0, 1057, 0, 0, 1008, 0, 0, 0, 0, 1107, 0, 0, 0, 0, 1107, 0, 481, 0, 0, 1343, 0, 481, 0, 0, 1344, 0, 481, 282, 0, 0, 1049, 0, 0, 1345, 0].getD i 0
theorem ok_175 : okS 175 cd_175 wp_175 0 36 = true := by decide +kernel
theorem mo_175 : mOK 175 1342 1340 1341 130 = true := by decide +kernel
def wp_176 : Nat → Nat := fun i => [0, 0, 1057, 0, 0, 1008, 0, 481, 0, 0, 1353, 0].getD i 0
theorem ok_176 : okS 176 cd_176 wp_176 0 12 = true := by decide +kernel
theorem mo_176 : mOK 176 1352 1350 1351 130 = true := by decide +kernel
def wp_177 : Nat → Nat := fun i => [0, 0, 1008, 0, 0, 0, 0, 1107, 0, 481, 0, 0, 1364, 0].getD i 0
theorem ok_177 : okS 177 cd_177 wp_177 0 14 = true := by decide +kernel
theorem mo_177 : mOK 177 1363 1361 1362 130 = true := by decide +kernel
def wp_178 : Nat → Nat := fun i => [0, 0, 1057, 0, 0, 0, 0, 1107, 0, 0, 0, 0, 1107, 0, 0, 0, 0, 1107, 0, 481, 0, 0, 0, 0, 1375, 0].getD i 0
theorem ok_178 : okS 178 cd_178 wp_178 0 26 = true := by decide +kernel
theorem mo_178 : mOK 178 1374 1372 1373 130 = true := by decide +kernel
def wp_179 : Nat → Nat := fun i => [0, 0, 1086, 0, 0, 1057, 0, 0, 0, 0, 0, 1008, 0, 0, 0, 0, 1099, 0, 0, 0, 0, 0, 0, 1113, 0, 486, 0, 481, 0, 485, 1383, 0, 0, 0, 0, 0, 486, 1400, 0, 0, 486, 0, 1404, 0].getD i 0
theorem ok_179 : okS 179 cd_179 wp_179 0 44 = true := by decide +kernel
theorem mo_179 : mOK 179 1382 1380 1381 130 = true := by decide +kernel
def wp_180 : Nat → Nat := fun i => [0, 0, 1086, 0, 0, 1057, 0, 0, 0, 0, 1099, 0, 0, 0, 0, 0, 0, 1113, 0, 486, 0, 481, 0, 485, 1383, 0, 0, 486, 0, 481, 1415, 0].getD i 0
theorem ok_180 : okS 180 cd_180 wp_180 0 32 = true := by decide +kernel
theorem mo_180 : mOK 180 1414 1412 1413 130 = true := by decide +kernel
def wp_181 : Nat → Nat := fun i => [0, 0, 1086, 0, 0, 1057, 0, 0, 1008, 0, 0, 1103, 0, 0, 0, 0, 0, 1032, 0, 0, 0, 0, 0, 0, 0, 0, 1430, 0, 486, 0, 0, 1454, 0].getD i 0
theorem ok_181 : okS 181 cd_181 wp_181 0 33 = true := by decide +kernel
theorem mo_181 : mOK 181 1428 1426 1427 130 = true := by decide +kernel
def wp_182 : Nat → Nat := fun i => [0, 0, 1086, 0, 0, 1057, 0, 0, 1008, 0, 486, 1117, 0, 487, 0, 481, 0, 0, 0, 1465, 0].getD i 0
theorem ok_182 : okS 182 cd_182 wp_182 0 21 = true := by decide +kernel
theorem mo_182 : mOK 182 1464 1462 1463 130 = true := by decide +kernel
def wp_183 : Nat → Nat := fun i => [0, 0, 1086, 0, 0, 1057, 0, 0, 1103, 0, 0, 0, 0, 1430, 0, 486, 1479, 0].getD i 0
theorem ok_183 : okS 183 cd_183 wp_183 0 18 = true := by decide +kernel
theorem mo_183 : mOK 183 1478 1476 1477 130 = true := by decide +kernel
def wp_184 : Nat → Nat := fun i => [0, 0, 1086, 0, 0, 1057, 0, 486, 1117, 0, 487, 0, 481, 0, 0, 0, 1490, 0].getD i 0
theorem ok_184 : okS 184 cd_184 wp_184 0 18 = true := by decide +kernel
theorem mo_184 : mOK 184 1489 1487 1488 130 = true := by decide +kernel
def wp_185 : Nat → Nat := fun i => [0, 0, 1086, 0, 0, 1057, 0, 0, 1103, 0, 0, 0, 0, 1430, 0, 481, 310, 0, 0, 0, 0, 0, 486, 1524, 0, 0].getD i 0
theorem ok_185 : okS 185 cd_185 wp_185 0 26 = true := by decide +kernel
theorem mo_185 : mOK 185 1523 1521 1522 130 = true := by decide +kernel
def wp_186 : Nat → Nat := fun i => [0, 0, 1086, 0, 0, 1057, 0, 0, 1008, 0, 0, 1103, 0, 483, 0, 481, 632, 0, 485, 0, 483, 0, 0, 0, 1121, 0, 487, 0, 483, 0, 1535, 0].getD i 0
theorem ok_186 : okS 186 cd_186 wp_186 0 32 = true := by decide +kernel
theorem mo_186 : mOK 186 1534 1532 1533 130 = true := by decide +kernel
def wp_187 : Nat → Nat := fun i => [0, 0, 1086, 0, 0, 1057, 0, 0, 0, 0, 0, 1008, 0, 0, 1103, 0, 0, 0, 0, 1430, 0, 487, 0, 481, 0, 1549, 0].getD i 0
theorem ok_187 : okS 187 cd_187 wp_187 0 27 = true := by decide +kernel
theorem mo_187 : mOK 187 1548 1546 1547 130 = true := by decide +kernel
def wp_188 : Nat → Nat := fun i => [0, 0, 1086, 0, 0, 1057, 0, 0, 1008, 0, 0, 0, 0, 1099, 0, 0, 0, 0, 0, 0, 1113, 0, 487, 0, 481, 0, 1583, 0].getD i 0
theorem ok_188 : okS 188 cd_188 wp_188 0 28 = true := by decide +kernel
theorem mo_188 : mOK 188 1582 1580 1581 130 = true := by decide +kernel
def wp_189 : Nat → Nat := fun i => [0, 0, 1086, 0, 0, 1057, 0, 0, 0, 0, 1099, 0, 0, 0, 0, 0, 0, 1113, 0, 487, 0, 481, 0, 1600, 0].getD i 0
theorem ok_189 : okS 189 cd_189 wp_189 0 25 = true := by decide +kernel
theorem mo_189 : mOK 189 1599 1597 1598 130 = true := by decide +kernel
