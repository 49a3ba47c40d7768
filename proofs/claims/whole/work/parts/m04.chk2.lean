def wp_190 : Nat → Nat := fun i => [0, 0, 1086, 0, 0, 1103, 0, 481, 282, 549, 0, 0, 0, 481, 287, 1612, 0, 0, 1310, 0, 0, 0, 0, 0, 0, 0, 0, 0, 1032, 0, 0, 0, 0, 0, 486, 1117, 0, 487, 0, 481, 0, 0, 0, 1615, 0, 0, 0, 487, 1627, 0, 0, 487, 1640, 0, 0, 487, 1648, 0].getD i 0
theorem ok_190 : okS 190 cd_190 wp_190 0 64 = true := by decide +kernel
theorem mo_190 : mOK 190 1611 1609 1610 130 = true := by decide +kernel
def wp_191 : Nat → Nat := fun i => [0, 480, 0, 477, 1659, 0, 0, 477, 0, 537, 0, 0, 0, 822, 0, 0, 0, 0, 0, 0, 0, 480, 1666, 0, 0, 480, 1682, 0].getD i 0
theorem ok_191 : okS 191 cd_191 wp_191 0 28 = true := by decide +kernel
theorem mo_191 : mOK 191 1658 1656 1657 130 = true := by decide +kernel
def wp_192 : Nat → Nat := fun i => [0, 481, 605, 0].getD i 0
theorem ok_192 : okS 192 cd_192 wp_192 0 4 = true := by decide +kernel
theorem mo_192 : mOK 192 604 602 603 130 = true := by decide +kernel
def wp_193 : Nat → Nat := fun i => [0, 0, 0, 1298, 0, 0, 0, 0, 1107, 0, 481, 0, 0, 0, 1690, 0].getD i 0
theorem ok_193 : okS 193 cd_193 wp_193 0 16 = true := by decide +kernel
theorem mo_193 : mOK 193 1689 1687 1688 130 = true := by decide +kernel
def wp_194 : Nat → Nat := fun i => [0, 0, 1008, 0, 0, 1008, 0, 0, 0, 822, 0, 0, 0, 0, 0, 481, 0, 0, 0, 481, 282, 0, 0, 1049, 0, 481, 282, 0, 0, 1049, 1702, 0].getD i 0
theorem ok_194 : okS 194 cd_194 wp_194 0 32 = true := by decide +kernel
theorem mo_194 : mOK 194 1700 1698 1699 130 = true := by decide +kernel
def wp_195 : Nat → Nat := fun i => [0, 0, 0, 0, 0, 0, 1710, 0, 0, 0, 0, 0, 0, 0, 481, 325, 1714, 0].getD i 0
theorem ok_195 : okS 195 cd_195 wp_195 0 18 = true := by decide +kernel
theorem mo_195 : mOK 195 1709 1707 1708 130 = true := by decide +kernel
def wp_196 : Nat → Nat := fun i => [0, 0, 0, 0, 0, 0, 1710, 0, 0, 0, 0, 0, 0, 0, 1714, 0, 0, 0, 0, 0, 0, 0, 0, 0, 0, 0, 0, 0, 1714, 0, 0, 0, 0, 0, 1327, 0, 0, 0, 1729, 0, 0, 0, 0, 0].getD i 0
theorem ok_196 : okS 196 cd_196 wp_196 0 44 = true := by decide +kernel
theorem mo_196 : mOK 196 1728 1726 1727 130 = true := by decide +kernel
def wp_197 : Nat → Nat := fun i => [0, 483, 0, 481, 632, 0, 483, 0, 325, 0, 0, 0, 0, 0, 0, 0, 0, 485, 0, 483, 0, 0, 0, 1121, 0, 485, 0, 0, 1134, 0, 483, 0, 485, 1206, 0, 0, 0, 0, 483, 1718, 0, 0, 0, 0, 0, 0].getD i 0
theorem ok_197 : okS 197 cd_197 wp_197 0 46 = true := by decide +kernel
theorem mo_197 : mOK 197 1717 1716 63 130 = true := by decide +kernel
def wp_198 : Nat → Nat := fun i => [0, 0, 0, 0, 0, 1086, 0, 481, 0, 1737, 0].getD i 0
theorem ok_198 : okS 198 cd_198 wp_198 0 11 = true := by decide +kernel
theorem mo_198 : mOK 198 1736 1734 1735 130 = true := by decide +kernel
def wp_199 : Nat → Nat := fun i => [0, 0, 1008, 0, 0, 0, 481, 0, 1748, 0, 0, 481, 0, 1756, 0].getD i 0
theorem ok_199 : okS 199 cd_199 wp_199 0 15 = true := by decide +kernel
theorem mo_199 : mOK 199 1747 1745 1746 130 = true := by decide +kernel
def wp_200 : Nat → Nat := fun i => [0, 481, 325, 0, 0, 481, 0, 325, 0, 0].getD i 0
theorem ok_200 : okS 200 cd_200 wp_200 0 10 = true := by decide +kernel
theorem mo_200 : mOK 200 619 617 618 130 = true := by decide +kernel
def wp_201 : Nat → Nat := fun i => [0, 484, 0, 481, 624, 0].getD i 0
theorem ok_201 : okS 201 cd_201 wp_201 0 6 = true := by decide +kernel
theorem mo_201 : mOK 201 623 621 622 130 = true := by decide +kernel
def wp_202 : Nat → Nat := fun i => [0, 482, 0, 481, 632, 0, 0, 488, 0].getD i 0
theorem ok_202 : okS 202 cd_202 wp_202 0 9 = true := by decide +kernel
theorem mo_202 : mOK 202 631 629 630 130 = true := by decide +kernel
def wp_203 : Nat → Nat := fun i => [0, 488, 0, 0, 0, 0, 481, 0, 482, 632, 0, 484, 637, 0, 0].getD i 0
theorem ok_203 : okS 203 cd_203 wp_203 0 15 = true := by decide +kernel
theorem mo_203 : mOK 203 636 634 635 130 = true := by decide +kernel
def wp_204 : Nat → Nat := fun i => [0, 486, 1117, 0, 485, 0, 481, 0, 0, 0, 1121, 0, 485, 0, 0, 1134, 0].getD i 0
theorem ok_204 : okS 204 cd_204 wp_204 0 17 = true := by decide +kernel
theorem mo_204 : mOK 204 1116 1115 29 130 = true := by decide +kernel
def wp_205 : Nat → Nat := fun i => [0, 486, 1117, 0, 485, 0, 481, 0, 0, 0, 1121, 0, 486, 0, 481, 0, 485, 1434, 0].getD i 0
theorem ok_205 : okS 205 cd_205 wp_205 0 19 = true := by decide +kernel
theorem mo_205 : mOK 205 1433 1432 47 130 = true := by decide +kernel
def wp_206 : Nat → Nat := fun i => [0, 481, 282, 0, 1012, 0, 1016, 0, 0, 0, 0, 0].getD i 0
theorem ok_206 : okS 206 cd_206 wp_206 0 12 = true := by decide +kernel
theorem mo_206 : mOK 206 1011 1010 23 130 = true := by decide +kernel
def wp_207 : Nat → Nat := fun i => [0, 481, 287, 0, 1012, 0, 1016, 0, 0, 0, 0, 0].getD i 0
theorem ok_207 : okS 207 cd_207 wp_207 0 12 = true := by decide +kernel
theorem mo_207 : mOK 207 1060 1059 24 130 = true := by decide +kernel
def wp_208 : Nat → Nat := fun i => [0, 481, 292, 0, 1012, 0, 1016, 0, 0, 0, 0, 0].getD i 0
theorem ok_208 : okS 208 cd_208 wp_208 0 12 = true := by decide +kernel
theorem mo_208 : mOK 208 1089 1088 25 130 = true := by decide +kernel
def wp_209 : Nat → Nat := fun i => [0, 0, 0, 0, 0, 0, 822, 0, 0, 0, 0, 0].getD i 0
theorem ok_209 : okS 209 cd_209 wp_209 0 12 = true := by decide +kernel
theorem mo_209 : mOK 209 1110 1109 28 130 = true := by decide +kernel
def wp_210 : Nat → Nat := fun i => [0, 0, 0, 0, 1107, 0].getD i 0
theorem ok_210 : okS 210 cd_210 wp_210 0 6 = true := by decide +kernel
theorem mo_210 : mOK 210 1106 1105 27 130 = true := by decide +kernel
def wp_211 : Nat → Nat := fun i => [0, 0, 0, 0, 1107, 0, 0, 0, 0, 1107, 0].getD i 0
theorem ok_211 : okS 211 cd_211 wp_211 0 11 = true := by decide +kernel
theorem mo_211 : mOK 211 1301 1300 45 130 = true := by decide +kernel
def wp_212 : Nat → Nat := fun i => [0, 0, 1103, 0, 0, 0, 0, 1107, 0, 0, 0, 0, 1107, 0].getD i 0
theorem ok_212 : okS 212 cd_212 wp_212 0 14 = true := by decide +kernel
theorem mo_212 : mOK 212 1102 1101 26 130 = true := by decide +kernel
def wp_213 : Nat → Nat := fun i => [0, 0, 1086, 0, 0, 1057, 0, 0, 0, 0, 1099, 0, 0, 0, 0, 1107, 0].getD i 0
theorem ok_213 : okS 213 cd_213 wp_213 0 17 = true := by decide +kernel
theorem mo_213 : mOK 213 1713 1712 62 130 = true := by decide +kernel
def wp_214 : Nat → Nat := fun i => (([[0, 1773, 0, 0, 0, 1775, 0, 0, 0, 1776, 0, 0, 0, 1778, 0, 0, 0, 1779, 0, 0, 0, 1781, 0, 0, 1786, 0, 0, 0, 1788, 0, 0, 0], [1790, 0, 0, 0, 1795, 0, 0, 0, 1798, 0, 0, 0, 1799, 0, 0, 0, 1800, 0, 0, 0, 1801, 0, 0, 0, 1802, 0, 0, 0, 1803, 0, 0, 0], [1804, 0, 0, 0, 1805, 0, 1775, 0, 0, 0, 0, 1775, 0, 0, 0, 0, 1775, 0, 0, 0, 0, 1775, 0, 0, 0, 0]] : List (List Nat)).getD (i / 32) []).getD (i % 32) 0
theorem ok_214 : okS 214 cd_214 wp_214 0 96 = true := by decide +kernel
theorem mo_214 : mOK 214 1772 1771 0 142 = true := by decide +kernel
def wp_215 : Nat → Nat := fun i => [0, 1774, 0].getD i 0
theorem ok_215 : okS 215 cd_215 wp_215 0 3 = true := by decide +kernel
theorem mo_215 : mOK 215 1875 1873 1874 142 = true := by decide +kernel
def wp_216 : Nat → Nat := fun i => [0, 0, 0, 0, 0, 0, 0, 0, 0, 0].getD i 0
theorem ok_216 : okS 216 cd_216 wp_216 0 10 = true := by decide +kernel
theorem mo_216 : mOK 216 1886 1885 0 142 = true := by decide +kernel
def wp_217 : Nat → Nat := fun i => [0, 0, 0, 0, 0, 0, 0].getD i 0
theorem ok_217 : okS 217 cd_217 wp_217 0 7 = true := by decide +kernel
theorem mo_217 : mOK 217 2002 2001 0 142 = true := by decide +kernel
def wp_218 : Nat → Nat := fun i => [0, 0, 0, 0, 0, 0, 0].getD i 0
theorem ok_218 : okS 218 cd_218 wp_218 0 7 = true := by decide +kernel
theorem mo_218 : mOK 218 2073 2072 0 142 = true := by decide +kernel
def wp_219 : Nat → Nat := fun i => [0, 0, 0, 0, 0, 0, 0].getD i 0
theorem ok_219 : okS 219 cd_219 wp_219 0 7 = true := by decide +kernel
theorem mo_219 : mOK 219 2050 2049 0 142 = true := by decide +kernel
def wp_220 : Nat → Nat := fun i => [0, 0, 0, 0, 0, 0, 0, 0, 0, 0].getD i 0
theorem ok_220 : okS 220 cd_220 wp_220 0 10 = true := by decide +kernel
theorem mo_220 : mOK 220 2159 2158 0 142 = true := by decide +kernel
def wp_221 : Nat → Nat := fun i => [0, 1775, 0, 0, 0, 0, 0, 0, 0, 0, 0].getD i 0
theorem ok_221 : okS 221 cd_221 wp_221 0 11 = true := by decide +kernel
theorem mo_221 : mOK 221 2039 2038 90 142 = true := by decide +kernel
def wp_222 : Nat → Nat := fun i => [0, 1775, 0, 0, 0, 0, 0, 0, 0, 0, 0].getD i 0
theorem ok_222 : okS 222 cd_222 wp_222 0 11 = true := by decide +kernel
theorem mo_222 : mOK 222 2062 2061 94 142 = true := by decide +kernel
def wp_223 : Nat → Nat := fun i => [0, 1775, 0, 0, 0, 0, 0, 0, 0, 0, 0].getD i 0
theorem ok_223 : okS 223 cd_223 wp_223 0 11 = true := by decide +kernel
theorem mo_223 : mOK 223 2092 2091 99 142 = true := by decide +kernel
def wp_224 : Nat → Nat := fun i => [0, 1775, 0, 0, 0, 0, 0, 0, 0, 0, 0].getD i 0
theorem ok_224 : okS 224 cd_224 wp_224 0 11 = true := by decide +kernel
theorem mo_224 : mOK 224 2156 2155 112 142 = true := by decide +kernel
def wp_225 : Nat → Nat := fun i => [0, 0, 0, 1775, 0, 0, 0, 0, 1884, 0].getD i 0
theorem ok_225 : okS 225 cd_225 wp_225 0 10 = true := by decide +kernel
theorem mo_225 : mOK 225 2035 2034 89 142 = true := by decide +kernel
def wp_226 : Nat → Nat := fun i => [0, 0, 0, 1775, 0, 0, 0, 0, 1884, 0].getD i 0
theorem ok_226 : okS 226 cd_226 wp_226 0 10 = true := by decide +kernel
theorem mo_226 : mOK 226 2058 2057 93 142 = true := by decide +kernel
def wp_227 : Nat → Nat := fun i => [0, 0, 0, 1775, 0, 0, 0, 0, 1884, 0].getD i 0
theorem ok_227 : okS 227 cd_227 wp_227 0 10 = true := by decide +kernel
theorem mo_227 : mOK 227 2088 2087 98 142 = true := by decide +kernel
def wp_228 : Nat → Nat := fun i => (([[0, 0, 1774, 0, 1782, 0, 0, 0, 0, 0, 0, 0, 0, 0, 0, 0, 0, 0, 0, 0, 0, 0, 0, 0, 0, 0, 0, 0, 0, 0, 0, 0], [0, 0, 0, 0, 0, 0, 0, 1781, 0, 1782, 0, 0, 0, 0, 0, 0, 0, 0, 0, 0, 0, 0, 0, 0, 1782, 0, 0, 1782, 0, 0, 0, 1782], [0]] : List (List Nat)).getD (i / 32) []).getD (i % 32) 0
theorem ok_228 : okS 228 cd_228 wp_228 0 96 = true := by decide +kernel
theorem mo_228 : mOK 228 1879 1877 1878 142 = true := by decide +kernel
def wp_229 : Nat → Nat := fun i => [0, 0, 1774, 0, 0, 0, 1782, 1884, 0, 0, 0, 0, 0, 1782, 0, 0].getD i 0
theorem ok_229 : okS 229 cd_229 wp_229 0 16 = true := by decide +kernel
theorem mo_229 : mOK 229 1883 1881 1882 142 = true := by decide +kernel
def wp_230 : Nat → Nat := fun i => [0, 1783, 0, 0, 0, 1781, 0, 0, 0, 0, 1775, 0, 1783, 0, 0, 0, 0].getD i 0
theorem ok_230 : okS 230 cd_230 wp_230 0 17 = true := by decide +kernel
theorem mo_230 : mOK 230 1910 1909 69 142 = true := by decide +kernel
def wp_231 : Nat → Nat := fun i => [0, 1785, 0, 1784, 0, 0, 0, 1785, 1907, 0, 0, 0, 0, 1785, 0, 0, 1785, 0, 0].getD i 0
theorem ok_231 : okS 231 cd_231 wp_231 0 19 = true := by decide +kernel
theorem mo_231 : mOK 231 1906 1905 68 142 = true := by decide +kernel
def wp_232 : Nat → Nat := fun i => [0, 1903, 0, 1785, 0, 1784, 0, 0, 0, 1785, 1907, 0, 0, 0, 0, 0, 0].getD i 0
theorem ok_232 : okS 232 cd_232 wp_232 0 17 = true := by decide +kernel
theorem mo_232 : mOK 232 1956 1955 78 142 = true := by decide +kernel
def wp_233 : Nat → Nat := fun i => [0, 1903, 0, 1785, 0, 0, 0, 1784, 0, 0, 0, 1907, 0, 0, 1884, 0, 0, 0, 0, 0, 1785, 0, 0, 1924, 0, 0, 0, 0, 0, 0, 0, 1924, 0, 0, 0, 1785, 0, 0, 1907, 0, 0, 1925, 0, 0, 0, 0, 0, 0, 0, 1785, 0, 0].getD i 0
theorem ok_233 : okS 233 cd_233 wp_233 0 64 = true := by decide +kernel
theorem mo_233 : mOK 233 1923 1922 72 142 = true := by decide +kernel
def wp_234 : Nat → Nat := fun i => [0, 1786, 0, 0, 0, 0, 1786, 0].getD i 0
theorem ok_234 : okS 234 cd_234 wp_234 0 8 = true := by decide +kernel
theorem mo_234 : mOK 234 1914 1913 70 142 = true := by decide +kernel
def wp_235 : Nat → Nat := fun i => [0, 1786, 0, 0, 0, 0, 1920, 0, 0, 0, 1785, 1911, 0].getD i 0
theorem ok_235 : okS 235 cd_235 wp_235 0 13 = true := by decide +kernel
theorem mo_235 : mOK 235 1992 1991 84 142 = true := by decide +kernel
def wp_236 : Nat → Nat := fun i => [0, 1903, 0, 1785, 0].getD i 0
theorem ok_236 : okS 236 cd_236 wp_236 0 5 = true := by decide +kernel
theorem mo_236 : mOK 236 1938 1937 74 142 = true := by decide +kernel
def wp_237 : Nat → Nat := fun i => (([[0, 1786, 0, 0, 0, 0, 0, 1935, 0, 0, 0, 0, 1785, 0, 1784, 0, 0, 0, 1785, 1907, 0, 0, 1884, 0, 0, 1785, 0, 0, 0, 0, 0, 0], [0, 0, 0, 1785, 1907, 0, 0, 0, 0, 0, 0, 1785, 0, 0, 1785, 0, 0, 1785, 0, 0, 0, 1785, 0, 0, 0, 0, 0, 0, 0, 0, 0, 0], [0, 0, 1911, 0, 0]] : List (List Nat)).getD (i / 32) []).getD (i % 32) 0
theorem ok_237 : okS 237 cd_237 wp_237 0 96 = true := by decide +kernel
theorem mo_237 : mOK 237 1934 1933 73 142 = true := by decide +kernel
def wp_238 : Nat → Nat := fun i => (([[0, 1775, 0, 0, 0, 0, 0, 0, 1911, 0, 0, 0, 1931, 0, 0, 0, 0, 1931, 0, 0, 1988, 1989, 0, 0, 0, 1931, 0, 0, 1993, 1989, 0, 0], [0, 1931, 0, 0, 1786, 0, 0, 0, 1994, 1920, 0, 0, 0, 0, 0, 0, 1786, 0, 0, 0, 0, 0, 0, 1775, 0, 0, 0, 0, 0, 0, 1775, 0], [0, 0, 0, 0, 0, 1775, 0, 0, 0, 0, 0, 0, 1775, 0, 0, 0, 0, 0, 0, 1775, 0, 0, 0, 0, 0, 0, 1775, 0, 0, 0, 0, 0], [0, 0, 0, 0, 0, 1775, 0, 0, 0, 0, 0, 0, 0]] : List (List Nat)).getD (i / 32) []).getD (i % 32) 0
theorem ok_238 : okS 238 cd_238 wp_238 0 128 = true := by decide +kernel
theorem mo_238 : mOK 238 1987 1986 83 142 = true := by decide +kernel
def wp_239 : Nat → Nat := fun i => (([[0, 1775, 0, 0, 0, 0, 0, 0, 1911, 0, 0, 0, 1931, 0, 0, 1999, 1989, 0, 0, 0, 0, 0, 0, 2000, 1931, 0, 0, 1786, 0, 0, 0, 1961], [1920, 0, 0, 0, 0, 0, 0, 1786, 0, 0, 0, 0, 0, 0, 1775, 0, 0, 0, 0, 0, 0, 1775, 0, 0, 0, 0, 0, 0, 1775, 0, 0, 0], [0, 0, 0, 1775, 0, 0, 0, 0, 0, 0, 0, 0, 0, 0, 1775, 0, 0, 0, 0, 0, 0, 0]] : List (List Nat)).getD (i / 32) []).getD (i % 32) 0
theorem ok_239 : okS 239 cd_239 wp_239 0 96 = true := by decide +kernel
theorem mo_239 : mOK 239 1998 1997 85 142 = true := by decide +kernel
def wp_240 : Nat → Nat := fun i => [0, 1775, 0, 0, 0, 0, 0, 0, 1911, 0, 0, 0, 1931, 0, 0, 1786, 0, 0, 0, 0, 0, 0, 1775, 0, 0, 0, 0, 0, 0, 1775, 0, 0, 0, 0, 0, 0, 1775, 0, 0, 0, 0, 0, 0, 1775, 0, 0, 0, 0, 0, 0, 1775, 0, 0, 0, 0, 0, 0, 0].getD i 0
theorem ok_240 : okS 240 cd_240 wp_240 0 64 = true := by decide +kernel
theorem mo_240 : mOK 240 2007 2006 86 142 = true := by decide +kernel
def wp_241 : Nat → Nat := fun i => [0, 0, 0, 1931, 0, 0, 1786, 0, 0, 0, 1775, 0, 0, 0, 0].getD i 0
theorem ok_241 : okS 241 cd_241 wp_241 0 15 = true := by decide +kernel
theorem mo_241 : mOK 241 2012 2011 87 142 = true := by decide +kernel
def wp_242 : Nat → Nat := fun i => (([[0, 1935, 0, 0, 1983, 1920, 0, 0, 0, 1984, 0, 0, 1971, 1920, 0, 0, 0, 1995, 0, 0, 2003, 1920, 0, 0, 0, 2004, 0, 0, 2008, 1920, 0, 0], [0, 0, 2009, 0, 0, 2013, 1920, 0, 0, 0, 0, 2009, 0, 0, 2014, 1920, 0, 0, 0, 0, 2009, 0, 0, 2015, 1920, 0, 0, 0, 0, 2009, 0, 0], [0, 1785, 1911, 0]] : List (List Nat)).getD (i / 32) []).getD (i % 32) 0
theorem ok_242 : okS 242 cd_242 wp_242 0 96 = true := by decide +kernel
theorem mo_242 : mOK 242 1982 1981 82 142 = true := by decide +kernel
def wp_243 : Nat → Nat := fun i => [0, 0, 1786, 0, 0, 1783, 0, 0, 1782, 1784, 0, 0, 1782, 0, 0, 1785, 0, 0, 1787, 0].getD i 0
theorem ok_243 : okS 243 cd_243 wp_243 0 20 = true := by decide +kernel
theorem mo_243 : mOK 243 1898 1897 66 142 = true := by decide +kernel
def wp_244 : Nat → Nat := fun i => (([[0, 1903, 0, 1785, 0, 1784, 0, 0, 0, 0, 0, 0, 0, 0, 0, 0, 1786, 0, 0, 0, 1903, 0, 0, 0, 0, 0, 0, 0, 0, 0, 1785, 1911], [0, 0, 0, 0, 1915, 0, 0, 1979, 0, 0, 1903, 0, 1786, 0, 0, 0, 1785, 0, 1784, 0, 0, 0, 0, 0, 0, 1953, 0, 0, 0, 1785, 0, 0], [1785, 0, 0, 0, 1785, 1911, 0, 0, 0]] : List (List Nat)).getD (i / 32) []).getD (i % 32) 0
theorem ok_244 : okS 244 cd_244 wp_244 0 96 = true := by decide +kernel
theorem mo_244 : mOK 244 1902 1901 67 142 = true := by decide +kernel
def wp_245 : Nat → Nat := fun i => [0, 0, 0, 0, 0, 0, 1778, 0, 0, 1775, 0, 0, 0, 0, 0, 0].getD i 0
theorem ok_245 : okS 245 cd_245 wp_245 0 16 = true := by decide +kernel
theorem mo_245 : mOK 245 1894 1893 65 142 = true := by decide +kernel
def wp_246 : Nat → Nat := fun i => [0, 0, 0, 0, 0, 0, 1775, 0, 0, 1778, 0, 0, 0, 0, 0, 0].getD i 0
theorem ok_246 : okS 246 cd_246 wp_246 0 16 = true := by decide +kernel
theorem mo_246 : mOK 246 2019 2018 88 142 = true := by decide +kernel
def wp_247 : Nat → Nat := fun i => [0, 1891, 0, 1895, 0, 0, 1899, 0, 0, 0, 1786, 0, 0, 0, 0, 0, 1775, 0, 0, 0, 0, 0, 0, 0, 1774, 0, 1774, 0, 0, 2016, 0, 0, 0, 1775, 0, 0, 0, 0, 0, 0, 0, 0, 1780, 0, 1775, 0, 0, 0].getD i 0
theorem ok_247 : okS 247 cd_247 wp_247 0 48 = true := by decide +kernel
theorem mo_247 : mOK 247 1890 1888 1889 142 = true := by decide +kernel
def wp_248 : Nat → Nat := fun i => (([[0, 1786, 0, 0, 0, 0, 0, 1903, 0, 1785, 0, 1784, 0, 0, 0, 1785, 1907, 0, 0, 1884, 0, 0, 0, 0, 1931, 0, 0, 1970, 1920, 0, 0, 0], [0, 1971, 1920, 0, 0, 0, 0, 1972, 1920, 0, 0, 0, 0, 1973, 1920, 0, 0, 0, 0, 1974, 1920, 0, 0, 0, 0, 1975, 1920, 0, 0, 0, 0, 1976], [1920, 0, 0, 0, 0, 0, 0, 0, 0, 0, 0, 1785, 1911, 0, 0, 0, 1788, 0, 0, 0]] : List (List Nat)).getD (i / 32) []).getD (i % 32) 0
theorem ok_248 : okS 248 cd_248 wp_248 0 96 = true := by decide +kernel
theorem mo_248 : mOK 248 1969 1968 81 142 = true := by decide +kernel
def wp_249 : Nat → Nat := fun i => [0, 1966, 0, 0, 1786, 0, 0, 0, 0, 1953, 0, 0, 0, 1785, 0, 0, 1785, 0, 0, 1966, 0, 0, 0, 0, 0].getD i 0
theorem ok_249 : okS 249 cd_249 wp_249 0 25 = true := by decide +kernel
theorem mo_249 : mOK 249 1965 1964 80 142 = true := by decide +kernel
def wp_250 : Nat → Nat := fun i => [0, 1961, 1920, 0, 0, 1789, 0, 0, 1962, 0, 0, 1786, 0, 0, 0, 0, 0, 0, 1953, 0, 0, 0, 0, 0, 1953, 0, 0, 0, 1785, 1911, 0, 0, 0, 0, 1785, 0, 0, 1785, 0, 1962, 0, 0, 0, 0, 0, 0, 0, 0, 0, 0, 0, 0, 0, 0, 0, 0, 0].getD i 0
theorem ok_250 : okS 250 cd_250 wp_250 0 64 = true := by decide +kernel
theorem mo_250 : mOK 250 1960 1959 79 142 = true := by decide +kernel
def wp_251 : Nat → Nat := fun i => (([[0, 1786, 0, 0, 0, 0, 0, 1935, 0, 0, 1952, 1920, 0, 0, 0, 0, 0, 1953, 0, 0, 1957, 0, 0, 1787, 0, 0, 0, 0, 1911, 0, 0, 0], [0, 1787, 0, 0, 1787, 0, 0, 0, 0, 0, 1948, 0, 0, 0, 0, 0, 0, 0, 0, 1785, 0, 0, 1785, 0, 1940, 0, 0, 1786, 0, 0, 0, 0], [1953, 0, 0, 0, 1785, 1911, 0, 0, 1785, 0, 0, 1785, 0, 0, 1787, 0, 0, 1787, 0, 0]] : List (List Nat)).getD (i / 32) []).getD (i % 32) 0
theorem ok_251 : okS 251 cd_251 wp_251 0 96 = true := by decide +kernel
theorem mo_251 : mOK 251 1951 1950 77 142 = true := by decide +kernel
def wp_252 : Nat → Nat := fun i => [0, 1948, 0, 0, 1786, 0, 0, 0, 1977, 1920, 0, 0, 1948, 0, 0, 0, 0, 0, 0, 0, 0, 0, 0, 0, 0].getD i 0
theorem ok_252 : okS 252 cd_252 wp_252 0 25 = true := by decide +kernel
theorem mo_252 : mOK 252 1947 1946 76 142 = true := by decide +kernel
def wp_253 : Nat → Nat := fun i => [0, 1944, 0, 0, 1786, 0, 0, 0, 1978, 1920, 0, 0, 1944, 0, 0, 0, 0, 0, 0, 0, 0, 0, 0, 0, 0].getD i 0
theorem ok_253 : okS 253 cd_253 wp_253 0 25 = true := by decide +kernel
theorem mo_253 : mOK 253 1943 1942 75 142 = true := by decide +kernel
def wp_254 : Nat → Nat := fun i => (([[0, 1919, 1920, 0, 0, 0, 0, 1926, 1920, 0, 0, 0, 0, 1927, 1920, 0, 0, 0, 0, 1928, 1920, 0, 0, 0, 0, 1929, 1920, 0, 0, 0, 0, 1930], [1920, 0, 0, 0, 0, 0, 0, 0, 0, 0, 0, 1785, 1911, 0, 0, 0, 0, 0, 0, 0, 0, 0, 1931, 0, 0, 1786, 0, 0, 0, 0, 1939, 1920], [0, 0, 1940, 0, 0, 0, 0, 0, 0, 1786, 0, 0, 0, 0, 0, 1790, 0, 0, 0, 0, 0, 0, 0]] : List (List Nat)).getD (i / 32) []).getD (i % 32) 0
theorem ok_254 : okS 254 cd_254 wp_254 0 96 = true := by decide +kernel
theorem mo_254 : mOK 254 1918 1917 71 142 = true := by decide +kernel
def wp_255 : Nat → Nat := fun i => [0, 1895, 0, 0, 1899, 0, 0, 0, 1786, 0, 0, 0, 0, 0, 1774, 0, 1774, 0, 0, 0, 0, 1775, 0, 0, 0, 0, 1775, 0, 0, 1784, 0, 0, 0, 0, 0, 1784, 0, 0, 1775, 0, 0, 0, 0, 1781, 0, 0, 0, 0, 0, 0, 0, 1780, 0, 0].getD i 0
theorem ok_255 : okS 255 cd_255 wp_255 0 64 = true := by decide +kernel
theorem mo_255 : mOK 255 2023 2021 2022 142 = true := by decide +kernel
def wp_256 : Nat → Nat := fun i => [0, 0, 1774, 0, 1786, 0].getD i 0
theorem ok_256 : okS 256 cd_256 wp_256 0 6 = true := by decide +kernel
theorem mo_256 : mOK 256 2027 2025 2026 142 = true := by decide +kernel
def wp_257 : Nat → Nat := fun i => (([[0, 0, 0, 0, 2089, 0, 0, 2000, 0, 0, 0, 0, 0, 0, 0, 1790, 0, 0, 0, 0, 0, 0, 1775, 0, 0, 0, 0, 0, 1790, 0, 0, 0], [0, 1775, 0, 0, 0, 0, 1788, 0, 0, 0, 0, 1788, 0, 0, 0, 0, 1788, 0, 0, 0, 0, 1788, 0, 0, 0, 0, 1788, 0, 0, 0, 0, 1788], [0, 0, 0, 0, 1788, 0, 0, 0, 0, 2089, 0, 0, 0, 0, 0, 0, 0, 2059, 0, 0, 0, 0, 0, 1789, 0, 1786, 0, 0, 0, 1786, 0, 0], [1783, 0, 0, 1775, 0, 0, 1784, 0, 0, 1785, 0, 0, 1787, 0, 0, 1899, 0, 0, 0, 1786, 0, 0, 0, 1790, 0, 0, 0, 0, 1790, 0, 0, 0], [1791, 0, 0, 0, 0, 0, 1790, 0, 0, 0, 0, 1790, 0, 0, 0, 1792, 0, 0, 0, 0, 1790, 0, 0, 2000, 0, 0, 0, 0, 2071, 1793, 0, 0], [1790, 0, 0, 1794, 0]] : List (List Nat)).getD (i / 32) []).getD (i % 32) 0
theorem ok_257 : okS 257 cd_257 wp_257 0 192 = true := by decide +kernel
theorem mo_257 : mOK 257 2107 2106 101 142 = true := by decide +kernel
def wp_258 : Nat → Nat := fun i => [0, 0, 0, 0, 0, 2048, 0, 0, 0, 0, 0, 2048, 2071, 0, 0, 0, 0, 0, 0, 0, 2048, 0, 0, 0, 0, 0, 2048, 2071, 0, 0, 0, 0, 0, 0, 0, 0, 0, 0, 0, 0, 0, 0, 0, 0, 0, 0, 0, 0, 0, 0, 0, 0, 0, 0, 0, 0, 0, 0, 0, 0].getD i 0
theorem ok_258 : okS 258 cd_258 wp_258 0 64 = true := by decide +kernel
theorem mo_258 : mOK 258 2080 2079 0 142 = true := by decide +kernel
def wp_259 : Nat → Nat := fun i => [0, 0, 0, 0, 2059, 0, 0, 0, 2059, 0, 0, 0, 2071, 0].getD i 0
theorem ok_259 : okS 259 cd_259 wp_259 0 14 = true := by decide +kernel
theorem mo_259 : mOK 259 2070 2069 96 142 = true := by decide +kernel
def wp_260 : Nat → Nat := fun i => [0, 0, 0, 0, 2059, 0, 0, 2071, 0].getD i 0
theorem ok_260 : okS 260 cd_260 wp_260 0 9 = true := by decide +kernel
theorem mo_260 : mOK 260 2077 2076 97 142 = true := by decide +kernel
def wp_261 : Nat → Nat := fun i => [0, 0, 0, 2067, 0, 0, 0, 0, 2074, 0, 0, 0, 0, 0, 1775, 0, 0, 0, 0, 0, 0, 0, 0, 2036, 0, 0, 0, 0, 2036, 0, 0, 0, 0, 0, 2036, 0, 2078, 0, 0, 0, 0, 0, 0, 0].getD i 0
theorem ok_261 : okS 261 cd_261 wp_261 0 44 = true := by decide +kernel
theorem mo_261 : mOK 261 2132 2131 106 142 = true := by decide +kernel
def wp_262 : Nat → Nat := fun i => [0, 0, 0, 2036, 0, 0, 0, 0, 0, 0, 2036, 0, 2048, 0, 0, 0, 0, 2067, 0, 0, 0, 0, 0, 0, 0, 0, 2036, 0, 2048, 0, 0, 0, 0, 2074, 0, 0, 0, 0, 0, 0, 0].getD i 0
theorem ok_262 : okS 262 cd_262 wp_262 0 41 = true := by decide +kernel
theorem mo_262 : mOK 262 2140 2139 108 142 = true := by decide +kernel
def wp_263 : Nat → Nat := fun i => [0, 0, 0, 0, 1775, 0, 0, 0, 0, 0, 0, 0, 0, 0, 2137, 0, 0, 0, 0, 0, 0, 2036, 0, 0, 0, 0, 0, 0, 0].getD i 0
theorem ok_263 : okS 263 cd_263 wp_263 0 29 = true := by decide +kernel
theorem mo_263 : mOK 263 2136 2135 107 142 = true := by decide +kernel
def wp_264 : Nat → Nat := fun i => [0, 0, 1796, 0, 0, 1797, 0, 0, 0, 0, 0, 2129, 0, 0, 0, 0, 0, 0, 0, 0, 0, 0, 0, 0, 2133, 0, 0, 0, 0, 1775, 0, 0, 0, 1797, 0, 0, 0, 0, 1797, 0, 2129, 0, 0, 0, 0, 0, 0, 0, 0, 0, 1796, 0, 1797, 0, 0, 2133, 0, 0, 0, 0, 0].getD i 0
theorem ok_264 : okS 264 cd_264 wp_264 0 64 = true := by decide +kernel
theorem mo_264 : mOK 264 2128 2127 105 142 = true := by decide +kernel
def wp_265 : Nat → Nat := fun i => (([[0, 0, 0, 0, 0, 0, 1795, 0, 0, 0, 0, 0, 0, 1791, 0, 1793, 0, 0, 0, 0, 1791, 0, 1793, 0, 0, 0, 1792, 0, 1793, 0, 0, 0], [0, 1792, 0, 1793, 0, 0, 0, 0, 0, 0, 0, 1794, 2125, 0, 0, 0, 0, 1795, 0, 0, 0, 0, 0, 0, 0, 0, 0, 0, 0, 0, 1793, 0], [0, 0, 0, 0, 1793, 0, 0, 0, 0, 0]] : List (List Nat)).getD (i / 32) []).getD (i % 32) 0
theorem ok_265 : okS 265 cd_265 wp_265 0 96 = true := by decide +kernel
theorem mo_265 : mOK 265 2211 2210 115 142 = true := by decide +kernel
def wp_266 : Nat → Nat := fun i => [0, 0, 0, 0, 0, 0, 2036, 0, 0, 0, 2036, 0, 0, 0, 0, 0, 2036, 0, 0, 0, 2036, 0, 2048, 0, 0, 0, 0, 2036, 0, 0, 0, 2036, 0, 0, 0, 0, 0, 0].getD i 0
theorem ok_266 : okS 266 cd_266 wp_266 0 38 = true := by decide +kernel
theorem mo_266 : mOK 266 2047 2046 92 142 = true := by decide +kernel
def wp_267 : Nat → Nat := fun i => [0, 0, 0, 0, 0, 0, 1775, 0, 0, 0, 0, 0, 0, 0, 2044, 0, 0, 0, 0, 0, 0, 0, 0, 0, 0, 0, 0].getD i 0
theorem ok_267 : okS 267 cd_267 wp_267 0 27 = true := by decide +kernel
theorem mo_267 : mOK 267 2043 2042 91 142 = true := by decide +kernel
def wp_268 : Nat → Nat := fun i => [0, 0, 0, 2032, 0, 0, 0, 0, 0, 0, 1884, 0, 0, 0, 0, 1774, 0, 1774, 0, 0, 0, 0, 0, 0, 0, 0, 0, 2036, 0, 0, 0, 2040, 0].getD i 0
theorem ok_268 : okS 268 cd_268 wp_268 0 33 = true := by decide +kernel
theorem mo_268 : mOK 268 2031 2029 2030 142 = true := by decide +kernel
def wp_269 : Nat → Nat := fun i => [0, 0, 0, 0, 0, 0, 0, 0, 0, 0, 2067, 0, 0, 0, 2074, 0, 0, 0, 2078, 0, 0, 0, 0, 0, 0, 0, 0, 0].getD i 0
theorem ok_269 : okS 269 cd_269 wp_269 0 28 = true := by decide +kernel
theorem mo_269 : mOK 269 2066 2065 95 142 = true := by decide +kernel
def wp_270 : Nat → Nat := fun i => [0, 0, 0, 2055, 0, 0, 0, 0, 0, 0, 1884, 0, 0, 0, 0, 1774, 0, 1774, 0, 0, 0, 0, 0, 0, 0, 0, 0, 2059, 0, 0, 0, 2063, 0].getD i 0
theorem ok_270 : okS 270 cd_270 wp_270 0 33 = true := by decide +kernel
theorem mo_270 : mOK 270 2054 2052 2053 142 = true := by decide +kernel
def wp_271 : Nat → Nat := fun i => [0, 0, 0, 2085, 0, 0, 0, 0, 0, 0, 1884, 0, 0, 0, 0, 1774, 0, 1774, 0, 0, 0, 0, 0, 0, 2089, 0].getD i 0
theorem ok_271 : okS 271 cd_271 wp_271 0 26 = true := by decide +kernel
theorem mo_271 : mOK 271 2084 2082 2083 142 = true := by decide +kernel
def wp_272 : Nat → Nat := fun i => [0, 0, 0, 1884, 0, 0, 0, 0, 1884, 0, 0, 0, 0, 1884, 0, 0, 0, 0, 0].getD i 0
theorem ok_272 : okS 272 cd_272 wp_272 0 19 = true := by decide +kernel
theorem mo_272 : mOK 272 2103 2102 0 142 = true := by decide +kernel
def wp_273 : Nat → Nat := fun i => [0, 0, 2085, 0, 0, 0, 2055, 0, 0, 0, 0, 0, 0, 2101, 0, 0, 0, 0, 0].getD i 0
theorem ok_273 : okS 273 cd_273 wp_273 0 19 = true := by decide +kernel
theorem mo_273 : mOK 273 2100 2099 100 142 = true := by decide +kernel
def wp_274 : Nat → Nat := fun i => [0, 0, 0, 0, 0, 0, 0, 2097, 0, 0, 0, 0, 0, 0, 0, 0, 0, 0, 2097, 0, 0, 0, 0, 0, 1884, 0, 0, 0, 0, 1774, 0, 1774, 0, 0, 0, 0, 0, 0, 0, 0, 0, 0, 2104, 0, 0, 0, 1791, 0, 0, 0, 0, 0, 1792, 0, 0, 0, 0, 0, 1793, 0, 0, 1794, 0].getD i 0
theorem ok_274 : okS 274 cd_274 wp_274 0 64 = true := by decide +kernel
theorem mo_274 : mOK 274 2096 2094 2095 142 = true := by decide +kernel
def wp_275 : Nat → Nat := fun i => [0, 1780, 0, 0, 0, 0, 0, 0, 0, 0, 1779, 0, 0, 1779, 0, 0, 0, 0, 0, 0, 0, 0, 0, 1780, 0, 0, 1780, 0, 0, 0, 0, 0, 0, 1779, 0, 0, 1780, 0, 0, 0, 0, 1775, 0, 0, 0, 0, 0, 0, 0, 1780, 0, 0, 1780, 0].getD i 0
theorem ok_275 : okS 275 cd_275 wp_275 0 64 = true := by decide +kernel
theorem mo_275 : mOK 275 2115 2114 102 142 = true := by decide +kernel
def wp_276 : Nat → Nat := fun i => [0, 1775, 0, 2124, 0, 1775, 0, 0, 0, 0, 0, 0, 0, 1775, 0, 0, 0, 0, 0, 0, 0, 0, 0].getD i 0
theorem ok_276 : okS 276 cd_276 wp_276 0 23 = true := by decide +kernel
theorem mo_276 : mOK 276 2123 2122 104 142 = true := by decide +kernel
def wp_277 : Nat → Nat := fun i => [0, 1775, 0, 0, 0, 0, 0, 0, 0, 0, 0, 0, 0, 0, 0, 1775, 0, 0, 0, 0, 0, 1775, 0, 0, 0, 0, 1775, 0, 0, 0, 0, 0, 0, 0, 0, 0, 0].getD i 0
theorem ok_277 : okS 277 cd_277 wp_277 0 37 = true := by decide +kernel
theorem mo_277 : mOK 277 2144 2143 109 142 = true := by decide +kernel
def wp_278 : Nat → Nat := fun i => [0, 0, 0, 0, 0, 0, 0, 1775, 0, 0, 0, 0, 0, 0, 1775, 0, 0, 0, 0, 0, 0, 1775, 0, 0, 0, 0, 0, 0, 1775, 0, 0, 0, 0, 0, 0, 0, 0, 0, 0].getD i 0
theorem ok_278 : okS 278 cd_278 wp_278 0 39 = true := by decide +kernel
theorem mo_278 : mOK 278 2148 2147 110 142 = true := by decide +kernel
def wp_279 : Nat → Nat := fun i => (([[0, 0, 0, 0, 0, 0, 0, 0, 2153, 0, 0, 0, 0, 2153, 0, 0, 2048, 0, 1775, 0, 0, 0, 0, 0, 0, 2153, 0, 0, 2048, 0, 1775, 0], [0, 0, 0, 0, 0, 0, 0, 0, 0, 0, 0, 0, 2153, 0, 0, 0, 0, 2153, 0, 0, 0, 2153, 0, 0, 2157, 0, 0, 0, 0, 0, 2153, 0], [0, 0, 2153, 0, 0, 2157, 0, 0, 0, 0, 0, 0, 0, 2129, 0, 0, 0, 0, 0, 0, 0, 0, 0, 0, 0, 0, 0, 0, 0, 2133, 2145, 0], [0, 0, 0, 2141, 0, 1775, 0, 0, 0, 0, 0, 0, 1775, 0, 0, 0, 0, 0, 0, 2036, 0, 0, 0, 0]] : List (List Nat)).getD (i / 32) []).getD (i % 32) 0
theorem ok_279 : okS 279 cd_279 wp_279 0 128 = true := by decide +kernel
theorem mo_279 : mOK 279 2152 2151 111 142 = true := by decide +kernel
def wp_280 : Nat → Nat := fun i => (([[0, 0, 0, 0, 0, 0, 0, 2104, 0, 1794, 0, 0, 0, 0, 2089, 0, 0, 0, 0, 1775, 0, 0, 0, 0, 1775, 0, 0, 0, 0, 0, 1791, 0], [1793, 0, 0, 0, 0, 1793, 0, 0, 0, 2120, 0, 0, 0, 1792, 0, 1793, 0, 0, 0, 0, 1793, 0, 0, 0, 2120, 0, 0, 0, 0, 0, 0, 0], [2125, 0, 0, 0, 0, 0, 0, 1775, 0, 0, 0, 0, 0, 0, 2036, 0, 0, 0, 1775, 0, 0, 0, 0, 0, 0, 0, 0, 0, 0, 0, 0, 0], [0, 1775, 0, 0, 0, 0, 0, 0, 2141, 0, 1775, 0, 0, 0, 0, 0, 0, 0, 1796, 0, 1797, 0, 0, 0, 0, 0, 0, 2145, 0, 1775, 0, 0], [0, 0, 0, 0, 0, 1775, 0, 0, 0, 0, 0, 0, 1796, 0, 1797, 0, 2149, 0, 0, 1775, 0, 0, 0, 0, 0, 0, 0, 1775, 0, 0, 0, 0], [0, 0, 0, 0, 0, 0, 0, 0, 0, 1775, 0, 0, 0, 0, 0, 0, 0, 0, 0, 0, 0, 2089, 0, 0, 2000, 0, 0, 0, 0, 0, 0, 0], [1775, 0, 0, 0, 0, 1775, 0, 0, 0, 0, 0, 0, 0, 0, 0, 0, 1775, 0, 0, 0, 0, 1775, 0, 0, 0, 0, 1775, 0, 0, 0, 0, 1775], [0, 0, 0, 0, 1775, 0, 0, 0, 0, 1775, 0, 0, 0, 0, 1775, 0, 0, 0, 1775, 0, 0, 0, 0, 2000, 0, 0, 0]] : List (List Nat)).getD (i / 32) []).getD (i % 32) 0
theorem ok_280 : okS 280 cd_280 wp_280 0 256 = true := by decide +kernel
theorem mo_280 : mOK 280 2119 2118 103 142 = true := by decide +kernel
def wp_281 : Nat → Nat := fun i => [0, 0, 0, 0, 0, 0, 0, 2097, 1774, 0, 1774, 0, 0, 0, 0, 2112, 0, 0, 0, 0, 0, 0, 2116, 0].getD i 0
theorem ok_281 : okS 281 cd_281 wp_281 0 24 = true := by decide +kernel
theorem mo_281 : mOK 281 2111 2109 2110 142 = true := by decide +kernel
def wp_282 : Nat → Nat := fun i => [0, 0, 1774, 0, 2112, 0, 1775, 0, 0, 0, 0, 1775, 0, 0, 0, 0, 0].getD i 0
theorem ok_282 : okS 282 cd_282 wp_282 0 17 = true := by decide +kernel
theorem mo_282 : mOK 282 2163 2161 2162 142 = true := by decide +kernel
def wp_283 : Nat → Nat := fun i => [0, 0, 0, 2055, 0, 0, 0, 0, 1774, 0, 1774, 0, 0, 0, 0, 2112, 0, 0, 0, 2059, 0, 0, 0, 0, 0, 0, 0, 1775, 0, 0, 0, 0, 0, 0, 0, 0, 0, 0, 0, 0, 0, 0, 0, 0, 0, 0, 0, 0].getD i 0
theorem ok_283 : okS 283 cd_283 wp_283 0 48 = true := by decide +kernel
theorem mo_283 : mOK 283 2167 2165 2166 142 = true := by decide +kernel
def wp_284 : Nat → Nat := fun i => [0, 0, 0, 2085, 0, 0, 0, 0, 0, 0, 1884, 0, 0, 0, 0, 1774, 0, 1774, 0, 0, 0, 0, 2112, 0, 0, 0, 2089, 0, 0, 1775, 0, 0, 0, 0, 0, 0, 0, 0, 0, 0, 0].getD i 0
theorem ok_284 : okS 284 cd_284 wp_284 0 41 = true := by decide +kernel
theorem mo_284 : mOK 284 2171 2169 2170 142 = true := by decide +kernel
def wp_285 : Nat → Nat := fun i => [0, 0, 0, 0, 2036, 0, 0, 0, 0, 0, 0, 0, 2036, 0, 2048, 0, 0, 0, 0, 0, 0, 2036, 0, 2048, 0, 2071, 0, 0, 0].getD i 0
theorem ok_285 : okS 285 cd_285 wp_285 0 29 = true := by decide +kernel
theorem mo_285 : mOK 285 2183 2182 114 142 = true := by decide +kernel
def wp_286 : Nat → Nat := fun i => [0, 0, 0, 0, 1775, 0, 0, 0, 0, 0, 0, 0, 0, 0, 0, 0, 0, 2036, 0, 2180, 0, 0, 0, 0, 0, 0, 0].getD i 0
theorem ok_286 : okS 286 cd_286 wp_286 0 27 = true := by decide +kernel
theorem mo_286 : mOK 286 2179 2178 113 142 = true := by decide +kernel
def wp_287 : Nat → Nat := fun i => (([[0, 0, 0, 2032, 0, 0, 0, 0, 0, 0, 1884, 0, 0, 0, 0, 1884, 0, 0, 0, 0, 0, 0, 0, 2176, 0, 0, 0, 0, 1774, 0, 1774, 0], [0, 0, 0, 2112, 0, 0, 0, 0, 2036, 0, 2048, 0, 0, 0, 0, 2036, 0, 2048, 2071, 0, 0, 1775, 0, 0, 0, 0, 0, 0, 0, 0, 0, 0], [1775, 0, 0, 0, 0, 0, 0, 0, 0, 0, 0, 0]] : List (List Nat)).getD (i / 32) []).getD (i % 32) 0
theorem ok_287 : okS 287 cd_287 wp_287 0 96 = true := by decide +kernel
theorem mo_287 : mOK 287 2175 2173 2174 142 = true := by decide +kernel
def wp_288 : Nat → Nat := fun i => [0, 0, 0, 0, 1884, 0, 0, 0, 0, 1774, 0, 1774, 0, 0, 0, 0, 0, 0, 1775, 0, 0, 0, 0, 1884, 0, 0, 0, 0, 2153, 0, 0, 0].getD i 0
theorem ok_288 : okS 288 cd_288 wp_288 0 32 = true := by decide +kernel
theorem mo_288 : mOK 288 2187 2185 2186 142 = true := by decide +kernel
def wp_289 : Nat → Nat := fun i => [0, 0, 0, 2055, 0, 0, 0, 2032, 0, 0, 0, 0, 0, 0, 1884, 0, 0, 0, 0, 1884, 0, 0, 0, 0, 1774, 0, 1774, 0, 0, 0, 0, 2067, 0, 0, 0, 2074, 0, 0, 0, 2036, 0, 0, 2078, 0, 0, 0, 0, 0].getD i 0
theorem ok_289 : okS 289 cd_289 wp_289 0 48 = true := by decide +kernel
theorem mo_289 : mOK 289 2191 2189 2190 142 = true := by decide +kernel
