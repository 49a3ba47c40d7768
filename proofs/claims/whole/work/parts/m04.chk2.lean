def wp_190 : Nat → Nat := fun i => [0, 0, 1096, 0, 0, 1067, 0, 0, 1018, 0, 0, 0, 0, 1109, 0, 0, 0, 0, 0, 0, 1123, 0, 489, 0, 483, 0, 1593, 0].getD i 0
theorem ok_190 : okS 190 cd_190 wp_190 0 28 = true := by decide +kernel
theorem mo_190 : mOK 190 1592 1590 1591 132 = true := by decide +kernel
def wp_191 : Nat → Nat := fun i => [0, 0, 1096, 0, 0, 1067, 0, 0, 0, 0, 1109, 0, 0, 0, 0, 0, 0, 1123, 0, 489, 0, 483, 0, 1610, 0].getD i 0
theorem ok_191 : okS 191 cd_191 wp_191 0 25 = true := by decide +kernel
theorem mo_191 : mOK 191 1609 1607 1608 132 = true := by decide +kernel
def wp_192 : Nat → Nat := fun i => [0, 0, 1096, 0, 0, 1113, 0, 483, 284, 551, 0, 0, 0, 483, 289, 1622, 0, 0, 1320, 0, 0, 0, 0, 0, 0, 0, 0, 0, 1042, 0, 0, 0, 0, 0, 488, 1127, 0, 489, 0, 483, 0, 0, 0, 1625, 0, 0, 0, 489, 1637, 0, 0, 489, 1650, 0, 0, 489, 1658, 0].getD i 0
theorem ok_192 : okS 192 cd_192 wp_192 0 64 = true := by decide +kernel
theorem mo_192 : mOK 192 1621 1619 1620 132 = true := by decide +kernel
def wp_193 : Nat → Nat := fun i => [0, 482, 0, 479, 1669, 0, 0, 479, 0, 539, 0, 0, 0, 832, 0, 0, 0, 0, 0, 0, 0, 482, 1676, 0, 0, 482, 1692, 0].getD i 0
theorem ok_193 : okS 193 cd_193 wp_193 0 28 = true := by decide +kernel
theorem mo_193 : mOK 193 1668 1666 1667 132 = true := by decide +kernel
def wp_194 : Nat → Nat := fun i => [0, 483, 607, 0].getD i 0
theorem ok_194 : okS 194 cd_194 wp_194 0 4 = true := by decide +kernel
theorem mo_194 : mOK 194 606 604 605 132 = true := by decide +kernel
def wp_195 : Nat → Nat := fun i => [0, 0, 0, 1308, 0, 0, 0, 0, 1117, 0, 483, 0, 0, 0, 1700, 0].getD i 0
theorem ok_195 : okS 195 cd_195 wp_195 0 16 = true := by decide +kernel
theorem mo_195 : mOK 195 1699 1697 1698 132 = true := by decide +kernel
def wp_196 : Nat → Nat := fun i => [0, 0, 1018, 0, 0, 1018, 0, 0, 0, 832, 0, 0, 0, 0, 0, 483, 0, 0, 0, 483, 284, 0, 0, 1059, 0, 483, 284, 0, 0, 1059, 1712, 0].getD i 0
theorem ok_196 : okS 196 cd_196 wp_196 0 32 = true := by decide +kernel
theorem mo_196 : mOK 196 1710 1708 1709 132 = true := by decide +kernel
def wp_197 : Nat → Nat := fun i => [0, 0, 0, 0, 0, 0, 1720, 0, 0, 0, 0, 0, 0, 0, 483, 327, 1724, 0].getD i 0
theorem ok_197 : okS 197 cd_197 wp_197 0 18 = true := by decide +kernel
theorem mo_197 : mOK 197 1719 1717 1718 132 = true := by decide +kernel
def wp_198 : Nat → Nat := fun i => [0, 0, 0, 0, 0, 0, 1720, 0, 0, 0, 0, 0, 0, 0, 1724, 0, 0, 0, 0, 0, 0, 0, 0, 0, 0, 0, 0, 0, 1724, 0, 0, 0, 0, 0, 1337, 0, 0, 0, 1739, 0, 0, 0, 0, 0].getD i 0
theorem ok_198 : okS 198 cd_198 wp_198 0 44 = true := by decide +kernel
theorem mo_198 : mOK 198 1738 1736 1737 132 = true := by decide +kernel
def wp_199 : Nat → Nat := fun i => [0, 485, 0, 483, 634, 0, 485, 0, 327, 0, 0, 0, 0, 0, 0, 0, 0, 487, 0, 485, 0, 0, 0, 1131, 0, 487, 0, 0, 1144, 0, 485, 0, 487, 1216, 0, 0, 0, 0, 485, 1728, 0, 0, 0, 0, 0, 0].getD i 0
theorem ok_199 : okS 199 cd_199 wp_199 0 46 = true := by decide +kernel
theorem mo_199 : mOK 199 1727 1726 65 132 = true := by decide +kernel
def wp_200 : Nat → Nat := fun i => [0, 0, 0, 0, 0, 1096, 0, 483, 0, 1747, 0].getD i 0
theorem ok_200 : okS 200 cd_200 wp_200 0 11 = true := by decide +kernel
theorem mo_200 : mOK 200 1746 1744 1745 132 = true := by decide +kernel
def wp_201 : Nat → Nat := fun i => [0, 0, 1018, 0, 0, 0, 483, 0, 1758, 0, 0, 483, 0, 1766, 0].getD i 0
theorem ok_201 : okS 201 cd_201 wp_201 0 15 = true := by decide +kernel
theorem mo_201 : mOK 201 1757 1755 1756 132 = true := by decide +kernel
def wp_202 : Nat → Nat := fun i => [0, 483, 327, 0, 0, 483, 0, 327, 0, 0].getD i 0
theorem ok_202 : okS 202 cd_202 wp_202 0 10 = true := by decide +kernel
theorem mo_202 : mOK 202 621 619 620 132 = true := by decide +kernel
def wp_203 : Nat → Nat := fun i => [0, 486, 0, 483, 626, 0].getD i 0
theorem ok_203 : okS 203 cd_203 wp_203 0 6 = true := by decide +kernel
theorem mo_203 : mOK 203 625 623 624 132 = true := by decide +kernel
def wp_204 : Nat → Nat := fun i => [0, 484, 0, 483, 634, 0, 0, 490, 0].getD i 0
theorem ok_204 : okS 204 cd_204 wp_204 0 9 = true := by decide +kernel
theorem mo_204 : mOK 204 633 631 632 132 = true := by decide +kernel
def wp_205 : Nat → Nat := fun i => [0, 490, 0, 0, 0, 0, 483, 0, 484, 634, 0, 486, 639, 0, 0].getD i 0
theorem ok_205 : okS 205 cd_205 wp_205 0 15 = true := by decide +kernel
theorem mo_205 : mOK 205 638 636 637 132 = true := by decide +kernel
def wp_206 : Nat → Nat := fun i => [0, 488, 1127, 0, 487, 0, 483, 0, 0, 0, 1131, 0, 487, 0, 0, 1144, 0].getD i 0
theorem ok_206 : okS 206 cd_206 wp_206 0 17 = true := by decide +kernel
theorem mo_206 : mOK 206 1126 1125 31 132 = true := by decide +kernel
def wp_207 : Nat → Nat := fun i => [0, 488, 1127, 0, 487, 0, 483, 0, 0, 0, 1131, 0, 488, 0, 483, 0, 487, 1444, 0].getD i 0
theorem ok_207 : okS 207 cd_207 wp_207 0 19 = true := by decide +kernel
theorem mo_207 : mOK 207 1443 1442 49 132 = true := by decide +kernel
def wp_208 : Nat → Nat := fun i => [0, 483, 284, 0, 1022, 0, 1026, 0, 0, 0, 0, 0].getD i 0
theorem ok_208 : okS 208 cd_208 wp_208 0 12 = true := by decide +kernel
theorem mo_208 : mOK 208 1021 1020 25 132 = true := by decide +kernel
def wp_209 : Nat → Nat := fun i => [0, 483, 289, 0, 1022, 0, 1026, 0, 0, 0, 0, 0].getD i 0
theorem ok_209 : okS 209 cd_209 wp_209 0 12 = true := by decide +kernel
theorem mo_209 : mOK 209 1070 1069 26 132 = true := by decide +kernel
def wp_210 : Nat → Nat := fun i => [0, 483, 294, 0, 1022, 0, 1026, 0, 0, 0, 0, 0].getD i 0
theorem ok_210 : okS 210 cd_210 wp_210 0 12 = true := by decide +kernel
theorem mo_210 : mOK 210 1099 1098 27 132 = true := by decide +kernel
def wp_211 : Nat → Nat := fun i => [0, 0, 0, 0, 0, 0, 832, 0, 0, 0, 0, 0].getD i 0
theorem ok_211 : okS 211 cd_211 wp_211 0 12 = true := by decide +kernel
theorem mo_211 : mOK 211 1120 1119 30 132 = true := by decide +kernel
def wp_212 : Nat → Nat := fun i => [0, 0, 0, 0, 1117, 0].getD i 0
theorem ok_212 : okS 212 cd_212 wp_212 0 6 = true := by decide +kernel
theorem mo_212 : mOK 212 1116 1115 29 132 = true := by decide +kernel
def wp_213 : Nat → Nat := fun i => [0, 0, 0, 0, 1117, 0, 0, 0, 0, 1117, 0].getD i 0
theorem ok_213 : okS 213 cd_213 wp_213 0 11 = true := by decide +kernel
theorem mo_213 : mOK 213 1311 1310 47 132 = true := by decide +kernel
def wp_214 : Nat → Nat := fun i => [0, 0, 1113, 0, 0, 0, 0, 1117, 0, 0, 0, 0, 1117, 0].getD i 0
theorem ok_214 : okS 214 cd_214 wp_214 0 14 = true := by decide +kernel
theorem mo_214 : mOK 214 1112 1111 28 132 = true := by decide +kernel
def wp_215 : Nat → Nat := fun i => [0, 0, 1096, 0, 0, 1067, 0, 0, 0, 0, 1109, 0, 0, 0, 0, 1117, 0].getD i 0
theorem ok_215 : okS 215 cd_215 wp_215 0 17 = true := by decide +kernel
theorem mo_215 : mOK 215 1723 1722 64 132 = true := by decide +kernel
def wp_216 : Nat → Nat := fun i => (([[0, 1783, 0, 0, 0, 1785, 0, 0, 0, 1786, 0, 0, 0, 1788, 0, 0, 0, 1789, 0, 0, 0, 1791, 0, 0, 1796, 0, 0, 0, 1798, 0, 0, 0], [1800, 0, 0, 0, 1805, 0, 0, 0, 1808, 0, 0, 0, 1809, 0, 0, 0, 1810, 0, 0, 0, 1811, 0, 0, 0, 1812, 0, 0, 0, 1813, 0, 0, 0], [1814, 0, 0, 0, 1815, 0, 1785, 0, 0, 0, 0, 1785, 0, 0, 0, 0, 1785, 0, 0, 0, 0, 1785, 0, 0, 0, 0]] : List (List Nat)).getD (i / 32) []).getD (i % 32) 0
theorem ok_216 : okS 216 cd_216 wp_216 0 96 = true := by decide +kernel
theorem mo_216 : mOK 216 1782 1781 0 144 = true := by decide +kernel
def wp_217 : Nat → Nat := fun i => [0, 1784, 0].getD i 0
theorem ok_217 : okS 217 cd_217 wp_217 0 3 = true := by decide +kernel
theorem mo_217 : mOK 217 1885 1883 1884 144 = true := by decide +kernel
def wp_218 : Nat → Nat := fun i => [0, 0, 0, 0, 0, 0, 0, 0, 0, 0].getD i 0
theorem ok_218 : okS 218 cd_218 wp_218 0 10 = true := by decide +kernel
theorem mo_218 : mOK 218 1896 1895 0 144 = true := by decide +kernel
def wp_219 : Nat → Nat := fun i => [0, 0, 0, 0, 0, 0, 0].getD i 0
theorem ok_219 : okS 219 cd_219 wp_219 0 7 = true := by decide +kernel
theorem mo_219 : mOK 219 2012 2011 0 144 = true := by decide +kernel
def wp_220 : Nat → Nat := fun i => [0, 0, 0, 0, 0, 0, 0].getD i 0
theorem ok_220 : okS 220 cd_220 wp_220 0 7 = true := by decide +kernel
theorem mo_220 : mOK 220 2083 2082 0 144 = true := by decide +kernel
def wp_221 : Nat → Nat := fun i => [0, 0, 0, 0, 0, 0, 0].getD i 0
theorem ok_221 : okS 221 cd_221 wp_221 0 7 = true := by decide +kernel
theorem mo_221 : mOK 221 2060 2059 0 144 = true := by decide +kernel
def wp_222 : Nat → Nat := fun i => [0, 0, 0, 0, 0, 0, 0, 0, 0, 0].getD i 0
theorem ok_222 : okS 222 cd_222 wp_222 0 10 = true := by decide +kernel
theorem mo_222 : mOK 222 2169 2168 0 144 = true := by decide +kernel
def wp_223 : Nat → Nat := fun i => [0, 1785, 0, 0, 0, 0, 0, 0, 0, 0, 0].getD i 0
theorem ok_223 : okS 223 cd_223 wp_223 0 11 = true := by decide +kernel
theorem mo_223 : mOK 223 2049 2048 92 144 = true := by decide +kernel
def wp_224 : Nat → Nat := fun i => [0, 1785, 0, 0, 0, 0, 0, 0, 0, 0, 0].getD i 0
theorem ok_224 : okS 224 cd_224 wp_224 0 11 = true := by decide +kernel
theorem mo_224 : mOK 224 2072 2071 96 144 = true := by decide +kernel
def wp_225 : Nat → Nat := fun i => [0, 1785, 0, 0, 0, 0, 0, 0, 0, 0, 0].getD i 0
theorem ok_225 : okS 225 cd_225 wp_225 0 11 = true := by decide +kernel
theorem mo_225 : mOK 225 2102 2101 101 144 = true := by decide +kernel
def wp_226 : Nat → Nat := fun i => [0, 1785, 0, 0, 0, 0, 0, 0, 0, 0, 0].getD i 0
theorem ok_226 : okS 226 cd_226 wp_226 0 11 = true := by decide +kernel
theorem mo_226 : mOK 226 2166 2165 114 144 = true := by decide +kernel
def wp_227 : Nat → Nat := fun i => [0, 0, 0, 1785, 0, 0, 0, 0, 1894, 0].getD i 0
theorem ok_227 : okS 227 cd_227 wp_227 0 10 = true := by decide +kernel
theorem mo_227 : mOK 227 2045 2044 91 144 = true := by decide +kernel
def wp_228 : Nat → Nat := fun i => [0, 0, 0, 1785, 0, 0, 0, 0, 1894, 0].getD i 0
theorem ok_228 : okS 228 cd_228 wp_228 0 10 = true := by decide +kernel
theorem mo_228 : mOK 228 2068 2067 95 144 = true := by decide +kernel
def wp_229 : Nat → Nat := fun i => [0, 0, 0, 1785, 0, 0, 0, 0, 1894, 0].getD i 0
theorem ok_229 : okS 229 cd_229 wp_229 0 10 = true := by decide +kernel
theorem mo_229 : mOK 229 2098 2097 100 144 = true := by decide +kernel
def wp_230 : Nat → Nat := fun i => (([[0, 0, 1784, 0, 1792, 0, 0, 0, 0, 0, 0, 0, 0, 0, 0, 0, 0, 0, 0, 0, 0, 0, 0, 0, 0, 0, 0, 0, 0, 0, 0, 0], [0, 0, 0, 0, 0, 0, 0, 1791, 0, 1792, 0, 0, 0, 0, 0, 0, 0, 0, 0, 0, 0, 0, 0, 0, 1792, 0, 0, 1792, 0, 0, 0, 1792], [0]] : List (List Nat)).getD (i / 32) []).getD (i % 32) 0
theorem ok_230 : okS 230 cd_230 wp_230 0 96 = true := by decide +kernel
theorem mo_230 : mOK 230 1889 1887 1888 144 = true := by decide +kernel
def wp_231 : Nat → Nat := fun i => [0, 0, 1784, 0, 0, 0, 1792, 1894, 0, 0, 0, 0, 0, 1792, 0, 0].getD i 0
theorem ok_231 : okS 231 cd_231 wp_231 0 16 = true := by decide +kernel
theorem mo_231 : mOK 231 1893 1891 1892 144 = true := by decide +kernel
def wp_232 : Nat → Nat := fun i => [0, 1793, 0, 0, 0, 1791, 0, 0, 0, 0, 1785, 0, 1793, 0, 0, 0, 0].getD i 0
theorem ok_232 : okS 232 cd_232 wp_232 0 17 = true := by decide +kernel
theorem mo_232 : mOK 232 1920 1919 71 144 = true := by decide +kernel
def wp_233 : Nat → Nat := fun i => [0, 1795, 0, 1794, 0, 0, 0, 1795, 1917, 0, 0, 0, 0, 1795, 0, 0, 1795, 0, 0].getD i 0
theorem ok_233 : okS 233 cd_233 wp_233 0 19 = true := by decide +kernel
theorem mo_233 : mOK 233 1916 1915 70 144 = true := by decide +kernel
def wp_234 : Nat → Nat := fun i => [0, 1913, 0, 1795, 0, 1794, 0, 0, 0, 1795, 1917, 0, 0, 0, 0, 0, 0].getD i 0
theorem ok_234 : okS 234 cd_234 wp_234 0 17 = true := by decide +kernel
theorem mo_234 : mOK 234 1966 1965 80 144 = true := by decide +kernel
def wp_235 : Nat → Nat := fun i => [0, 1913, 0, 1795, 0, 0, 0, 1794, 0, 0, 0, 1917, 0, 0, 1894, 0, 0, 0, 0, 0, 1795, 0, 0, 1934, 0, 0, 0, 0, 0, 0, 0, 1934, 0, 0, 0, 1795, 0, 0, 1917, 0, 0, 1935, 0, 0, 0, 0, 0, 0, 0, 1795, 0, 0].getD i 0
theorem ok_235 : okS 235 cd_235 wp_235 0 64 = true := by decide +kernel
theorem mo_235 : mOK 235 1933 1932 74 144 = true := by decide +kernel
def wp_236 : Nat → Nat := fun i => [0, 1796, 0, 0, 0, 0, 1796, 0].getD i 0
theorem ok_236 : okS 236 cd_236 wp_236 0 8 = true := by decide +kernel
theorem mo_236 : mOK 236 1924 1923 72 144 = true := by decide +kernel
def wp_237 : Nat → Nat := fun i => [0, 1796, 0, 0, 0, 0, 1930, 0, 0, 0, 1795, 1921, 0].getD i 0
theorem ok_237 : okS 237 cd_237 wp_237 0 13 = true := by decide +kernel
theorem mo_237 : mOK 237 2002 2001 86 144 = true := by decide +kernel
def wp_238 : Nat → Nat := fun i => [0, 1913, 0, 1795, 0].getD i 0
theorem ok_238 : okS 238 cd_238 wp_238 0 5 = true := by decide +kernel
theorem mo_238 : mOK 238 1948 1947 76 144 = true := by decide +kernel
def wp_239 : Nat → Nat := fun i => (([[0, 1796, 0, 0, 0, 0, 0, 1945, 0, 0, 0, 0, 1795, 0, 1794, 0, 0, 0, 1795, 1917, 0, 0, 1894, 0, 0, 1795, 0, 0, 0, 0, 0, 0], [0, 0, 0, 1795, 1917, 0, 0, 0, 0, 0, 0, 1795, 0, 0, 1795, 0, 0, 1795, 0, 0, 0, 1795, 0, 0, 0, 0, 0, 0, 0, 0, 0, 0], [0, 0, 1921, 0, 0]] : List (List Nat)).getD (i / 32) []).getD (i % 32) 0
theorem ok_239 : okS 239 cd_239 wp_239 0 96 = true := by decide +kernel
theorem mo_239 : mOK 239 1944 1943 75 144 = true := by decide +kernel
def wp_240 : Nat → Nat := fun i => (([[0, 1785, 0, 0, 0, 0, 0, 0, 1921, 0, 0, 0, 1941, 0, 0, 0, 0, 1941, 0, 0, 1998, 1999, 0, 0, 0, 1941, 0, 0, 2003, 1999, 0, 0], [0, 1941, 0, 0, 1796, 0, 0, 0, 2004, 1930, 0, 0, 0, 0, 0, 0, 1796, 0, 0, 0, 0, 0, 0, 1785, 0, 0, 0, 0, 0, 0, 1785, 0], [0, 0, 0, 0, 0, 1785, 0, 0, 0, 0, 0, 0, 1785, 0, 0, 0, 0, 0, 0, 1785, 0, 0, 0, 0, 0, 0, 1785, 0, 0, 0, 0, 0], [0, 0, 0, 0, 0, 1785, 0, 0, 0, 0, 0, 0, 0]] : List (List Nat)).getD (i / 32) []).getD (i % 32) 0
theorem ok_240 : okS 240 cd_240 wp_240 0 128 = true := by decide +kernel
theorem mo_240 : mOK 240 1997 1996 85 144 = true := by decide +kernel
def wp_241 : Nat → Nat := fun i => (([[0, 1785, 0, 0, 0, 0, 0, 0, 1921, 0, 0, 0, 1941, 0, 0, 2009, 1999, 0, 0, 0, 0, 0, 0, 2010, 1941, 0, 0, 1796, 0, 0, 0, 1971], [1930, 0, 0, 0, 0, 0, 0, 1796, 0, 0, 0, 0, 0, 0, 1785, 0, 0, 0, 0, 0, 0, 1785, 0, 0, 0, 0, 0, 0, 1785, 0, 0, 0], [0, 0, 0, 1785, 0, 0, 0, 0, 0, 0, 0, 0, 0, 0, 1785, 0, 0, 0, 0, 0, 0, 0]] : List (List Nat)).getD (i / 32) []).getD (i % 32) 0
theorem ok_241 : okS 241 cd_241 wp_241 0 96 = true := by decide +kernel
theorem mo_241 : mOK 241 2008 2007 87 144 = true := by decide +kernel
def wp_242 : Nat → Nat := fun i => [0, 1785, 0, 0, 0, 0, 0, 0, 1921, 0, 0, 0, 1941, 0, 0, 1796, 0, 0, 0, 0, 0, 0, 1785, 0, 0, 0, 0, 0, 0, 1785, 0, 0, 0, 0, 0, 0, 1785, 0, 0, 0, 0, 0, 0, 1785, 0, 0, 0, 0, 0, 0, 1785, 0, 0, 0, 0, 0, 0, 0].getD i 0
theorem ok_242 : okS 242 cd_242 wp_242 0 64 = true := by decide +kernel
theorem mo_242 : mOK 242 2017 2016 88 144 = true := by decide +kernel
def wp_243 : Nat → Nat := fun i => [0, 0, 0, 1941, 0, 0, 1796, 0, 0, 0, 1785, 0, 0, 0, 0].getD i 0
theorem ok_243 : okS 243 cd_243 wp_243 0 15 = true := by decide +kernel
theorem mo_243 : mOK 243 2022 2021 89 144 = true := by decide +kernel
def wp_244 : Nat → Nat := fun i => (([[0, 1945, 0, 0, 1993, 1930, 0, 0, 0, 1994, 0, 0, 1981, 1930, 0, 0, 0, 2005, 0, 0, 2013, 1930, 0, 0, 0, 2014, 0, 0, 2018, 1930, 0, 0], [0, 0, 2019, 0, 0, 2023, 1930, 0, 0, 0, 0, 2019, 0, 0, 2024, 1930, 0, 0, 0, 0, 2019, 0, 0, 2025, 1930, 0, 0, 0, 0, 2019, 0, 0], [0, 1795, 1921, 0]] : List (List Nat)).getD (i / 32) []).getD (i % 32) 0
theorem ok_244 : okS 244 cd_244 wp_244 0 96 = true := by decide +kernel
theorem mo_244 : mOK 244 1992 1991 84 144 = true := by decide +kernel
def wp_245 : Nat → Nat := fun i => [0, 0, 1796, 0, 0, 1793, 0, 0, 1792, 1794, 0, 0, 1792, 0, 0, 1795, 0, 0, 1797, 0].getD i 0
theorem ok_245 : okS 245 cd_245 wp_245 0 20 = true := by decide +kernel
theorem mo_245 : mOK 245 1908 1907 68 144 = true := by decide +kernel
def wp_246 : Nat → Nat := fun i => (([[0, 1913, 0, 1795, 0, 1794, 0, 0, 0, 0, 0, 0, 0, 0, 0, 0, 1796, 0, 0, 0, 1913, 0, 0, 0, 0, 0, 0, 0, 0, 0, 1795, 1921], [0, 0, 0, 0, 1925, 0, 0, 1989, 0, 0, 1913, 0, 1796, 0, 0, 0, 1795, 0, 1794, 0, 0, 0, 0, 0, 0, 1963, 0, 0, 0, 1795, 0, 0], [1795, 0, 0, 0, 1795, 1921, 0, 0, 0]] : List (List Nat)).getD (i / 32) []).getD (i % 32) 0
theorem ok_246 : okS 246 cd_246 wp_246 0 96 = true := by decide +kernel
theorem mo_246 : mOK 246 1912 1911 69 144 = true := by decide +kernel
def wp_247 : Nat → Nat := fun i => [0, 0, 0, 0, 0, 0, 1788, 0, 0, 1785, 0, 0, 0, 0, 0, 0].getD i 0
theorem ok_247 : okS 247 cd_247 wp_247 0 16 = true := by decide +kernel
theorem mo_247 : mOK 247 1904 1903 67 144 = true := by decide +kernel
def wp_248 : Nat → Nat := fun i => [0, 0, 0, 0, 0, 0, 1785, 0, 0, 1788, 0, 0, 0, 0, 0, 0].getD i 0
theorem ok_248 : okS 248 cd_248 wp_248 0 16 = true := by decide +kernel
theorem mo_248 : mOK 248 2029 2028 90 144 = true := by decide +kernel
def wp_249 : Nat → Nat := fun i => [0, 1901, 0, 1905, 0, 0, 1909, 0, 0, 0, 1796, 0, 0, 0, 0, 0, 1785, 0, 0, 0, 0, 0, 0, 0, 1784, 0, 1784, 0, 0, 2026, 0, 0, 0, 1785, 0, 0, 0, 0, 0, 0, 0, 0, 1790, 0, 1785, 0, 0, 0].getD i 0
theorem ok_249 : okS 249 cd_249 wp_249 0 48 = true := by decide +kernel
theorem mo_249 : mOK 249 1900 1898 1899 144 = true := by decide +kernel
def wp_250 : Nat → Nat := fun i => (([[0, 1796, 0, 0, 0, 0, 0, 1913, 0, 1795, 0, 1794, 0, 0, 0, 1795, 1917, 0, 0, 1894, 0, 0, 0, 0, 1941, 0, 0, 1980, 1930, 0, 0, 0], [0, 1981, 1930, 0, 0, 0, 0, 1982, 1930, 0, 0, 0, 0, 1983, 1930, 0, 0, 0, 0, 1984, 1930, 0, 0, 0, 0, 1985, 1930, 0, 0, 0, 0, 1986], [1930, 0, 0, 0, 0, 0, 0, 0, 0, 0, 0, 1795, 1921, 0, 0, 0, 1798, 0, 0, 0]] : List (List Nat)).getD (i / 32) []).getD (i % 32) 0
theorem ok_250 : okS 250 cd_250 wp_250 0 96 = true := by decide +kernel
theorem mo_250 : mOK 250 1979 1978 83 144 = true := by decide +kernel
def wp_251 : Nat → Nat := fun i => [0, 1976, 0, 0, 1796, 0, 0, 0, 0, 1963, 0, 0, 0, 1795, 0, 0, 1795, 0, 0, 1976, 0, 0, 0, 0, 0].getD i 0
theorem ok_251 : okS 251 cd_251 wp_251 0 25 = true := by decide +kernel
theorem mo_251 : mOK 251 1975 1974 82 144 = true := by decide +kernel
def wp_252 : Nat → Nat := fun i => [0, 1971, 1930, 0, 0, 1799, 0, 0, 1972, 0, 0, 1796, 0, 0, 0, 0, 0, 0, 1963, 0, 0, 0, 0, 0, 1963, 0, 0, 0, 1795, 1921, 0, 0, 0, 0, 1795, 0, 0, 1795, 0, 1972, 0, 0, 0, 0, 0, 0, 0, 0, 0, 0, 0, 0, 0, 0, 0, 0, 0].getD i 0
theorem ok_252 : okS 252 cd_252 wp_252 0 64 = true := by decide +kernel
theorem mo_252 : mOK 252 1970 1969 81 144 = true := by decide +kernel
def wp_253 : Nat → Nat := fun i => (([[0, 1796, 0, 0, 0, 0, 0, 1945, 0, 0, 1962, 1930, 0, 0, 0, 0, 0, 1963, 0, 0, 1967, 0, 0, 1797, 0, 0, 0, 0, 1921, 0, 0, 0], [0, 1797, 0, 0, 1797, 0, 0, 0, 0, 0, 1958, 0, 0, 0, 0, 0, 0, 0, 0, 1795, 0, 0, 1795, 0, 1950, 0, 0, 1796, 0, 0, 0, 0], [1963, 0, 0, 0, 1795, 1921, 0, 0, 1795, 0, 0, 1795, 0, 0, 1797, 0, 0, 1797, 0, 0]] : List (List Nat)).getD (i / 32) []).getD (i % 32) 0
theorem ok_253 : okS 253 cd_253 wp_253 0 96 = true := by decide +kernel
theorem mo_253 : mOK 253 1961 1960 79 144 = true := by decide +kernel
def wp_254 : Nat → Nat := fun i => [0, 1958, 0, 0, 1796, 0, 0, 0, 1987, 1930, 0, 0, 1958, 0, 0, 0, 0, 0, 0, 0, 0, 0, 0, 0, 0].getD i 0
theorem ok_254 : okS 254 cd_254 wp_254 0 25 = true := by decide +kernel
theorem mo_254 : mOK 254 1957 1956 78 144 = true := by decide +kernel
def wp_255 : Nat → Nat := fun i => [0, 1954, 0, 0, 1796, 0, 0, 0, 1988, 1930, 0, 0, 1954, 0, 0, 0, 0, 0, 0, 0, 0, 0, 0, 0, 0].getD i 0
theorem ok_255 : okS 255 cd_255 wp_255 0 25 = true := by decide +kernel
theorem mo_255 : mOK 255 1953 1952 77 144 = true := by decide +kernel
def wp_256 : Nat → Nat := fun i => (([[0, 1929, 1930, 0, 0, 0, 0, 1936, 1930, 0, 0, 0, 0, 1937, 1930, 0, 0, 0, 0, 1938, 1930, 0, 0, 0, 0, 1939, 1930, 0, 0, 0, 0, 1940], [1930, 0, 0, 0, 0, 0, 0, 0, 0, 0, 0, 1795, 1921, 0, 0, 0, 0, 0, 0, 0, 0, 0, 1941, 0, 0, 1796, 0, 0, 0, 0, 1949, 1930], [0, 0, 1950, 0, 0, 0, 0, 0, 0, 1796, 0, 0, 0, 0, 0, 1800, 0, 0, 0, 0, 0, 0, 0]] : List (List Nat)).getD (i / 32) []).getD (i % 32) 0
theorem ok_256 : okS 256 cd_256 wp_256 0 96 = true := by decide +kernel
theorem mo_256 : mOK 256 1928 1927 73 144 = true := by decide +kernel
def wp_257 : Nat → Nat := fun i => [0, 1905, 0, 0, 1909, 0, 0, 0, 1796, 0, 0, 0, 0, 0, 1784, 0, 1784, 0, 0, 0, 0, 1785, 0, 0, 0, 0, 1785, 0, 0, 1794, 0, 0, 0, 0, 0, 1794, 0, 0, 1785, 0, 0, 0, 0, 1791, 0, 0, 0, 0, 0, 0, 0, 1790, 0, 0].getD i 0
theorem ok_257 : okS 257 cd_257 wp_257 0 64 = true := by decide +kernel
theorem mo_257 : mOK 257 2033 2031 2032 144 = true := by decide +kernel
def wp_258 : Nat → Nat := fun i => [0, 0, 1784, 0, 1796, 0].getD i 0
theorem ok_258 : okS 258 cd_258 wp_258 0 6 = true := by decide +kernel
theorem mo_258 : mOK 258 2037 2035 2036 144 = true := by decide +kernel
def wp_259 : Nat → Nat := fun i => (([[0, 0, 0, 0, 2099, 0, 0, 2010, 0, 0, 0, 0, 0, 0, 0, 1800, 0, 0, 0, 0, 0, 0, 1785, 0, 0, 0, 0, 0, 1800, 0, 0, 0], [0, 1785, 0, 0, 0, 0, 1798, 0, 0, 0, 0, 1798, 0, 0, 0, 0, 1798, 0, 0, 0, 0, 1798, 0, 0, 0, 0, 1798, 0, 0, 0, 0, 1798], [0, 0, 0, 0, 1798, 0, 0, 0, 0, 2099, 0, 0, 0, 0, 0, 0, 0, 2069, 0, 0, 0, 0, 0, 1799, 0, 1796, 0, 0, 0, 1796, 0, 0], [1793, 0, 0, 1785, 0, 0, 1794, 0, 0, 1795, 0, 0, 1797, 0, 0, 1909, 0, 0, 0, 1796, 0, 0, 0, 1800, 0, 0, 0, 0, 1800, 0, 0, 0], [1801, 0, 0, 0, 0, 0, 1800, 0, 0, 0, 0, 1800, 0, 0, 0, 1802, 0, 0, 0, 0, 1800, 0, 0, 2010, 0, 0, 0, 0, 2081, 1803, 0, 0], [1800, 0, 0, 1804, 0]] : List (List Nat)).getD (i / 32) []).getD (i % 32) 0
theorem ok_259 : okS 259 cd_259 wp_259 0 192 = true := by decide +kernel
theorem mo_259 : mOK 259 2117 2116 103 144 = true := by decide +kernel
def wp_260 : Nat → Nat := fun i => [0, 0, 0, 0, 0, 2058, 0, 0, 0, 0, 0, 2058, 2081, 0, 0, 0, 0, 0, 0, 0, 2058, 0, 0, 0, 0, 0, 2058, 2081, 0, 0, 0, 0, 0, 0, 0, 0, 0, 0, 0, 0, 0, 0, 0, 0, 0, 0, 0, 0, 0, 0, 0, 0, 0, 0, 0, 0, 0, 0, 0, 0].getD i 0
theorem ok_260 : okS 260 cd_260 wp_260 0 64 = true := by decide +kernel
theorem mo_260 : mOK 260 2090 2089 0 144 = true := by decide +kernel
def wp_261 : Nat → Nat := fun i => [0, 0, 0, 0, 2069, 0, 0, 0, 2069, 0, 0, 0, 2081, 0].getD i 0
theorem ok_261 : okS 261 cd_261 wp_261 0 14 = true := by decide +kernel
theorem mo_261 : mOK 261 2080 2079 98 144 = true := by decide +kernel
def wp_262 : Nat → Nat := fun i => [0, 0, 0, 0, 2069, 0, 0, 2081, 0].getD i 0
theorem ok_262 : okS 262 cd_262 wp_262 0 9 = true := by decide +kernel
theorem mo_262 : mOK 262 2087 2086 99 144 = true := by decide +kernel
def wp_263 : Nat → Nat := fun i => [0, 0, 0, 2077, 0, 0, 0, 0, 2084, 0, 0, 0, 0, 0, 1785, 0, 0, 0, 0, 0, 0, 0, 0, 2046, 0, 0, 0, 0, 2046, 0, 0, 0, 0, 0, 2046, 0, 2088, 0, 0, 0, 0, 0, 0, 0].getD i 0
theorem ok_263 : okS 263 cd_263 wp_263 0 44 = true := by decide +kernel
theorem mo_263 : mOK 263 2142 2141 108 144 = true := by decide +kernel
def wp_264 : Nat → Nat := fun i => [0, 0, 0, 2046, 0, 0, 0, 0, 0, 0, 2046, 0, 2058, 0, 0, 0, 0, 2077, 0, 0, 0, 0, 0, 0, 0, 0, 2046, 0, 2058, 0, 0, 0, 0, 2084, 0, 0, 0, 0, 0, 0, 0].getD i 0
theorem ok_264 : okS 264 cd_264 wp_264 0 41 = true := by decide +kernel
theorem mo_264 : mOK 264 2150 2149 110 144 = true := by decide +kernel
def wp_265 : Nat → Nat := fun i => [0, 0, 0, 0, 1785, 0, 0, 0, 0, 0, 0, 0, 0, 0, 2147, 0, 0, 0, 0, 0, 0, 2046, 0, 0, 0, 0, 0, 0, 0].getD i 0
theorem ok_265 : okS 265 cd_265 wp_265 0 29 = true := by decide +kernel
theorem mo_265 : mOK 265 2146 2145 109 144 = true := by decide +kernel
def wp_266 : Nat → Nat := fun i => [0, 0, 1806, 0, 0, 1807, 0, 0, 0, 0, 0, 2139, 0, 0, 0, 0, 0, 0, 0, 0, 0, 0, 0, 0, 2143, 0, 0, 0, 0, 1785, 0, 0, 0, 1807, 0, 0, 0, 0, 1807, 0, 2139, 0, 0, 0, 0, 0, 0, 0, 0, 0, 1806, 0, 1807, 0, 0, 2143, 0, 0, 0, 0, 0].getD i 0
theorem ok_266 : okS 266 cd_266 wp_266 0 64 = true := by decide +kernel
theorem mo_266 : mOK 266 2138 2137 107 144 = true := by decide +kernel
def wp_267 : Nat → Nat := fun i => (([[0, 0, 0, 0, 0, 0, 1805, 0, 0, 0, 0, 0, 0, 1801, 0, 1803, 0, 0, 0, 0, 1801, 0, 1803, 0, 0, 0, 1802, 0, 1803, 0, 0, 0], [0, 1802, 0, 1803, 0, 0, 0, 0, 0, 0, 0, 1804, 2135, 0, 0, 0, 0, 1805, 0, 0, 0, 0, 0, 0, 0, 0, 0, 0, 0, 0, 1803, 0], [0, 0, 0, 0, 1803, 0, 0, 0, 0, 0]] : List (List Nat)).getD (i / 32) []).getD (i % 32) 0
theorem ok_267 : okS 267 cd_267 wp_267 0 96 = true := by decide +kernel
theorem mo_267 : mOK 267 2221 2220 117 144 = true := by decide +kernel
def wp_268 : Nat → Nat := fun i => [0, 0, 0, 0, 0, 0, 2046, 0, 0, 0, 2046, 0, 0, 0, 0, 0, 2046, 0, 0, 0, 2046, 0, 2058, 0, 0, 0, 0, 2046, 0, 0, 0, 2046, 0, 0, 0, 0, 0, 0].getD i 0
theorem ok_268 : okS 268 cd_268 wp_268 0 38 = true := by decide +kernel
theorem mo_268 : mOK 268 2057 2056 94 144 = true := by decide +kernel
def wp_269 : Nat → Nat := fun i => [0, 0, 0, 0, 0, 0, 1785, 0, 0, 0, 0, 0, 0, 0, 2054, 0, 0, 0, 0, 0, 0, 0, 0, 0, 0, 0, 0].getD i 0
theorem ok_269 : okS 269 cd_269 wp_269 0 27 = true := by decide +kernel
theorem mo_269 : mOK 269 2053 2052 93 144 = true := by decide +kernel
def wp_270 : Nat → Nat := fun i => [0, 0, 0, 2042, 0, 0, 0, 0, 0, 0, 1894, 0, 0, 0, 0, 1784, 0, 1784, 0, 0, 0, 0, 0, 0, 0, 0, 0, 2046, 0, 0, 0, 2050, 0].getD i 0
theorem ok_270 : okS 270 cd_270 wp_270 0 33 = true := by decide +kernel
theorem mo_270 : mOK 270 2041 2039 2040 144 = true := by decide +kernel
def wp_271 : Nat → Nat := fun i => [0, 0, 0, 0, 0, 0, 0, 0, 0, 0, 2077, 0, 0, 0, 2084, 0, 0, 0, 2088, 0, 0, 0, 0, 0, 0, 0, 0, 0].getD i 0
theorem ok_271 : okS 271 cd_271 wp_271 0 28 = true := by decide +kernel
theorem mo_271 : mOK 271 2076 2075 97 144 = true := by decide +kernel
def wp_272 : Nat → Nat := fun i => [0, 0, 0, 2065, 0, 0, 0, 0, 0, 0, 1894, 0, 0, 0, 0, 1784, 0, 1784, 0, 0, 0, 0, 0, 0, 0, 0, 0, 2069, 0, 0, 0, 2073, 0].getD i 0
theorem ok_272 : okS 272 cd_272 wp_272 0 33 = true := by decide +kernel
theorem mo_272 : mOK 272 2064 2062 2063 144 = true := by decide +kernel
def wp_273 : Nat → Nat := fun i => [0, 0, 0, 2095, 0, 0, 0, 0, 0, 0, 1894, 0, 0, 0, 0, 1784, 0, 1784, 0, 0, 0, 0, 0, 0, 2099, 0].getD i 0
theorem ok_273 : okS 273 cd_273 wp_273 0 26 = true := by decide +kernel
theorem mo_273 : mOK 273 2094 2092 2093 144 = true := by decide +kernel
def wp_274 : Nat → Nat := fun i => [0, 0, 0, 1894, 0, 0, 0, 0, 1894, 0, 0, 0, 0, 1894, 0, 0, 0, 0, 0].getD i 0
theorem ok_274 : okS 274 cd_274 wp_274 0 19 = true := by decide +kernel
theorem mo_274 : mOK 274 2113 2112 0 144 = true := by decide +kernel
def wp_275 : Nat → Nat := fun i => [0, 0, 2095, 0, 0, 0, 2065, 0, 0, 0, 0, 0, 0, 2111, 0, 0, 0, 0, 0].getD i 0
theorem ok_275 : okS 275 cd_275 wp_275 0 19 = true := by decide +kernel
theorem mo_275 : mOK 275 2110 2109 102 144 = true := by decide +kernel
def wp_276 : Nat → Nat := fun i => [0, 0, 0, 0, 0, 0, 0, 2107, 0, 0, 0, 0, 0, 0, 0, 0, 0, 0, 2107, 0, 0, 0, 0, 0, 1894, 0, 0, 0, 0, 1784, 0, 1784, 0, 0, 0, 0, 0, 0, 0, 0, 0, 0, 2114, 0, 0, 0, 1801, 0, 0, 0, 0, 0, 1802, 0, 0, 0, 0, 0, 1803, 0, 0, 1804, 0].getD i 0
theorem ok_276 : okS 276 cd_276 wp_276 0 64 = true := by decide +kernel
theorem mo_276 : mOK 276 2106 2104 2105 144 = true := by decide +kernel
def wp_277 : Nat → Nat := fun i => [0, 1790, 0, 0, 0, 0, 0, 0, 0, 0, 1789, 0, 0, 1789, 0, 0, 0, 0, 0, 0, 0, 0, 0, 1790, 0, 0, 1790, 0, 0, 0, 0, 0, 0, 1789, 0, 0, 1790, 0, 0, 0, 0, 1785, 0, 0, 0, 0, 0, 0, 0, 1790, 0, 0, 1790, 0].getD i 0
theorem ok_277 : okS 277 cd_277 wp_277 0 64 = true := by decide +kernel
theorem mo_277 : mOK 277 2125 2124 104 144 = true := by decide +kernel
def wp_278 : Nat → Nat := fun i => [0, 1785, 0, 2134, 0, 1785, 0, 0, 0, 0, 0, 0, 0, 1785, 0, 0, 0, 0, 0, 0, 0, 0, 0].getD i 0
theorem ok_278 : okS 278 cd_278 wp_278 0 23 = true := by decide +kernel
theorem mo_278 : mOK 278 2133 2132 106 144 = true := by decide +kernel
def wp_279 : Nat → Nat := fun i => [0, 1785, 0, 0, 0, 0, 0, 0, 0, 0, 0, 0, 0, 0, 0, 1785, 0, 0, 0, 0, 0, 1785, 0, 0, 0, 0, 1785, 0, 0, 0, 0, 0, 0, 0, 0, 0, 0].getD i 0
theorem ok_279 : okS 279 cd_279 wp_279 0 37 = true := by decide +kernel
theorem mo_279 : mOK 279 2154 2153 111 144 = true := by decide +kernel
def wp_280 : Nat → Nat := fun i => [0, 0, 0, 0, 0, 0, 0, 1785, 0, 0, 0, 0, 0, 0, 1785, 0, 0, 0, 0, 0, 0, 1785, 0, 0, 0, 0, 0, 0, 1785, 0, 0, 0, 0, 0, 0, 0, 0, 0, 0].getD i 0
theorem ok_280 : okS 280 cd_280 wp_280 0 39 = true := by decide +kernel
theorem mo_280 : mOK 280 2158 2157 112 144 = true := by decide +kernel
def wp_281 : Nat → Nat := fun i => (([[0, 0, 0, 0, 0, 0, 0, 0, 2163, 0, 0, 0, 0, 2163, 0, 0, 2058, 0, 1785, 0, 0, 0, 0, 0, 0, 2163, 0, 0, 2058, 0, 1785, 0], [0, 0, 0, 0, 0, 0, 0, 0, 0, 0, 0, 0, 2163, 0, 0, 0, 0, 2163, 0, 0, 0, 2163, 0, 0, 2167, 0, 0, 0, 0, 0, 2163, 0], [0, 0, 2163, 0, 0, 2167, 0, 0, 0, 0, 0, 0, 0, 2139, 0, 0, 0, 0, 0, 0, 0, 0, 0, 0, 0, 0, 0, 0, 0, 2143, 2155, 0], [0, 0, 0, 2151, 0, 1785, 0, 0, 0, 0, 0, 0, 1785, 0, 0, 0, 0, 0, 0, 2046, 0, 0, 0, 0]] : List (List Nat)).getD (i / 32) []).getD (i % 32) 0
theorem ok_281 : okS 281 cd_281 wp_281 0 128 = true := by decide +kernel
theorem mo_281 : mOK 281 2162 2161 113 144 = true := by decide +kernel
def wp_282 : Nat → Nat := fun i => (([[0, 0, 0, 0, 0, 0, 0, 2114, 0, 1804, 0, 0, 0, 0, 2099, 0, 0, 0, 0, 1785, 0, 0, 0, 0, 1785, 0, 0, 0, 0, 0, 1801, 0], [1803, 0, 0, 0, 0, 1803, 0, 0, 0, 2130, 0, 0, 0, 1802, 0, 1803, 0, 0, 0, 0, 1803, 0, 0, 0, 2130, 0, 0, 0, 0, 0, 0, 0], [2135, 0, 0, 0, 0, 0, 0, 1785, 0, 0, 0, 0, 0, 0, 2046, 0, 0, 0, 1785, 0, 0, 0, 0, 0, 0, 0, 0, 0, 0, 0, 0, 0], [0, 1785, 0, 0, 0, 0, 0, 0, 2151, 0, 1785, 0, 0, 0, 0, 0, 0, 0, 1806, 0, 1807, 0, 0, 0, 0, 0, 0, 2155, 0, 1785, 0, 0], [0, 0, 0, 0, 0, 1785, 0, 0, 0, 0, 0, 0, 1806, 0, 1807, 0, 2159, 0, 0, 1785, 0, 0, 0, 0, 0, 0, 0, 1785, 0, 0, 0, 0], [0, 0, 0, 0, 0, 0, 0, 0, 0, 1785, 0, 0, 0, 0, 0, 0, 0, 0, 0, 0, 0, 2099, 0, 0, 2010, 0, 0, 0, 0, 0, 0, 0], [1785, 0, 0, 0, 0, 1785, 0, 0, 0, 0, 0, 0, 0, 0, 0, 0, 1785, 0, 0, 0, 0, 1785, 0, 0, 0, 0, 1785, 0, 0, 0, 0, 1785], [0, 0, 0, 0, 1785, 0, 0, 0, 0, 1785, 0, 0, 0, 0, 1785, 0, 0, 0, 1785, 0, 0, 0, 0, 2010, 0, 0, 0]] : List (List Nat)).getD (i / 32) []).getD (i % 32) 0
theorem ok_282 : okS 282 cd_282 wp_282 0 256 = true := by decide +kernel
theorem mo_282 : mOK 282 2129 2128 105 144 = true := by decide +kernel
def wp_283 : Nat → Nat := fun i => [0, 0, 0, 0, 0, 0, 0, 2107, 1784, 0, 1784, 0, 0, 0, 0, 2122, 0, 0, 0, 0, 0, 0, 2126, 0].getD i 0
theorem ok_283 : okS 283 cd_283 wp_283 0 24 = true := by decide +kernel
theorem mo_283 : mOK 283 2121 2119 2120 144 = true := by decide +kernel
def wp_284 : Nat → Nat := fun i => [0, 0, 1784, 0, 2122, 0, 1785, 0, 0, 0, 0, 1785, 0, 0, 0, 0, 0].getD i 0
theorem ok_284 : okS 284 cd_284 wp_284 0 17 = true := by decide +kernel
theorem mo_284 : mOK 284 2173 2171 2172 144 = true := by decide +kernel
def wp_285 : Nat → Nat := fun i => [0, 0, 0, 2065, 0, 0, 0, 0, 1784, 0, 1784, 0, 0, 0, 0, 2122, 0, 0, 0, 2069, 0, 0, 0, 0, 0, 0, 0, 1785, 0, 0, 0, 0, 0, 0, 0, 0, 0, 0, 0, 0, 0, 0, 0, 0, 0, 0, 0, 0].getD i 0
theorem ok_285 : okS 285 cd_285 wp_285 0 48 = true := by decide +kernel
theorem mo_285 : mOK 285 2177 2175 2176 144 = true := by decide +kernel
def wp_286 : Nat → Nat := fun i => [0, 0, 0, 2095, 0, 0, 0, 0, 0, 0, 1894, 0, 0, 0, 0, 1784, 0, 1784, 0, 0, 0, 0, 2122, 0, 0, 0, 2099, 0, 0, 1785, 0, 0, 0, 0, 0, 0, 0, 0, 0, 0, 0].getD i 0
theorem ok_286 : okS 286 cd_286 wp_286 0 41 = true := by decide +kernel
theorem mo_286 : mOK 286 2181 2179 2180 144 = true := by decide +kernel
def wp_287 : Nat → Nat := fun i => [0, 0, 0, 0, 2046, 0, 0, 0, 0, 0, 0, 0, 2046, 0, 2058, 0, 0, 0, 0, 0, 0, 2046, 0, 2058, 0, 2081, 0, 0, 0].getD i 0
theorem ok_287 : okS 287 cd_287 wp_287 0 29 = true := by decide +kernel
theorem mo_287 : mOK 287 2193 2192 116 144 = true := by decide +kernel
def wp_288 : Nat → Nat := fun i => [0, 0, 0, 0, 1785, 0, 0, 0, 0, 0, 0, 0, 0, 0, 0, 0, 0, 2046, 0, 2190, 0, 0, 0, 0, 0, 0, 0].getD i 0
theorem ok_288 : okS 288 cd_288 wp_288 0 27 = true := by decide +kernel
theorem mo_288 : mOK 288 2189 2188 115 144 = true := by decide +kernel
def wp_289 : Nat → Nat := fun i => (([[0, 0, 0, 2042, 0, 0, 0, 0, 0, 0, 1894, 0, 0, 0, 0, 1894, 0, 0, 0, 0, 0, 0, 0, 2186, 0, 0, 0, 0, 1784, 0, 1784, 0], [0, 0, 0, 2122, 0, 0, 0, 0, 2046, 0, 2058, 0, 0, 0, 0, 2046, 0, 2058, 2081, 0, 0, 1785, 0, 0, 0, 0, 0, 0, 0, 0, 0, 0], [1785, 0, 0, 0, 0, 0, 0, 0, 0, 0, 0, 0]] : List (List Nat)).getD (i / 32) []).getD (i % 32) 0
theorem ok_289 : okS 289 cd_289 wp_289 0 96 = true := by decide +kernel
theorem mo_289 : mOK 289 2185 2183 2184 144 = true := by decide +kernel
