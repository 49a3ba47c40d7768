def wp_0 : Nat → Nat := fun i => [0, 389, 0, 0, 0, 390, 0, 0, 0, 391, 0, 0, 0, 392, 0, 0, 393, 0, 0, 394, 0, 0, 395, 0].getD i 0
theorem ok_0 : okS 0 cd_0 wp_0 0 24 = true := by decide +kernel
theorem mo_0 : mOK 0 388 387 0 139 = true := by decide +kernel
def wp_1 : Nat → Nat := fun i => [0, 0, 395, 0, 0, 394, 0, 303, 0, 0, 0, 0, 395, 0, 0, 303, 394, 0, 0, 0, 1125, 0, 0, 0, 1125, 0, 0, 0, 1125, 0, 0, 0, 290, 0, 0, 1133, 1125, 0, 0, 0, 290, 0, 0, 1133, 1125, 0, 0, 0, 285, 0, 0, 1133, 1125, 0].getD i 0
theorem ok_1 : okS 1 cd_1 wp_1 0 64 = true := by decide +kernel
theorem mo_1 : mOK 1 1124 1122 1123 139 = true := by decide +kernel
def wp_2 : Nat → Nat := fun i => [0, 0, 0, 1125, 0, 0, 0, 1125, 0, 1138, 0].getD i 0
theorem ok_2 : okS 2 cd_2 wp_2 0 11 = true := by decide +kernel
theorem mo_2 : mOK 2 1137 1135 1136 139 = true := by decide +kernel
def wp_3 : Nat → Nat := fun i => [0, 0, 0, 0, 1166, 0, 0, 1125, 0, 0, 0, 0, 0, 1166, 0, 0, 1193, 1125, 0, 1138, 0].getD i 0
theorem ok_3 : okS 3 cd_3 wp_3 0 21 = true := by decide +kernel
theorem mo_3 : mOK 3 1592 1590 1591 139 = true := by decide +kernel
def wp_4 : Nat → Nat := fun i => [0, 394, 0, 1129, 0].getD i 0
theorem ok_4 : okS 4 cd_4 wp_4 0 5 = true := by decide +kernel
theorem mo_4 : mOK 4 1441 1439 1440 139 = true := by decide +kernel
def wp_5 : Nat → Nat := fun i => [0, 0, 0, 0, 390, 0, 0, 0, 390, 0, 0, 0, 0, 0].getD i 0
theorem ok_5 : okS 5 cd_5 wp_5 0 14 = true := by decide +kernel
theorem mo_5 : mOK 5 1169 1167 1168 139 = true := by decide +kernel
def wp_6 : Nat → Nat := fun i => [0, 0, 0, 0, 390, 0, 0, 0, 390, 0, 0, 0, 0, 0, 390, 0, 0, 0, 0, 0, 395, 0, 0, 394, 0, 1129, 0, 0, 0, 0, 395, 0].getD i 0
theorem ok_6 : okS 6 cd_6 wp_6 0 32 = true := by decide +kernel
theorem mo_6 : mOK 6 1128 1127 30 139 = true := by decide +kernel
def wp_7 : Nat → Nat := fun i => [0, 0, 0, 0, 391, 0, 0, 0, 391, 0, 0, 0, 0, 0].getD i 0
theorem ok_7 : okS 7 cd_7 wp_7 0 14 = true := by decide +kernel
theorem mo_7 : mOK 7 1184 1183 36 139 = true := by decide +kernel
def wp_8 : Nat → Nat := fun i => [0, 0, 1166, 0, 0, 1181, 0, 0, 0, 1181, 0, 0].getD i 0
theorem ok_8 : okS 8 cd_8 wp_8 0 12 = true := by decide +kernel
theorem mo_8 : mOK 8 1180 1178 1179 139 = true := by decide +kernel
def wp_9 : Nat → Nat := fun i => [0, 0, 0, 1166, 0, 0, 0, 1181, 0, 0, 0, 1181, 0, 0].getD i 0
theorem ok_9 : okS 9 cd_9 wp_9 0 14 = true := by decide +kernel
theorem mo_9 : mOK 9 1188 1186 1187 139 = true := by decide +kernel
def wp_10 : Nat → Nat := fun i => [0, 0, 0, 0, 1181, 1193, 0, 0, 1166, 0, 0, 0, 1194, 0].getD i 0
theorem ok_10 : okS 10 cd_10 wp_10 0 14 = true := by decide +kernel
theorem mo_10 : mOK 10 1192 1190 1191 139 = true := by decide +kernel
def wp_11 : Nat → Nat := fun i => [0, 0, 1181, 0].getD i 0
theorem ok_11 : okS 11 cd_11 wp_11 0 4 = true := by decide +kernel
theorem mo_11 : mOK 11 1198 1196 1197 139 = true := by decide +kernel
def wp_12 : Nat → Nat := fun i => [0, 395, 0, 0, 0, 0, 395, 0, 391, 0, 1142, 0, 394, 1145, 0, 0, 0, 0, 1146, 0, 0, 393, 0, 0, 0, 0, 394, 1150, 0, 0, 394, 0, 1154, 0, 0, 0, 0, 0, 0, 0, 0, 1158, 0, 0, 0].getD i 0
theorem ok_12 : okS 12 cd_12 wp_12 0 45 = true := by decide +kernel
theorem mo_12 : mOK 12 1141 1140 31 139 = true := by decide +kernel
def wp_13 : Nat → Nat := fun i => [0, 0, 0, 0, 1162, 0, 0, 0, 0, 0, 0, 0, 1166, 1162, 0, 0, 0, 0, 0, 0, 0, 1170, 0, 1162, 0, 0, 0, 0, 0, 1170, 0, 0, 0, 0, 0, 0, 0, 0, 1146, 0, 0, 1170, 0, 0, 0, 0, 1170, 0, 1174, 1162, 0].getD i 0
theorem ok_13 : okS 13 cd_13 wp_13 0 64 = true := by decide +kernel
theorem mo_13 : mOK 13 1161 1160 33 139 = true := by decide +kernel
def wp_14 : Nat → Nat := fun i => [0, 0, 0, 0, 0, 0, 0, 0, 0, 0, 0, 0, 0, 0, 0, 0, 0, 0, 0, 0, 0, 0, 0, 0, 0, 0, 0, 0].getD i 0
theorem ok_14 : okS 14 cd_14 wp_14 0 28 = true := by decide +kernel
theorem mo_14 : mOK 14 1176 1175 0 139 = true := by decide +kernel
def wp_15 : Nat → Nat := fun i => [0, 0, 0, 0, 391, 0, 0, 0, 391, 0, 0, 0, 0, 0, 0, 0].getD i 0
theorem ok_15 : okS 15 cd_15 wp_15 0 16 = true := by decide +kernel
theorem mo_15 : mOK 15 1149 1148 32 139 = true := by decide +kernel
def wp_16 : Nat → Nat := fun i => [0, 393, 0, 0, 393, 0, 392, 0, 0, 0, 392, 0, 393, 0, 0, 0, 0, 393, 0, 0, 393, 0].getD i 0
theorem ok_16 : okS 16 cd_16 wp_16 0 22 = true := by decide +kernel
theorem mo_16 : mOK 16 1165 1164 34 139 = true := by decide +kernel
def wp_17 : Nat → Nat := fun i => [0, 393, 0, 0, 393, 0, 392, 0, 0, 0, 0, 0, 0, 393, 0, 0, 393, 0, 392, 0, 393, 0, 0].getD i 0
theorem ok_17 : okS 17 cd_17 wp_17 0 23 = true := by decide +kernel
theorem mo_17 : mOK 17 1173 1172 35 139 = true := by decide +kernel
def wp_18 : Nat → Nat := fun i => [0, 217, 0, 0, 218, 0].getD i 0
theorem ok_18 : okS 18 cd_18 wp_18 0 6 = true := by decide +kernel
theorem mo_18 : mOK 18 216 215 0 133 = true := by decide +kernel
def wp_19 : Nat → Nat := fun i => [0, 218, 654, 0, 218, 680, 0, 0, 0, 0, 0, 0, 0, 0, 0, 0, 684, 0, 0, 0, 0, 218, 680, 0, 0, 0, 0, 218, 0, 810, 0, 0, 0, 0, 0, 0, 0].getD i 0
theorem ok_19 : okS 19 cd_19 wp_19 0 37 = true := by decide +kernel
theorem mo_19 : mOK 19 653 651 652 133 = true := by decide +kernel
def wp_20 : Nat → Nat := fun i => [0, 218, 688, 689, 0, 0, 0, 280, 741, 0, 0, 0, 280, 760, 0, 0, 0, 0, 0, 0, 218, 791, 689, 0, 0, 0, 286, 741, 0, 0, 0, 286, 792, 0, 0, 0, 0, 0, 0, 218, 801, 689, 0, 0, 0, 291, 741, 0, 0, 0, 291, 0, 0, 0, 764, 0, 0, 0, 0, 0, 0, 0, 802, 0].getD i 0
theorem ok_20 : okS 20 cd_20 wp_20 0 64 = true := by decide +kernel
theorem mo_20 : mOK 20 687 686 4 133 = true := by decide +kernel
def wp_21 : Nat → Nat := fun i => [0, 745, 0, 0, 0, 0, 0, 0, 0, 0, 218, 753, 0, 0].getD i 0
theorem ok_21 : okS 21 cd_21 wp_21 0 14 = true := by decide +kernel
theorem mo_21 : mOK 21 744 743 5 133 = true := by decide +kernel
def wp_22 : Nat → Nat := fun i => [0, 0, 0, 0, 0, 764, 0, 0, 0, 0, 0, 0, 764, 0, 0, 218, 788, 689, 0, 0, 0, 0, 0, 0, 764, 0, 0, 218, 789, 689, 0, 0, 0, 0, 0, 0, 764, 0, 0, 0, 0, 0, 0, 0, 0, 218, 790, 689, 0, 0, 0, 0, 780, 0, 0].getD i 0
theorem ok_22 : okS 22 cd_22 wp_22 0 64 = true := by decide +kernel
theorem mo_22 : mOK 22 763 762 6 133 = true := by decide +kernel
def wp_23 : Nat → Nat := fun i => [0, 0, 0, 0, 0, 764, 0, 0, 218, 796, 689, 0, 0, 0, 0, 0, 797, 0, 0, 0, 798, 0, 0, 0, 0, 0, 0, 0, 0, 0, 799, 764, 0, 0, 0, 0, 218, 800, 689, 0, 0, 0, 0, 780, 0, 0].getD i 0
theorem ok_23 : okS 23 cd_23 wp_23 0 46 = true := by decide +kernel
theorem mo_23 : mOK 23 795 794 10 133 = true := by decide +kernel
def wp_24 : Nat → Nat := fun i => [0, 218, 0, 0, 768, 0, 0, 0, 0, 0, 0, 0, 0, 780, 0, 0].getD i 0
theorem ok_24 : okS 24 cd_24 wp_24 0 16 = true := by decide +kernel
theorem mo_24 : mOK 24 767 766 7 133 = true := by decide +kernel
def wp_25 : Nat → Nat := fun i => (([[0, 0, 0, 218, 806, 689, 0, 0, 218, 0, 0, 768, 0, 0, 0, 308, 0, 0, 218, 807, 689, 0, 0, 218, 0, 0, 768, 0, 0, 0, 312, 0], [0, 218, 808, 689, 0, 0, 218, 0, 0, 768, 0, 0, 0, 315, 0, 0, 218, 809, 689, 0, 0, 218, 0, 0, 768, 0, 0, 0, 318, 0, 0, 0], [0, 0, 0]] : List (List Nat)).getD (i / 32) []).getD (i % 32) 0
theorem ok_25 : okS 25 cd_25 wp_25 0 96 = true := by decide +kernel
theorem mo_25 : mOK 25 805 804 11 133 = true := by decide +kernel
def wp_26 : Nat → Nat := fun i => [0, 249, 0].getD i 0
theorem ok_26 : okS 26 cd_26 wp_26 0 3 = true := by decide +kernel
theorem mo_26 : mOK 26 248 247 0 135 = true := by decide +kernel
def wp_27 : Nat → Nat := fun i => [0, 0, 250, 0, 0, 251, 0, 1663, 0, 0, 0, 0, 0, 0, 0, 0, 0, 1663, 0, 0, 0, 1664, 0, 0, 0, 0, 0, 1664, 0, 0, 0, 0, 0, 0, 0, 0, 0, 0, 0, 0, 0, 0, 0, 0, 0, 250, 0, 0, 0, 0, 250, 0, 0, 0, 251, 0, 0, 0, 0, 251, 0, 0, 0, 0].getD i 0
theorem ok_27 : okS 27 cd_27 wp_27 0 64 = true := by decide +kernel
theorem mo_27 : mOK 27 1662 1660 1661 135 = true := by decide +kernel
def wp_28 : Nat → Nat := fun i => [0, 250, 0, 251, 1674, 0].getD i 0
theorem ok_28 : okS 28 cd_28 wp_28 0 6 = true := by decide +kernel
theorem mo_28 : mOK 28 1673 1671 1672 135 = true := by decide +kernel
def wp_29 : Nat → Nat := fun i => [0, 0, 0, 0, 0, 0, 0, 0, 0, 0, 0, 0, 0, 0, 0, 0, 0, 1677, 0, 0, 0, 0, 0, 0, 0, 0, 0, 0, 0, 0, 0, 0, 0, 0, 0].getD i 0
theorem ok_29 : okS 29 cd_29 wp_29 0 35 = true := by decide +kernel
theorem mo_29 : mOK 29 1676 1675 0 135 = true := by decide +kernel
def wp_30 : Nat → Nat := fun i => [0, 0, 0, 0, 0, 0, 0, 0, 0, 0, 0, 0, 0, 0, 1680, 0, 0, 0, 0, 0, 0, 0, 0, 0, 0, 0].getD i 0
theorem ok_30 : okS 30 cd_30 wp_30 0 26 = true := by decide +kernel
theorem mo_30 : mOK 30 1679 1678 0 135 = true := by decide +kernel
def wp_31 : Nat → Nat := fun i => [0, 1670, 0, 0, 0, 0, 0, 0, 0, 0, 0, 0, 0, 0, 0, 0, 0, 0, 0, 0, 250, 0, 0, 0, 0, 0, 251, 1674, 0, 0, 0, 0, 0, 1681, 0, 0, 0, 0, 0, 0, 0, 0, 0, 0, 0, 0].getD i 0
theorem ok_31 : okS 31 cd_31 wp_31 0 46 = true := by decide +kernel
theorem mo_31 : mOK 31 1669 1667 1668 135 = true := by decide +kernel
def wp_32 : Nat → Nat := fun i => [0, 172, 0, 0, 173, 0, 0, 174, 0, 0, 175, 0].getD i 0
theorem ok_32 : okS 32 cd_32 wp_32 0 12 = true := by decide +kernel
theorem mo_32 : mOK 32 171 170 0 131 = true := by decide +kernel
def wp_33 : Nat → Nat := fun i => [0, 173, 0].getD i 0
theorem ok_33 : okS 33 cd_33 wp_33 0 3 = true := by decide +kernel
theorem mo_33 : mOK 33 556 554 555 131 = true := by decide +kernel
def wp_34 : Nat → Nat := fun i => [0, 174, 0, 0].getD i 0
theorem ok_34 : okS 34 cd_34 wp_34 0 4 = true := by decide +kernel
theorem mo_34 : mOK 34 1153 1151 1152 131 = true := by decide +kernel
def wp_35 : Nat → Nat := fun i => [0, 0, 0, 0, 174, 0, 0, 0, 174, 0, 0, 0, 0, 0].getD i 0
theorem ok_35 : okS 35 cd_35 wp_35 0 14 = true := by decide +kernel
theorem mo_35 : mOK 35 1157 1155 1156 131 = true := by decide +kernel
def wp_36 : Nat → Nat := fun i => [0, 175, 0, 0, 0, 0, 0, 0, 0, 0, 0, 0].getD i 0
theorem ok_36 : okS 36 cd_36 wp_36 0 12 = true := by decide +kernel
theorem mo_36 : mOK 36 1132 1130 1131 131 = true := by decide +kernel
def wp_37 : Nat → Nat := fun i => [0, 227, 0, 0, 228, 0, 0, 0, 229, 0].getD i 0
theorem ok_37 : okS 37 cd_37 wp_37 0 10 = true := by decide +kernel
theorem mo_37 : mOK 37 226 225 0 134 = true := by decide +kernel
def wp_38 : Nat → Nat := fun i => [0, 0, 230, 0, 229, 0, 983, 984, 0, 985, 0, 0, 231, 0, 229, 0, 986, 0, 232, 998, 0].getD i 0
theorem ok_38 : okS 38 cd_38 wp_38 0 21 = true := by decide +kernel
theorem mo_38 : mOK 38 982 980 981 134 = true := by decide +kernel
def wp_39 : Nat → Nat := fun i => [0, 0, 230, 0, 0, 231, 0, 0, 232, 0, 228, 919, 0, 228, 920, 0, 0, 0, 0, 231, 0, 0, 0, 921, 0, 0, 0, 0, 0, 231, 0, 0, 231, 0, 228, 920, 0, 0, 0, 0, 228, 0, 952, 0, 0, 0, 0, 0].getD i 0
theorem ok_39 : okS 39 cd_39 wp_39 0 48 = true := by decide +kernel
theorem mo_39 : mOK 39 918 916 917 134 = true := by decide +kernel
def wp_40 : Nat → Nat := fun i => [0, 925, 0, 0, 0, 0, 0, 0, 228, 0, 0, 0, 0, 0, 0, 0, 936, 0, 0, 0, 0, 0, 0, 228, 937, 930, 0, 0, 0, 0, 938, 0, 0, 0, 942, 0, 0, 0, 0, 0, 0, 0, 0, 0, 0, 938, 0, 0].getD i 0
theorem ok_40 : okS 40 cd_40 wp_40 0 48 = true := by decide +kernel
theorem mo_40 : mOK 40 924 923 14 134 = true := by decide +kernel
def wp_41 : Nat → Nat := fun i => [0, 228, 929, 930, 0, 0, 0, 0, 228, 931, 930, 0, 0, 0, 0, 228, 932, 930, 0, 0, 0, 0, 228, 933, 930, 0, 0, 0, 0, 228, 934, 930, 0, 0, 0, 0, 228, 935, 930, 0, 0, 0, 0, 0].getD i 0
theorem ok_41 : okS 41 cd_41 wp_41 0 44 = true := by decide +kernel
theorem mo_41 : mOK 41 928 927 15 134 = true := by decide +kernel
def wp_42 : Nat → Nat := fun i => [0, 230, 0, 0, 230, 0, 229, 0, 0, 0, 229, 0, 230, 0, 0, 0, 0, 0, 0, 0, 0, 230, 0, 0, 230, 0].getD i 0
theorem ok_42 : okS 42 cd_42 wp_42 0 26 = true := by decide +kernel
theorem mo_42 : mOK 42 941 940 16 134 = true := by decide +kernel
def wp_43 : Nat → Nat := fun i => [0, 0, 0, 0, 229, 0, 0, 0, 0, 0, 0, 0, 0, 229, 0, 0, 0, 228, 946, 930, 0, 0, 0, 947, 0, 0, 0, 0, 0, 0, 973, 0, 0, 0, 0, 0, 973, 0, 228, 977, 930, 0, 0, 0, 0, 0, 0, 0].getD i 0
theorem ok_43 : okS 43 cd_43 wp_43 0 48 = true := by decide +kernel
theorem mo_43 : mOK 43 945 944 17 134 = true := by decide +kernel
def wp_44 : Nat → Nat := fun i => (([[0, 0, 0, 0, 228, 951, 930, 0, 0, 0, 0, 0, 947, 0, 0, 0, 0, 938, 0, 0, 0, 0, 0, 0, 228, 0, 952, 0, 0, 0, 0, 0], [942, 0, 0, 228, 0, 952, 0, 0, 0, 0, 0, 0, 228, 953, 930, 0, 0, 0, 954, 0, 0, 0, 958, 0, 0, 0, 0, 228, 0, 952, 0, 0], [0, 0, 228, 0, 952, 0, 0, 0, 0, 0, 0, 0, 0, 958, 0, 0, 0, 0, 0, 0, 938, 0, 0]] : List (List Nat)).getD (i / 32) []).getD (i % 32) 0
theorem ok_44 : okS 44 cd_44 wp_44 0 96 = true := by decide +kernel
theorem mo_44 : mOK 44 950 949 18 134 = true := by decide +kernel
def wp_45 : Nat → Nat := fun i => [0, 0, 0, 0, 229, 0, 0, 0, 228, 0, 0, 936, 0, 0, 0, 0, 962, 0, 0, 0, 0, 0, 0, 0, 0, 0, 0, 0, 0, 0, 0, 938, 0, 0, 0, 954, 0, 0, 0, 973, 0, 228, 0, 952, 0, 0, 0, 0, 0, 0, 0].getD i 0
theorem ok_45 : okS 45 cd_45 wp_45 0 64 = true := by decide +kernel
theorem mo_45 : mOK 45 961 960 20 134 = true := by decide +kernel
def wp_46 : Nat → Nat := fun i => [0, 0, 232, 0, 0, 0, 0, 232, 0, 0, 0, 938, 0].getD i 0
theorem ok_46 : okS 46 cd_46 wp_46 0 13 = true := by decide +kernel
theorem mo_46 : mOK 46 957 956 19 134 = true := by decide +kernel
def wp_47 : Nat → Nat := fun i => [0, 0, 0, 0, 0, 938, 0].getD i 0
theorem ok_47 : okS 47 cd_47 wp_47 0 7 = true := by decide +kernel
theorem mo_47 : mOK 47 976 975 22 134 = true := by decide +kernel
def wp_48 : Nat → Nat := fun i => [0, 228, 966, 930, 0, 0, 0, 0, 228, 967, 930, 0, 0, 0, 0, 228, 968, 930, 0, 0, 0, 0, 228, 969, 930, 0, 0, 0, 0, 228, 970, 930, 0, 0, 0, 0, 228, 971, 930, 0, 0, 0, 0, 228, 972, 930, 0, 0, 0, 0, 0].getD i 0
theorem ok_48 : okS 48 cd_48 wp_48 0 64 = true := by decide +kernel
theorem mo_48 : mOK 48 965 964 21 134 = true := by decide +kernel
def wp_49 : Nat → Nat := fun i => [0, 414, 0, 0, 0, 415, 0, 0, 0, 419, 0, 0, 0, 420, 0, 0, 0, 421, 0, 0, 0, 422, 0, 0, 423, 0, 0, 416, 0].getD i 0
theorem ok_49 : okS 49 cd_49 wp_49 0 29 = true := by decide +kernel
theorem mo_49 : mOK 49 413 412 0 140 = true := by decide +kernel
def wp_50 : Nat → Nat := fun i => [0, 0, 416, 0, 0, 416, 0].getD i 0
theorem ok_50 : okS 50 cd_50 wp_50 0 7 = true := by decide +kernel
theorem mo_50 : mOK 50 1120 1118 1119 140 = true := by decide +kernel
def wp_51 : Nat → Nat := fun i => (([[0, 419, 0, 1387, 0, 1388, 0, 0, 0, 0, 0, 0, 0, 0, 0, 0, 0, 0, 0, 423, 0, 0, 0, 1389, 0, 1390, 0, 1391, 0, 1392, 0, 1393], [0, 0, 0, 0, 417, 0, 0, 1389, 0, 0, 418, 0, 1390, 0, 0, 0, 0, 1389, 417, 0, 0, 1390, 418, 0, 1394, 0, 1391, 0, 0, 0, 0, 1392], [0, 0, 0, 0, 0, 0, 0, 0, 0, 0, 0, 0, 0, 0, 0, 0, 0, 0, 0, 0, 0, 0, 0, 0, 0, 1395, 0, 0, 0, 0, 0, 419], [0, 0, 0, 419, 0, 0, 0, 0, 0, 0, 0, 0, 0, 0, 0, 0]] : List (List Nat)).getD (i / 32) []).getD (i % 32) 0
theorem ok_51 : okS 51 cd_51 wp_51 0 128 = true := by decide +kernel
theorem mo_51 : mOK 51 1386 1384 1385 140 = true := by decide +kernel
def wp_52 : Nat → Nat := fun i => (([[0, 0, 0, 0, 0, 0, 0, 0, 0, 0, 0, 0, 0, 0, 0, 0, 0, 0, 0, 0, 0, 0, 0, 0, 0, 0, 0, 0, 0, 0, 0, 0], [415, 0, 0, 0, 0, 0, 1399, 0, 0, 415, 0, 0, 0, 0, 0, 416, 0, 0, 415, 0, 0, 416, 0, 0, 0, 0, 0, 1399, 0, 0, 0, 0], [0, 415, 0, 0, 0, 0, 0, 0, 0]] : List (List Nat)).getD (i / 32) []).getD (i % 32) 0
theorem ok_52 : okS 52 cd_52 wp_52 0 96 = true := by decide +kernel
theorem mo_52 : mOK 52 1398 1397 46 140 = true := by decide +kernel
def wp_53 : Nat → Nat := fun i => [0, 0, 0, 0, 419, 0, 0, 0, 419, 0, 0, 0, 0, 0].getD i 0
theorem ok_53 : okS 53 cd_53 wp_53 0 14 = true := by decide +kernel
theorem mo_53 : mOK 53 1407 1405 1406 140 = true := by decide +kernel
def wp_54 : Nat → Nat := fun i => [0, 0, 0, 0, 0, 0, 419, 0, 0, 0, 0, 419, 0, 0, 0, 0, 0, 0, 0, 0].getD i 0
theorem ok_54 : okS 54 cd_54 wp_54 0 20 = true := by decide +kernel
theorem mo_54 : mOK 54 1403 1401 1402 140 = true := by decide +kernel
def wp_55 : Nat → Nat := fun i => [0, 423, 0, 0, 0, 1421, 0, 0, 0, 423, 0, 0, 0, 0].getD i 0
theorem ok_55 : okS 55 cd_55 wp_55 0 14 = true := by decide +kernel
theorem mo_55 : mOK 55 1453 1451 1452 140 = true := by decide +kernel
def wp_56 : Nat → Nat := fun i => [0, 0, 0, 0, 0, 0, 281, 1419, 0, 0, 0, 281, 0, 0, 1420, 0, 0, 1421, 0, 0, 0, 0, 0, 0, 423, 0, 0, 0, 0, 0, 423, 0, 0, 0, 0].getD i 0
theorem ok_56 : okS 56 cd_56 wp_56 0 35 = true := by decide +kernel
theorem mo_56 : mOK 56 1418 1416 1417 140 = true := by decide +kernel
def wp_57 : Nat → Nat := fun i => [0, 420, 0, 1387, 0, 421, 0, 1387, 0, 422, 0, 1387, 0, 0, 424, 0, 0, 425, 0, 1438, 0, 0, 0, 0, 0, 0, 0, 0, 0, 0, 0, 0, 0, 0, 0, 0, 0, 0, 1442, 0, 0, 0, 1443, 0, 0, 0, 0, 0, 1444, 0, 0, 0, 0, 0].getD i 0
theorem ok_57 : okS 57 cd_57 wp_57 0 64 = true := by decide +kernel
theorem mo_57 : mOK 57 1437 1435 1436 140 = true := by decide +kernel
def wp_58 : Nat → Nat := fun i => (([[0, 0, 424, 0, 0, 1448, 1449, 424, 0, 0, 0, 0, 420, 0, 0, 0, 0, 1421, 0, 0, 0, 425, 0, 0, 0, 0, 425, 0, 0, 1450, 0, 420], [0, 0, 0, 0, 0, 421, 0, 0, 0, 0, 422, 0, 0, 0, 420, 0, 0, 0, 1450, 0, 0, 421, 0, 0, 0, 0, 422, 0, 0, 0, 0, 0], [0]] : List (List Nat)).getD (i / 32) []).getD (i % 32) 0
theorem ok_58 : okS 58 cd_58 wp_58 0 96 = true := by decide +kernel
theorem mo_58 : mOK 58 1447 1446 48 140 = true := by decide +kernel
def wp_59 : Nat → Nat := fun i => [0, 0, 0, 0, 420, 0, 0, 0, 0, 421, 0, 0, 0, 0, 422, 0, 0, 0, 0, 0, 0, 0, 420, 0, 0, 0, 0, 0, 0, 0, 421, 0, 0, 0, 0, 422, 0, 0, 0].getD i 0
theorem ok_59 : okS 59 cd_59 wp_59 0 39 = true := by decide +kernel
theorem mo_59 : mOK 59 1457 1455 1456 140 = true := by decide +kernel
def wp_60 : Nat → Nat := fun i => [0, 424, 0].getD i 0
theorem ok_60 : okS 60 cd_60 wp_60 0 3 = true := by decide +kernel
theorem mo_60 : mOK 60 1527 1525 1526 140 = true := by decide +kernel
def wp_61 : Nat → Nat := fun i => [0, 425, 0].getD i 0
theorem ok_61 : okS 61 cd_61 wp_61 0 3 = true := by decide +kernel
theorem mo_61 : mOK 61 1482 1480 1481 140 = true := by decide +kernel
def wp_62 : Nat → Nat := fun i => [0, 370, 0, 0, 371, 374, 0, 0, 0, 0, 374, 0, 0, 0, 374, 0, 371, 0, 0, 373, 0, 0, 0, 0, 0, 375, 0, 0, 376, 0].getD i 0
theorem ok_62 : okS 62 cd_62 wp_62 0 30 = true := by decide +kernel
theorem mo_62 : mOK 62 369 368 0 138 = true := by decide +kernel
def wp_63 : Nat → Nat := fun i => [0, 376, 0].getD i 0
theorem ok_63 : okS 63 cd_63 wp_63 0 3 = true := by decide +kernel
theorem mo_63 : mOK 63 573 571 572 138 = true := by decide +kernel
def wp_64 : Nat → Nat := fun i => [0, 375, 0, 0, 375, 0, 374, 0, 0, 0, 374, 0, 375, 0, 0, 0, 374, 0, 375, 0, 0, 582, 0, 0, 375, 0, 0, 0, 0, 375, 0, 0, 0, 376, 0, 0, 596, 376, 0].getD i 0
theorem ok_64 : okS 64 cd_64 wp_64 0 39 = true := by decide +kernel
theorem mo_64 : mOK 64 581 579 580 138 = true := by decide +kernel
def wp_65 : Nat → Nat := fun i => [0, 375, 0, 0, 0, 0, 0, 0, 0, 0, 376, 0, 0, 0, 0, 0, 374, 0, 0, 0, 374, 0, 0, 0, 0, 0, 0, 0, 374, 0, 0, 582, 0, 0, 375, 0, 0, 376, 0, 0, 376, 0, 0].getD i 0
theorem ok_65 : okS 65 cd_65 wp_65 0 43 = true := by decide +kernel
theorem mo_65 : mOK 65 627 625 626 138 = true := by decide +kernel
def wp_66 : Nat → Nat := fun i => [0, 0, 376, 0].getD i 0
theorem ok_66 : okS 66 cd_66 wp_66 0 4 = true := by decide +kernel
theorem mo_66 : mOK 66 640 638 639 138 = true := by decide +kernel
def wp_67 : Nat → Nat := fun i => [0, 454, 0, 0, 455, 0, 0, 456, 0, 0, 0, 457, 0, 0, 0, 458, 0, 0, 0, 459, 0].getD i 0
theorem ok_67 : okS 67 cd_67 wp_67 0 21 = true := by decide +kernel
theorem mo_67 : mOK 67 453 452 0 141 = true := by decide +kernel
def wp_68 : Nat → Nat := fun i => [0, 0, 0, 0, 457, 0, 0, 0, 457, 0, 0, 0, 1503, 0].getD i 0
theorem ok_68 : okS 68 cd_68 wp_68 0 14 = true := by decide +kernel
theorem mo_68 : mOK 68 1511 1510 52 141 = true := by decide +kernel
def wp_69 : Nat → Nat := fun i => [0, 0, 0, 0, 457, 0, 0, 0, 457, 0, 0, 0, 0].getD i 0
theorem ok_69 : okS 69 cd_69 wp_69 0 13 = true := by decide +kernel
theorem mo_69 : mOK 69 1502 1501 50 141 = true := by decide +kernel
def wp_70 : Nat → Nat := fun i => [0, 0, 0, 0, 458, 0, 0, 0, 458, 0, 0, 0, 0, 0].getD i 0
theorem ok_70 : okS 70 cd_70 wp_70 0 14 = true := by decide +kernel
theorem mo_70 : mOK 70 1507 1506 51 141 = true := by decide +kernel
def wp_71 : Nat → Nat := fun i => [0, 0, 0, 0, 0, 0, 0, 0, 0, 0, 455, 0, 0, 0, 0, 1469, 0, 456, 0, 0, 455, 1470, 0, 456, 0, 0, 1471, 0, 0, 0, 456, 0, 0, 1471, 0, 0, 0, 0, 0, 0, 0].getD i 0
theorem ok_71 : okS 71 cd_71 wp_71 0 41 = true := by decide +kernel
theorem mo_71 : mOK 71 1468 1466 1467 141 = true := by decide +kernel
def wp_72 : Nat → Nat := fun i => (([[0, 0, 0, 0, 0, 0, 0, 0, 0, 458, 0, 0, 0, 455, 0, 0, 0, 0, 1469, 0, 456, 0, 0, 455, 1470, 0, 458, 0, 0, 456, 1494, 0], [0, 0, 458, 0, 0, 0, 0, 0, 0, 0, 0, 1495, 0, 0, 1508, 0, 0, 0, 0, 0, 0, 0, 0, 0, 0, 0, 0, 0, 0, 0, 0, 0], [0, 0, 0, 0, 1513, 0]] : List (List Nat)).getD (i / 32) []).getD (i % 32) 0
theorem ok_72 : okS 72 cd_72 wp_72 0 96 = true := by decide +kernel
theorem mo_72 : mOK 72 1493 1491 1492 141 = true := by decide +kernel
def wp_73 : Nat → Nat := fun i => [0, 0, 0, 1499, 0, 0, 0, 0, 0, 1503, 0, 0, 0, 0, 0, 0, 0, 0, 0, 1504, 0, 0, 0, 0, 0, 0, 0, 0, 0, 0, 1508, 0, 0, 1512, 0, 0, 0, 0, 0, 0, 1499, 0, 0, 0].getD i 0
theorem ok_73 : okS 73 cd_73 wp_73 0 44 = true := by decide +kernel
theorem mo_73 : mOK 73 1498 1497 49 141 = true := by decide +kernel
def wp_74 : Nat → Nat := fun i => [0, 0, 0, 0, 0, 0, 0, 0, 0, 0, 0, 0, 1504, 0, 0, 0, 0, 0, 0, 0, 0, 0, 1508, 0, 0, 1508, 0, 0, 0, 0, 0, 0, 0, 0, 0, 0, 0, 0, 0].getD i 0
theorem ok_74 : okS 74 cd_74 wp_74 0 39 = true := by decide +kernel
theorem mo_74 : mOK 74 1516 1515 53 141 = true := by decide +kernel
def wp_75 : Nat → Nat := fun i => [0, 283, 0, 0, 1539, 0, 0, 0, 0, 0, 0, 0, 283, 0, 0, 0, 1540, 0, 456, 1541, 0, 456, 0, 0, 455, 1470, 0, 456, 0, 0, 1471, 0, 0, 0, 0, 0, 309, 0, 0, 0, 0, 0, 0, 0, 0, 0].getD i 0
theorem ok_75 : okS 75 cd_75 wp_75 0 46 = true := by decide +kernel
theorem mo_75 : mOK 75 1538 1536 1537 141 = true := by decide +kernel
def wp_76 : Nat → Nat := fun i => [0, 283, 1553, 0, 0, 283, 1554, 0, 0, 0, 0, 1499, 0, 0, 0, 0, 0, 0, 1503, 0, 0, 0, 0, 0, 0, 0, 0, 0, 0, 0, 0, 0, 0, 0, 0, 0, 1558, 1512, 0, 0, 0, 0, 0, 0, 1499, 0, 0, 0, 0, 0, 0, 0, 1508, 0, 0, 0, 0, 1568, 0].getD i 0
theorem ok_76 : okS 76 cd_76 wp_76 0 64 = true := by decide +kernel
theorem mo_76 : mOK 76 1552 1550 1551 141 = true := by decide +kernel
def wp_77 : Nat → Nat := fun i => [0, 1562, 0, 0, 456, 0, 0, 1471, 0, 283, 0, 0, 1539, 0, 0, 0, 0, 0, 0, 0, 1508, 0, 0].getD i 0
theorem ok_77 : okS 77 cd_77 wp_77 0 23 = true := by decide +kernel
theorem mo_77 : mOK 77 1561 1560 54 141 = true := by decide +kernel
def wp_78 : Nat → Nat := fun i => [0, 0, 0, 0, 0, 0, 0, 0, 0, 0, 1572, 0, 0, 0, 0, 0, 0, 0, 0, 0, 0, 0, 0, 0, 0, 0, 0].getD i 0
theorem ok_78 : okS 78 cd_78 wp_78 0 27 = true := by decide +kernel
theorem mo_78 : mOK 78 1571 1570 55 141 = true := by decide +kernel
def wp_79 : Nat → Nat := fun i => [0, 0, 0, 0, 283, 1553, 0, 0, 0, 0, 0, 0, 0, 0, 0, 0, 0, 1558, 0, 0, 1508, 0, 0, 0, 0, 0, 0, 0].getD i 0
theorem ok_79 : okS 79 cd_79 wp_79 0 28 = true := by decide +kernel
theorem mo_79 : mOK 79 1575 1574 56 141 = true := by decide +kernel
def wp_80 : Nat → Nat := fun i => [0, 0, 0, 0, 0, 0, 0, 0, 456, 0, 0, 455, 1587, 0, 0, 0, 456, 0, 1588, 0, 0, 0, 0, 0, 0, 0, 0, 455, 1589, 0, 0, 0, 0].getD i 0
theorem ok_80 : okS 80 cd_80 wp_80 0 33 = true := by decide +kernel
theorem mo_80 : mOK 80 1586 1584 1585 141 = true := by decide +kernel
def wp_81 : Nat → Nat := fun i => [0, 0, 0, 0, 0, 0, 0, 0, 0, 0, 0, 0, 456, 0, 0, 455, 1587, 0, 0, 0, 456, 0, 1604, 0, 0, 0, 0, 0, 0, 0, 0, 0, 309, 0, 0, 0, 0, 0, 0, 0, 0, 0, 0, 0, 0, 455, 1589, 0, 0, 0, 0, 0, 0, 0, 0].getD i 0
theorem ok_81 : okS 81 cd_81 wp_81 0 64 = true := by decide +kernel
theorem mo_81 : mOK 81 1603 1601 1602 141 = true := by decide +kernel
def wp_82 : Nat → Nat := fun i => [0, 0, 0, 288, 1554, 0, 460, 0, 0, 283, 1553, 461, 0, 0, 0, 0, 0, 0, 0, 1619, 0, 0, 455, 0, 0, 0, 0, 1469, 0, 456, 0, 0, 455, 1470, 0, 0, 0, 1623, 0, 0, 0].getD i 0
theorem ok_82 : okS 82 cd_82 wp_82 0 41 = true := by decide +kernel
theorem mo_82 : mOK 82 1618 1616 1617 141 = true := by decide +kernel
def wp_83 : Nat → Nat := fun i => [0, 0, 0, 0, 461, 0, 0, 0, 0, 0, 0, 0, 0, 0, 0, 0, 459, 0, 0, 0, 459, 0, 0, 456, 0, 0, 1471, 0, 283, 0, 0, 1539, 0, 0, 0, 0, 0].getD i 0
theorem ok_83 : okS 83 cd_83 wp_83 0 37 = true := by decide +kernel
theorem mo_83 : mOK 83 1626 1625 58 141 = true := by decide +kernel
def wp_84 : Nat → Nat := fun i => [0, 460, 0, 0, 0, 0, 0, 0, 0, 0, 0].getD i 0
theorem ok_84 : okS 84 cd_84 wp_84 0 11 = true := by decide +kernel
theorem mo_84 : mOK 84 1622 1621 57 141 = true := by decide +kernel
def wp_85 : Nat → Nat := fun i => [0, 0, 0, 0, 0, 0, 0, 0, 0, 0, 459, 0, 0, 0, 459, 0, 0, 0, 0, 0].getD i 0
theorem ok_85 : okS 85 cd_85 wp_85 0 20 = true := by decide +kernel
theorem mo_85 : mOK 85 1638 1637 60 141 = true := by decide +kernel
def wp_86 : Nat → Nat := fun i => [1503, 0, 0, 0, 0, 0, 0, 0, 0, 1619, 0, 0, 0, 0, 0, 1635, 1512, 0, 0, 0, 0, 0].getD i 0
theorem ok_86 : okS 86 cd_86 wp_86 0 22 = true := by decide +kernel
theorem mo_86 : mOK 86 1634 1633 59 141 = true := by decide +kernel
def wp_87 : Nat → Nat := fun i => [0, 0, 0, 0, 0, 0, 461, 0, 0, 0, 0, 0, 1635, 1639, 0, 0, 0, 0, 0].getD i 0
theorem ok_87 : okS 87 cd_87 wp_87 0 19 = true := by decide +kernel
theorem mo_87 : mOK 87 1647 1646 61 141 = true := by decide +kernel
def wp_88 : Nat → Nat := fun i => [0, 0, 0, 0, 0, 0, 461, 0, 0, 0, 0, 1631, 1639, 0, 0, 0, 0, 0].getD i 0
theorem ok_88 : okS 88 cd_88 wp_88 0 18 = true := by decide +kernel
theorem mo_88 : mOK 88 1630 1628 1629 141 = true := by decide +kernel
def wp_89 : Nat → Nat := fun i => [1503, 0, 0, 0, 0, 0, 0, 0, 0, 1619, 0, 0, 0, 0, 1644, 1512, 0, 0, 0, 0, 0].getD i 0
theorem ok_89 : okS 89 cd_89 wp_89 0 21 = true := by decide +kernel
theorem mo_89 : mOK 89 1643 1641 1642 141 = true := by decide +kernel
def wp_90 : Nat → Nat := fun i => [0, 0, 0, 0, 0, 0, 0, 0, 0, 0, 0, 1619, 0, 0, 0, 461, 0, 0, 0, 0, 1635, 0, 0, 0, 0, 1631, 0, 0, 0, 0, 1644, 0, 0, 0, 0, 0, 0, 0, 0].getD i 0
theorem ok_90 : okS 90 cd_90 wp_90 0 39 = true := by decide +kernel
theorem mo_90 : mOK 90 1651 1649 1650 141 = true := by decide +kernel
def wp_91 : Nat → Nat := fun i => [0, 268, 0, 0, 269, 0, 0, 270, 0, 0, 271, 0].getD i 0
theorem ok_91 : okS 91 cd_91 wp_91 0 12 = true := by decide +kernel
theorem mo_91 : mOK 91 267 266 0 137 = true := by decide +kernel
def wp_92 : Nat → Nat := fun i => [0, 271, 0].getD i 0
theorem ok_92 : okS 92 cd_92 wp_92 0 3 = true := by decide +kernel
theorem mo_92 : mOK 92 552 550 551 137 = true := by decide +kernel
def wp_93 : Nat → Nat := fun i => [0, 0, 0, 0, 271, 0, 0, 0, 0, 0].getD i 0
theorem ok_93 : okS 93 cd_93 wp_93 0 10 = true := by decide +kernel
theorem mo_93 : mOK 93 1015 1013 1014 137 = true := by decide +kernel
def wp_94 : Nat → Nat := fun i => [0, 271, 0, 0, 0, 270, 0, 0, 269, 0, 0, 0, 0, 0, 0].getD i 0
theorem ok_94 : okS 94 cd_94 wp_94 0 15 = true := by decide +kernel
theorem mo_94 : mOK 94 752 750 751 137 = true := by decide +kernel
